
/-- what is told of the shelves is the same -/
def TSH (s : Int) (ht rc rm t : Nat → Int32) : Prop := s = (t 1).toInt ∧ ∀ j : Nat, (j : Int) < s → (ht j).toInt = (t (99 + 3 * j)).toInt ∧ (rc j).toInt = (t (99 + 3 * j + 1)).toInt ∧ (rm j).toInt = (t (99 + 3 * j + 2)).toInt
theorem TD.wt {w : Int} {wd dp wt br bk hb : Nat → Int32} {lids tops : Int32} {t : Nat → Int32} (h : TD w wd dp wt br bk hb lids tops t) {j : Nat} (hj : (j : Int) < w) : wt j = wtM t j := (i_eq _ _).mpr (h.2 j hj).2.2.1
theorem TD.br {w : Int} {wd dp wt br bk hb : Nat → Int32} {lids tops : Int32} {t : Nat → Int32} (h : TD w wd dp wt br bk hb lids tops t) {j : Nat} (hj : (j : Int) < w) : br j = brM t j := (i_eq _ _).mpr (h.2 j hj).2.2.2.1
theorem TD.dp {w : Int} {wd dp wt br bk hb : Nat → Int32} {lids tops : Int32} {t : Nat → Int32} (h : TD w wd dp wt br bk hb lids tops t) {j : Nat} (hj : (j : Int) < w) : dp j = dpM t j := (i_eq _ _).mpr (h.2 j hj).2.1
theorem TD.rs {w : Int} {wd dp wt br bk hb : Nat → Int32} {lids tops : Int32} {t : Nat → Int32} (h : TD w wd dp wt br bk hb lids tops t) {u l : Nat} (hu : (u : Int) < w) (hl : (l : Int) < w) : rsC wd dp lids u l = rsM t u l := by
  have a := (h.2 u hu).1
  have b := (h.2 l hl).1
  have c := (h.2 l hl).2.2.2.2.2.2.1
  have d := h.dp hl
  unfold rsC rsM
  rw [a, b]
  by_cases q : (t (3 + 8 * u)).toInt < (t (3 + 8 * l)).toInt
  · by_cases z : BT lids l = true
    · rw [if_pos z] at c
      rw [if_neg (fun y => by rw [z] at y; exact absurd y.2 (by decide)), if_neg (fun y => by have := y.2; omega)]; exact d
    · rw [if_neg z] at c
      rw [if_pos ⟨q, Bool.eq_false_iff.mpr z⟩, if_pos ⟨q, by omega⟩]
  · rw [if_neg (fun y => q y.1), if_neg (fun y => q y.1)]; exact d
/-- the class's reason is the reference's -/
theorem RFZ.CM {w : Int} {wd dp wt br bk hb my : Nat → Int32} {lids tops : Int32} {t : Nat → Int32} {E : (Nat → (Nat → Int32) → Int32)} (hT : TD w wd dp wt br bk hb lids tops t) (hM : ∀ u l : Nat, (u : Int) < w → (l : Int) < w → ¬ u = l → BT (my l) u = mayM t E u l) {r : Nat → Int32} {n : Nat} (hr : ∀ p, p < n → 0 ≤ (r p).toInt ∧ (r p).toInt < w) (hd : ∀ p, p + 1 < n → ¬ r (p + 1) = r p) {h h' : Int32} (hh : h = h') {x : Int} (a : RFZ (fun u l => BT (my l) u) wt br dp (rsC wd dp lids) r n h x) : RFZ (fun u l => mayM t E u l) (wtM t) (brM t) (dpM t) (rsM t) r n h' x := by
  refine a.cong hh (fun p hp => ?_) (fun p hp => ?_) (fun p hp => ?_) (fun p hp => ?_) (fun p hp => ?_)
  · have a1 := hr p (by omega)
    have a2 := hr (p + 1) hp
    have a3 := hd p hp
    exact hM _ _ (by omega) (by omega) (fun e => a3 ((i_eq _ _).mpr (by omega)))
  · have a1 := hr p hp; exact hT.wt (by omega)
  · have a1 := hr p hp; exact hT.br (by omega)
  · have a1 := hr p hp; exact hT.dp (by omega)
  · have a1 := hr p (by omega)
    have a2 := hr (p + 1) hp
    exact hT.rs (by omega) (by omega)
theorem ROW.nw {sh st lv f : Nat → Int32} {b : Nat} {nw ns : Int} (h : ST sh st lv f b nw ns) {s k : Int32} {r : Nat → Int32} {n : Nat} (hs : 0 ≤ s.toInt) (hR : ROW sh st lv s k r n) {p : Nat} (hp : p < n) : 0 ≤ (r p).toInt ∧ (r p).toInt < nw := by
  obtain ⟨w, h1, h2, h3, h4, h5⟩ := hR.2 p hp
  have := h.2.2.1 w h1 (by rw [h3]; exact hs)
  omega
theorem ROW.n11 {sh st lv : Nat → Int32} {s k : Int32} {r : Nat → Int32} {n w : Nat} (hR : ROW sh st lv s k r n) (hw : w < 12) (hs : 0 ≤ s.toInt) (ho : (sh w).toInt = -1) : n ≤ 11 ∧ ∀ p, p < n → ¬ (r p).toInt = (w : Int) := by
  refine ⟨?_, fun p hp e => ?_⟩
  · have a := hR.size
    have b := cnB_lt (P := std sh st s k) (w := w) (fun z => by have y := (std_iff.mp z).1; rw [y] at ho; omega) 12 hw
    omega
  · obtain ⟨v, h1, h2, h3, h4, h5⟩ := hR.2 p hp
    have : v = w := by omega
    rw [this] at h3; rw [h3] at ho; omega
theorem nI_of9 {x : Int} (h0 : 0 ≤ x) (h1 : x < 2147483648) : (nI x.toNat).toInt = x := by rw [nI_toInt (by omega)]; omega
theorem put_eq {nw ns : Int} {wd dp wt br bk hb my ht rc rm : Nat → Int32} {lids tops nn : Int32} {t o a sh st lv f : Nat → Int32} {p0 p1 p2 : Int32} {x y : Int} (hT : TD nw wd dp wt br bk hb lids tops t) (hS : TSH ns ht rc rm t) (hM : MYR nw nn.toInt wd dp wt lids tops my t o a) (h : ST sh st lv f 0 nw ns) (hv : SV f) (hC : CRs f t 0) (h12 : nw ≤ 12)
    (A : PUTR (OKP p0.toInt p1.toInt p2.toInt nw ns (stF sh st p1 12).toInt) ((sh p0.toInt.toNat).toInt = -1) (p2.toInt = -1 ∧ (rm p1.toInt.toNat).toInt ≤ (stF sh st p1 12).toInt) (fun x => ∀ k : Int32, k.toInt = plc p2.toInt (stF sh st p1 12).toInt → ∀ (r : Nat → Int32) (n : Nat), ROW sh st lv p1 k r n → n ≤ 11 → RFZ (fun u l => BT (my l) u) wt br dp (rsC wd dp lids) (upd r n p0) (n + 1) (ht p1.toInt.toNat) x) x)
    (B : PUTR (OKP p0.toInt p1.toInt p2.toInt (t 0).toInt (t 1).toInt (f (0 + 105 * p1.toInt.toNat)).toInt) (NI f 0 p0 (t 1).toInt) (p2.toInt = -1 ∧ (f (0 + 105 * p1.toInt.toNat)).toInt = (t (101 + 3 * p1.toInt.toNat)).toInt) (fun x => ∀ E : (Nat → (Nat → Int32) → Int32), ME6 t o a E → ∀ n : Nat, (n : Int) = nPt p2.toInt (f (0 + 105 * p1.toInt.toNat + 1 + 13 * p2.toInt.toNat)).toInt → RFZ (fun u l => mayM t E u l) (wtM t) (brM t) (dpM t) (rsM t) (upd (fun p => f (0 + 105 * p1.toInt.toNat + 1 + 13 * p2.toInt.toNat + 1 + p)) n p0) (n + 1) (t (99 + 3 * p1.toInt.toNat)) x) y) : x = y := by
  have e0 := hT.1
  have e1 := hS.1
  have sk : 0 ≤ p1.toInt → p1.toInt < ns → (stF sh st p1 12).toInt = (f (0 + 105 * p1.toInt.toNat)).toInt := fun q1 q2 => by
    have z := h.stacks hv (by decide) q1 q2
    rw [show 460 * 0 + 105 * p1.toInt.toNat = 0 + 105 * p1.toInt.toNat by omega] at z; exact z
  have n4 := h.2.2.2.2.2.2
  refine PUTR.eq A B ⟨fun z => ?_, fun z => ?_⟩ (fun z => ⟨fun q => ?_, fun q => ?_⟩) (fun z q => ⟨fun y => ?_, fun y => ?_⟩) (fun z q nf a9 b9 => ?_)
  · obtain ⟨z1, z2, z3, z4⟩ := z
    have := sk z2.1 z2.2
    exact ⟨by omega, by omega, by omega, by omega⟩
  · obtain ⟨z1, z2, z3, z4⟩ := z
    have := sk z2.1 (by omega)
    exact ⟨by omega, by omega, by omega, by omega⟩
  · rw [← e1]; exact h.ni ⟨by have := z.1; omega, by have := z.1; omega⟩ q
  · rw [← e1] at q; exact h.out ⟨by have := z.1; omega, by have := z.1; omega⟩ q hv (by decide)
  · have z2 := z.2.1
    have := sk z2.1 z2.2
    have r9 := (hS.2 p1.toInt.toNat (by omega)).2.2
    have c9 := hC p1.toInt.toNat (by omega)
    rw [show 460 * 0 + 105 * p1.toInt.toNat = 0 + 105 * p1.toInt.toNat by omega] at c9
    rw [show 99 + 3 * p1.toInt.toNat + 2 = 101 + 3 * p1.toInt.toNat by omega] at r9
    exact ⟨y.1, by have := y.2; omega⟩
  · have z2 := z.2.1
    have := sk z2.1 z2.2
    have r9 := (hS.2 p1.toInt.toNat (by omega)).2.2
    rw [show 99 + 3 * p1.toInt.toNat + 2 = 101 + 3 * p1.toInt.toNat by omega] at r9
    exact ⟨y.1, by have := y.2; omega⟩
  · obtain ⟨E, m1, m2, m3⟩ := hM
    obtain ⟨z1, z2, z3, z4⟩ := z
    have k1 := sk z2.1 z2.2
    have c8 := hv.c8 (b := 0) (s := p1.toInt.toNat) (by decide) (by omega)
    rw [show 460 * 0 + 105 * p1.toInt.toNat = 0 + 105 * p1.toInt.toNat by omega] at c8
    have hM' : ∀ u l : Nat, (u : Int) < nw → (l : Int) < nw → ¬ u = l → BT (my l) u = mayM t E u l := fun u l hu hl hul => MYR.may hT h12 m1 m2 m3 hu hl hul
    have hh : ht p1.toInt.toNat = t (99 + 3 * p1.toInt.toNat) := (i_eq _ _).mpr (hS.2 p1.toInt.toNat (by omega)).1
    have p012 : p0.toInt.toNat < 12 := by omega
    by_cases c : p2.toInt = -1
    · have ek : (nI (stF sh st p1 12).toInt.toNat).toInt = plc p2.toInt (stF sh st p1 12).toInt := by
        rw [nI_of9 (by omega) (by omega)]; exact (if_pos c).symm
      have hR := h.row0 (s := p1) (k := nI (stF sh st p1 12).toInt.toNat) z2.1 (by rw [show 460 * 0 + 105 * p1.toInt.toNat = 0 + 105 * p1.toInt.toNat by omega, nI_of9 (by omega) (by omega)]; omega) (fun p => f (0 + 105 * p1.toInt.toNat + 1 + 13 * p2.toInt.toNat + 1 + p))
      have a8 := RFZ.CM hT hM' (fun p hp => by rw [show p = 0 by omega, pk_us]; omega) (fun p hp => absurd hp (by omega)) hh (a9 _ ek _ 0 hR (by omega))
      exact a8.uniq (b9 E m2 0 (if_pos c).symm)
    · have ek : p2.toInt = plc p2.toInt (stF sh st p1 12).toInt := (if_neg c).symm
      have hR := h.row hv (by decide) (s := p1) (k := p2) z2.1 z2.2 (by omega) (by rw [show 460 * 0 + 105 * p1.toInt.toNat = 0 + 105 * p1.toInt.toNat by omega]; omega)
      rw [show 460 * 0 + 105 * p1.toInt.toNat = 0 + 105 * p1.toInt.toNat by omega] at hR
      obtain ⟨n11, nn⟩ := hR.n11 p012 z2.1 q
      have nw' := fun p hp => ROW.nw h z2.1 hR (p := p) hp
      have zz := hv.z12 (b := 0) (s := p1.toInt.toNat) (k := p2.toInt.toNat) (by decide) (by omega) (by omega)
      rw [show 460 * 0 + 105 * p1.toInt.toNat = 0 + 105 * p1.toInt.toNat by omega] at zz
      have a8 := RFZ.CM hT hM' (fun p hp => by
        by_cases e : p = (f (0 + 105 * p1.toInt.toNat + 1 + 13 * p2.toInt.toNat)).toInt.toNat
        · rw [e, pk_us]; omega
        · rw [pk_un e]; exact nw' p (by omega)) (fun p hp => by
        by_cases e : p + 1 = (f (0 + 105 * p1.toInt.toNat + 1 + 13 * p2.toInt.toNat)).toInt.toNat
        · rw [e, pk_us, pk_un (by omega)]
          intro e2
          exact nn p (by omega) (by rw [← e2]; omega)
        · rw [pk_un e, pk_un (by omega)]; exact hR.ne (by omega) (by omega) (by omega)) hh (a9 p2 ek _ _ hR n11)
      exact a8.uniq (b9 E m2 _ (by rw [show nPt p2.toInt (f (0 + 105 * p1.toInt.toNat + 1 + 13 * p2.toInt.toNat)).toInt = (f (0 + 105 * p1.toInt.toNat + 1 + 13 * p2.toInt.toNat)).toInt from if_neg c]; omega))

theorem put_ST {nw ns : Int} {sh st lv f sh' st' lv' f' : Nat → Int32} {p0 p1 p2 : Int32} (h : ST sh st lv f 0 nw ns) (hv : SV f) (h12 : nw ≤ 12) (hok : OKP p0.toInt p1.toInt p2.toInt nw ns (stF sh st p1 12).toInt) (ho : (sh p0.toInt.toNat).toInt = -1)
    (A : ∀ k : Int32, k.toInt = plc p2.toInt (stF sh st p1 12).toInt → sh' = upd sh p0.toInt.toNat p1 ∧ st' = upd st p0.toInt.toNat k ∧ (∀ j : Nat, ¬ j = p0.toInt.toNat → lv' j = lv j) ∧ (lv' p0.toInt.toNat).toInt = ((cnB (std sh st p1 k) 12 : Nat) : Int)) (B : PTS f f' 0 p0 p1 p2) : ST sh' st' lv' f' 0 nw ns := by
  obtain ⟨z1, z2, z3, z4⟩ := hok
  have n4 := h.2.2.2.2.2.2
  have sk := h.stacks hv (by decide) z2.1 z2.2
  have c8 := hv.c8 (b := 0) (s := p1.toInt.toNat) (by decide) (by omega)
  have B0 : 460 * 0 + 105 * p1.toInt.toNat = 0 + 105 * p1.toInt.toNat := by omega
  have c8' := c8
  rw [B0] at c8'
  by_cases c : p2.toInt = -1
  · have pe : plc p2.toInt (stF sh st p1 12).toInt = (stF sh st p1 12).toInt := if_pos c
    have pe' : plc p2.toInt (f (0 + 105 * p1.toInt.toNat)).toInt = (f (0 + 105 * p1.toInt.toNat)).toInt := if_pos c
    obtain ⟨a1, a2, a3, a4⟩ := A (nI (stF sh st p1 12).toInt.toNat) (by rw [pe, nI_of9 (by omega) (by omega)])
    have hR := h.row0 (s := p1) (k := nI (stF sh st p1 12).toInt.toNat) z2.1 (by rw [nI_of9 (by omega) (by omega)]; omega) (fun _ => 0)
    rw [hR.size] at a4
    obtain ⟨b0, b1, b2, b3, b4⟩ := B (f (0 + 105 * p1.toInt.toNat)).toInt.toNat 0 (by rw [pe', ← B0]; omega) (if_pos c).symm
    rw [if_pos c] at b1
    refine ST.put h hv (by decide) (w0 := p0.toInt.toNat) (s0 := p1.toInt.toNat) (k0 := (f (0 + 105 * p1.toInt.toNat)).toInt.toNat) (n0 := 0) (by omega) (by omega) (by omega) (by omega) (by omega) ho (Or.inr ⟨by rw [B0]; omega, rfl, by rw [B0]; omega⟩) (by rw [a1, pk_us]; omega) (by rw [a2, pk_us, nI_of9 (by omega) (by omega), sk, B0]; omega) (by rw [a4]) (fun j hj => by rw [a1, pk_un hj]) (fun j hj => by rw [a2, pk_un hj]) a3 (by rw [B0]; exact b2) (by rw [B0, b3]; omega) (fun j j0 j1 j2 j3 => b4 j (by omega) (by rw [← B0]; exact j1) (by rw [← B0]; exact j2) (by rw [← B0]; exact j3))
  · have pe : plc p2.toInt (stF sh st p1 12).toInt = p2.toInt := if_neg c
    have pe' : plc p2.toInt (f (0 + 105 * p1.toInt.toNat)).toInt = p2.toInt := if_neg c
    obtain ⟨a1, a2, a3, a4⟩ := A p2 pe.symm
    have hR := h.row hv (by decide) (s := p1) (k := p2) z2.1 z2.2 (by omega) (by omega)
    rw [hR.size] at a4
    have zz := hv.z12 (b := 0) (s := p1.toInt.toNat) (k := p2.toInt.toNat) (by decide) (by omega) (by omega)
    obtain ⟨n11, _⟩ := hR.n11 (w := p0.toInt.toNat) (by omega) z2.1 ho
    obtain ⟨b0, b1, b2, b3, b4⟩ := B p2.toInt.toNat (f (460 * 0 + 105 * p1.toInt.toNat + 1 + 13 * p2.toInt.toNat)).toInt.toNat (by rw [pe']; omega) (by rw [show nPt p2.toInt (f (0 + 105 * p1.toInt.toNat + 1 + 13 * p2.toInt.toNat)).toInt = (f (0 + 105 * p1.toInt.toNat + 1 + 13 * p2.toInt.toNat)).toInt from if_neg c, ← B0]; omega)
    rw [if_neg c] at b1
    refine ST.put h hv (by decide) (w0 := p0.toInt.toNat) (s0 := p1.toInt.toNat) (k0 := p2.toInt.toNat) (n0 := (f (460 * 0 + 105 * p1.toInt.toNat + 1 + 13 * p2.toInt.toNat)).toInt.toNat) (by omega) (by omega) (by omega) (by omega) (by omega) ho (Or.inl ⟨by omega, by omega, by rw [B0]; omega⟩) (by rw [a1, pk_us]; omega) (by rw [a2, pk_us]; omega) (by rw [a4]) (fun j hj => by rw [a1, pk_un hj]) (fun j hj => by rw [a2, pk_un hj]) a3 (by rw [B0] at b2 ⊢; exact b2) (by rw [B0] at b3 ⊢; rw [b3]; omega) (fun j j0 j1 j2 j3 => b4 j (by omega) (by rw [← B0]; exact j1) (by rw [← B0]; exact j2) (by rw [← B0]; exact j3))

theorem ST.cst {sh st st' lv f : Nat → Int32} {b : Nat} {nw ns : Int} (h : ST sh st lv f b nw ns) (e : ∀ w : Nat, w < 12 → (st' w).toInt = (st w).toInt) : ST sh st' lv f b nw ns := ⟨fun w s k p hw => by rw [e w hw]; exact h.1 w s k p hw, h.2.1, h.2.2.1, h.2.2.2.1, fun w hw => by rw [e w hw]; exact h.2.2.2.2.1 w hw, h.2.2.2.2.2⟩
/-- where a ware is, for both -/
theorem ST.pos {sh st lv f : Nat → Int32} {b : Nat} {nw ns : Int} {s k q w : Nat} (h : ST sh st lv f b nw ns) (hw : w < 12) (i : IN f b ns s k q w) : (sh w).toInt = (s : Int) ∧ (st w).toInt = (k : Int) ∧ (lv w).toInt = (q : Int) := (h.1 w s k q hw).mpr i
/-- past the one at c -/
def skp (c : Int) (p : Nat) : Nat := if (p : Int) < c then p else p + 1
theorem skp_lt {c : Int} {p n : Nat} (h : p < n - 1) : skp c p < n := by unfold skp; split <;> omega
theorem skp_ne (c : Int) (p : Nat) : ¬ skp c (p + 1) = skp c p := by unfold skp; split <;> split <;> omega
theorem draw_eq {nw ns : Int} {wd dp wt br bk hb my ht rc rm : Nat → Int32} {lids tops nn : Int32} {t o a sh st lv f : Nat → Int32} {p0 : Int32} {x y : Int} (hT : TD nw wd dp wt br bk hb lids tops t) (hS : TSH ns ht rc rm t) (hM : MYR nw nn.toInt wd dp wt lids tops my t o a) (h : ST sh st lv f 0 nw ns) (hv : SV f) (h12 : nw ≤ 12)
    (A : PUTR (0 ≤ p0.toInt ∧ p0.toInt < nw) (¬ (sh p0.toInt.toNat).toInt = -1) False (fun x => ∀ (r : Nat → Int32) (n : Nat), ROW sh st lv (sh p0.toInt.toNat) (st p0.toInt.toNat) r n → RFZ (fun u l => BT (my l) u) wt br dp (rsC wd dp lids) (fun p => r (if (p : Int) < (lv p0.toInt.toNat).toInt then p else p + 1)) (n - 1) (ht (sh p0.toInt.toNat).toInt.toNat) x) x)
    (B : PUTR (0 ≤ p0.toInt ∧ p0.toInt < (t 0).toInt) (¬ NI f 0 p0 (t 1).toInt) False (fun x => ∃ s k q : Nat, IN f 0 (t 1).toInt s k q p0.toInt.toNat ∧ s < 4 ∧ k < 8 ∧ ∀ E : (Nat → (Nat → Int32) → Int32), ME6 t o a E → RFZ (fun u l => mayM t E u l) (wtM t) (brM t) (dpM t) (rsM t) (fun p => f (105 * s + 1 + 13 * k + 1 + (if (p : Int) < (q : Int) then p else p + 1))) ((f (105 * s + 1 + 13 * k)).toInt.toNat - 1) (t (99 + 3 * s)) x) y) : x = y := by
  have e0 := hT.1
  have e1 := hS.1
  have n4 := h.2.2.2.2.2.2
  refine PUTR.eq A B ⟨fun z => by omega, fun z => by omega⟩ (fun z => ⟨fun q z9 => ?_, fun q z9 => ?_⟩) (fun _ _ => Iff.rfl) (fun z q _ a9 b9 => ?_)
  · rw [← e1] at z9; exact q (h.out ⟨by omega, by omega⟩ z9 hv (by decide))
  · apply q; rw [← e1]; exact h.ni ⟨by omega, by omega⟩ z9
  · obtain ⟨E, m1, m2, m3⟩ := hM
    obtain ⟨s, k, q', i, s4, k8, b8⟩ := b9
    rw [← e1] at i
    have w12 : p0.toInt.toNat < 12 := by omega
    obtain ⟨j1, j2, j3⟩ := h.pos w12 i
    obtain ⟨i1, i2, i3, i4⟩ := i
    have es : (sh p0.toInt.toNat).toInt.toNat = s := by omega
    have ek : (st p0.toInt.toNat).toInt.toNat = k := by omega
    have hR := h.row hv (by decide) (s := sh p0.toInt.toNat) (k := st p0.toInt.toNat) (by omega) (by omega) (by omega) (by rw [es]; omega)
    rw [es, ek, show 460 * 0 + 105 * s = 105 * s by omega] at hR
    have zz := hv.z12 (b := 0) (s := s) (k := k) (by decide) s4 k8
    rw [show 460 * 0 + 105 * s = 105 * s by omega] at zz i3
    have hM' : ∀ u l : Nat, (u : Int) < nw → (l : Int) < nw → ¬ u = l → BT (my l) u = mayM t E u l := fun u l hu hl hul => MYR.may hT h12 m1 m2 m3 hu hl hul
    have hh : ht (sh p0.toInt.toNat).toInt.toNat = t (99 + 3 * s) := by rw [es]; exact (i_eq _ _).mpr (hS.2 s (by omega)).1
    have nw' : ∀ p : Nat, p < (f (105 * s + 1 + 13 * k)).toInt.toNat → 0 ≤ (f (105 * s + 1 + 13 * k + 1 + p)).toInt ∧ (f (105 * s + 1 + 13 * k + 1 + p)).toInt < nw := fun p hp => ROW.nw h (s := sh p0.toInt.toNat) (by omega) hR (p := p) hp
    have a7 := a9 _ _ hR
    obtain ⟨N, hN⟩ : ∃ N : Nat, N = (f (105 * s + 1 + 13 * k)).toInt.toNat := ⟨_, rfl⟩
    obtain ⟨A, hA⟩ : ∃ A : Nat, A = 105 * s + 1 + 13 * k + 1 := ⟨_, rfl⟩
    rw [← hN] at a7 hR nw'
    rw [j3] at a7
    have b7 := b8 E m2
    rw [← hN, ← hA] at b7
    rw [← hA] at a7 hR nw'
    have hr : ∀ p : Nat, p < N - 1 → 0 ≤ (f (A + skp (q' : Int) p)).toInt ∧ (f (A + skp (q' : Int) p)).toInt < nw := fun p hp => nw' (skp (q' : Int) p) (skp_lt hp)
    have hd : ∀ p : Nat, p + 1 < N - 1 → ¬ f (A + skp (q' : Int) (p + 1)) = f (A + skp (q' : Int) p) := fun p hp => by
      have l1 : skp (q' : Int) (p + 1) < N := skp_lt hp
      have l2 : skp (q' : Int) p < N := skp_lt (Nat.lt_of_succ_lt hp)
      exact ROW.ne hR l1 l2 (skp_ne _ p)
    exact (RFZ.CM hT hM' (r := fun p => f (A + skp (q' : Int) p)) hr hd hh a7).uniq b7
theorem draw_ST {nw ns : Int} {sh st lv f sh' st' lv' f' : Nat → Int32} {p0 : Int32} {s k q : Nat} (h : ST sh st lv f 0 nw ns) (hv : SV f) (hp : 0 ≤ p0.toInt ∧ p0.toInt < 12) (i : IN f 0 ns s k q p0.toInt.toNat) (s4 : s < 4) (k8 : k < 8) (A : sh' = upd sh p0.toInt.toNat (-1) ∧ (∀ j : Nat, j < 12 → (lv' j).toInt = snk sh st lv p0.toInt.toNat j) ∧ ∀ j : Nat, j < 12 → (st' j).toInt = rmS sh' st (sh p0.toInt.toNat) (st p0.toInt.toNat) j) (B : DRW f f' s k q) : ST sh' st' lv' f' 0 nw ns := by
  obtain ⟨a1, a2, a3⟩ := A
  have w12 : p0.toInt.toNat < 12 := by omega
  have j := h.pos w12 i
  obtain ⟨j1, j2, j3⟩ := j
  have c1 : (sh' p0.toInt.toNat).toInt = -1 := by rw [a1, pk_us]; rfl
  have c2 : ∀ w, w < 12 → ¬ w = p0.toInt.toNat → sh' w = sh w := fun w _ e => by rw [a1, pk_un e]
  have c3 : ∀ w, w < 12 → (lv' w).toInt = if (sh w).toInt = (s : Int) ∧ (st w).toInt = (k : Int) ∧ (q : Int) < (lv w).toInt then (lv w).toInt - 1 else (lv w).toInt := fun w hw => by
    rw [a2 w hw]
    unfold snk
    by_cases z : sh w = sh p0.toInt.toNat ∧ st w = st p0.toInt.toNat ∧ (lv p0.toInt.toNat).toInt < (lv w).toInt
    · rw [if_pos z, if_pos ⟨by rw [z.1]; exact j1, by rw [z.2.1]; exact j2, by omega⟩]
    · rw [if_neg z, if_neg (fun y => z ⟨(i_eq _ _).mpr (by omega), (i_eq _ _).mpr (by omega), by omega⟩)]
  have i' := i
  obtain ⟨i1, i2, i3, i4⟩ := i'
  have zz := hv.z12 (b := 0) (s := s) (k := k) (by decide) s4 k8
  have B0 : ∀ z : Nat, 460 * 0 + 105 * z = 105 * z := fun z => by omega
  rw [B0] at i2 i3 i4 zz
  rcases (by omega : 2 ≤ (f (105 * s + 1 + 13 * k)).toInt ∨ (f (105 * s + 1 + 13 * k)).toInt = 1) with c | c
  · obtain ⟨b1, b2, b3⟩ := B.1 c
    -- another one is left there
    have ne : ¬ cnB (std sh' st (sh p0.toInt.toNat) (st p0.toInt.toNat)) 12 = 0 := by
      obtain ⟨v, v1, v2, v3, v4, v5⟩ := h.bw hv (by decide) (s := s) (k := k) (p := if q = 0 then 1 else 0) i1 (by rw [B0]; exact i2) (by rw [B0]; split <;> omega)
      have vn : ¬ v = p0.toInt.toNat := fun z => by rw [z] at v5; split at v5 <;> omega
      have := cnB_ge (P := std sh' st (sh p0.toInt.toNat) (st p0.toInt.toNat)) (w := v) (std_iff.mpr ⟨by rw [c2 v v1 vn]; exact (i_eq _ _).mpr (by omega), (i_eq _ _).mpr (by omega)⟩) 12 v1
      omega
    refine ST.cst (st := st) ?_ (fun w hw => by rw [a3 w hw]; exact if_neg ne)
    refine ST.drawA h hv (by decide) w12 ⟨j1, j2, j3⟩ s4 k8 (by rw [B0]; exact c) c1 c2 c3 (by rw [B0]; exact b1) (fun p hp => by rw [B0] at hp ⊢; exact b2 p hp) (fun z hz => by rw [B0]; exact b3 _ (by omega) (by rcases Nat.lt_or_ge s z with g | g; (right; omega); (left; omega))) (fun z y r hz hy hr hn => ?_)
    rw [B0]
    refine b3 _ (by omega) ?_
    rcases Nat.lt_trichotomy z s with g | g | g
    · left; omega
    · subst g
      rcases Nat.lt_trichotomy y k with g | g | g
      · left; omega
      · exact absurd ⟨rfl, g⟩ hn
      · right; omega
    · right; omega
  · have al : ∀ w, w < 12 → (sh w).toInt = (s : Int) → (st w).toInt = (k : Int) → w = p0.toInt.toNat := fun w hw y1 y2 => by
      have v := h.2.2.2.2.2.1 w hw
      have g := (h.1 w s k (lv w).toInt.toNat hw).mp ⟨y1, y2, by omega⟩
      obtain ⟨_, _, g3, g4⟩ := g
      rw [B0] at g3 g4
      rw [show (lv w).toInt.toNat = q by omega] at g4
      omega
    have ze : cnB (std sh' st (sh p0.toInt.toNat) (st p0.toInt.toNat)) 12 = 0 := cnB_0 12 (fun w hw z => by
      obtain ⟨y1, y2⟩ := std_iff.mp z
      by_cases e : w = p0.toInt.toNat
      · rw [e] at y1; rw [y1] at c1; omega
      · rw [c2 w hw e] at y1
        exact e (al w hw (by rw [y1]; exact j1) (by rw [y2]; exact j2)))
    obtain ⟨b1, b2, b3⟩ := B.2 c
    refine ST.drawB (p0 := q) h hv (by decide) w12 ⟨j1, j2, j3⟩ s4 k8 (by rw [B0]; exact c) c1 c2 c3 (fun w hw => ?_) (by rw [B0]; exact b1) (fun y r q1 q2 q3 => by rw [B0] at q2 ⊢; exact b2 y r q1 q2 q3) (fun z hz hn => ?_) (fun z y r hz hy hr hn => ?_)
    · rw [a3 w hw, show rmS sh' st (sh p0.toInt.toNat) (st p0.toInt.toNat) w = gpf sh' st (sh p0.toInt.toNat) (st p0.toInt.toNat) w from if_pos ze]
      unfold gpf
      by_cases z : sh' w = sh p0.toInt.toNat ∧ (st p0.toInt.toNat).toInt < (st w).toInt
      · rw [if_pos z, if_pos ⟨by rw [z.1]; exact j1, by omega⟩]
      · rw [if_neg z, if_neg (fun y => z ⟨(i_eq _ _).mpr (by omega), by omega⟩)]
    · rw [B0]
      refine b3 _ (by omega) (by omega) ?_
      rcases Nat.lt_or_ge z s with g | g
      · left; omega
      · right; omega
    · rw [B0]
      have n1 : ¬ 105 * z + 1 + 13 * y + r = 105 * s := by
        rcases Nat.lt_or_ge z s with g | g
        · omega
        · omega
      refine b3 _ (by omega) n1 ?_
      rcases Nat.lt_trichotomy z s with g | g | g
      · left; omega
      · subst g; left; omega
      · right; omega

theorem hiF_CM {w : Int} {wd dp wt br bk hb : Nat → Int32} {lids tops : Int32} {t : Nat → Int32} (hT : TD w wd dp wt br bk hb lids tops t) {r : Nat → Int32} {n : Nat} (hr : ∀ p, p < n → 0 ≤ (r p).toInt ∧ (r p).toInt < w) : hiF (rsC wd dp lids) dp r n = hiF (rsM t) (dpM t) r n :=
  hiF_cong n (fun q hq => by
    have a1 := hr q (by omega)
    have a2 := hr (q + 1) hq
    exact hT.rs (by omega) (by omega)) (fun q hq => by have a1 := hr q hq; exact hT.dp (by omega))
theorem carry_eq {nw ns : Int} {wd dp wt br bk hb ht rc rm : Nat → Int32} {lids tops : Int32} {t sh st lv f : Nat → Int32} {p0 p1 p2 : Int32} {x y : Int} (hT : TD nw wd dp wt br bk hb lids tops t) (hS : TSH ns ht rc rm t) (h : ST sh st lv f 0 nw ns) (hv : SV f) (hC : CRs f t 0)
    (A : PUTR ((0 ≤ p0.toInt ∧ p0.toInt < ns ∧ 0 ≤ p1.toInt ∧ p1.toInt < (stF sh st p0 12).toInt) ∧ (0 ≤ p2.toInt ∧ p2.toInt < ns) ∧ ¬ p0.toInt = p2.toInt) True ((rm p2.toInt.toNat).toInt ≤ (stF sh st p2 12).toInt) (fun x => ∀ (r : Nat → Int32) (n : Nat), ROW sh st lv p0 p1 r n → (x = 6 ∧ ht p2.toInt.toNat < hiF (rsC wd dp lids) dp r n) ∨ (x = 0 ∧ ¬ ht p2.toInt.toNat < hiF (rsC wd dp lids) dp r n)) x)
    (B : PUTR ((0 ≤ p0.toInt ∧ p0.toInt < (t 1).toInt ∧ 0 ≤ p1.toInt ∧ p1.toInt < (f (0 + 105 * p0.toInt.toNat)).toInt) ∧ (0 ≤ p2.toInt ∧ p2.toInt < (t 1).toInt) ∧ ¬ p0.toInt = p2.toInt) True ((f (0 + 105 * p2.toInt.toNat)).toInt = (t (101 + 3 * p2.toInt.toNat)).toInt) (fun x => (x = 6 ∧ t (99 + 3 * p2.toInt.toNat) < hiF (rsM t) (dpM t) (fun p => f (105 * p0.toInt.toNat + 1 + 13 * p1.toInt.toNat + 1 + p)) (f (105 * p0.toInt.toNat + 1 + 13 * p1.toInt.toNat)).toInt.toNat) ∨ (x = 0 ∧ ¬ t (99 + 3 * p2.toInt.toNat) < hiF (rsM t) (dpM t) (fun p => f (105 * p0.toInt.toNat + 1 + 13 * p1.toInt.toNat + 1 + p)) (f (105 * p0.toInt.toNat + 1 + 13 * p1.toInt.toNat)).toInt.toNat)) y) : x = y := by
  have e1 := hS.1
  have n4 := h.2.2.2.2.2.2
  have sk : ∀ z : Int32, 0 ≤ z.toInt → z.toInt < ns → (stF sh st z 12).toInt = (f (0 + 105 * z.toInt.toNat)).toInt := fun z q1 q2 => by
    have y := h.stacks hv (by decide) q1 q2
    rw [show 460 * 0 + 105 * z.toInt.toNat = 0 + 105 * z.toInt.toNat by omega] at y; exact y
  refine PUTR.eq A B ⟨fun z => ?_, fun z => ?_⟩ (fun _ => Iff.rfl) (fun z _ => ?_) (fun z _ _ a9 b9 => ?_)
  · obtain ⟨⟨z1, z2, z3, z4⟩, z5, z6⟩ := z
    have := sk p0 z1 z2
    exact ⟨⟨z1, by omega, z3, by omega⟩, ⟨by omega, by omega⟩, z6⟩
  · obtain ⟨⟨z1, z2, z3, z4⟩, z5, z6⟩ := z
    have := sk p0 z1 (by omega)
    exact ⟨⟨z1, by omega, z3, by omega⟩, ⟨by omega, by omega⟩, z6⟩
  · obtain ⟨_, z5, _⟩ := z
    have k2 := sk p2 z5.1 z5.2
    have r9 := (hS.2 p2.toInt.toNat (by omega)).2.2
    have c9 := hC p2.toInt.toNat (by omega)
    rw [show 460 * 0 + 105 * p2.toInt.toNat = 0 + 105 * p2.toInt.toNat by omega] at c9
    rw [show 99 + 3 * p2.toInt.toNat + 2 = 101 + 3 * p2.toInt.toNat by omega] at r9
    constructor
    · intro y; omega
    · intro y; omega
  · obtain ⟨⟨z1, z2, z3, z4⟩, z5, z6⟩ := z
    have k1 := sk p0 z1 z2
    have B0 : 460 * 0 + 105 * p0.toInt.toNat = 105 * p0.toInt.toNat := by omega
    have B1 : 460 * 0 + 105 * p0.toInt.toNat = 0 + 105 * p0.toInt.toNat := by omega
    have hR := h.row hv (by decide) (s := p0) (k := p1) z1 z2 z3 (by rw [B1]; omega)
    rw [B0] at hR
    have hh : ht p2.toInt.toNat = t (99 + 3 * p2.toInt.toNat) := (i_eq _ _).mpr (hS.2 p2.toInt.toNat (by omega)).1
    have a8 := a9 _ _ hR
    rw [hiF_CM hT (fun p hp => ROW.nw h z1 hR hp), hh] at a8
    rcases a8 with ⟨a1, a2⟩ | ⟨a1, a2⟩
    · rcases b9 with ⟨b1, b2⟩ | ⟨b1, b2⟩
      · omega
      · exact absurd a2 b2
    · rcases b9 with ⟨b1, b2⟩ | ⟨b1, b2⟩
      · exact absurd b2 a2
      · omega
theorem far_stk {z y r t c : Nat} (hy : y < 8) (hr : r < 13) (hn : ¬ (z = t ∧ y = c)) (hc : c < 8 := by omega) : 105 * z + 1 + 13 * y + r < 105 * t + 1 + 13 * c ∨ 105 * t + 13 + 13 * c < 105 * z + 1 + 13 * y + r := by
  rcases Nat.lt_trichotomy z t with g | g | g
  · left; omega
  · subst g
    rcases Nat.lt_trichotomy y c with g | g | g
    · left; omega
    · exact absurd ⟨rfl, g⟩ hn
    · right; omega
  · right; omega
theorem carry_ST {nw ns : Int} {sh st lv f sh' st' f1 f' : Nat → Int32} {p0 p1 p2 : Int32} (h : ST sh st lv f 0 nw ns) (hv : SV f) (hv1 : SV f1) (hok : (0 ≤ p0.toInt ∧ p0.toInt < ns ∧ 0 ≤ p1.toInt ∧ p1.toInt < (stF sh st p0 12).toInt) ∧ (0 ≤ p2.toInt ∧ p2.toInt < ns) ∧ ¬ p0.toInt = p2.toInt) (c7 : (f (0 + 105 * p2.toInt.toNat)).toInt ≤ 7)
    (A : (∀ j : Nat, j < 12 → (sh' j).toInt = mvS sh st p0 p1 p2 j) ∧ ∀ j : Nat, j < 12 → (st' j).toInt = mvG sh st p0 p1 p2 (stF sh st p2 12) j) (B : CRY f f1 p0.toInt.toNat p1.toInt.toNat p2.toInt.toNat (f (0 + 105 * p2.toInt.toNat)).toInt.toNat) (G : GAW f1 f' p0.toInt.toNat p1.toInt.toNat) : ST sh' st' lv f' 0 nw ns := by
  obtain ⟨⟨z1, z2, z3, z4⟩, z5, z6⟩ := hok
  have n4 := h.2.2.2.2.2.2
  have s0 := h.stacks hv (by decide) z1 z2
  have s2 := h.stacks hv (by decide) z5.1 z5.2
  have B0 : ∀ z : Nat, 460 * 0 + 105 * z = 105 * z := fun z => by omega
  have Z0 : ∀ z : Nat, 0 + 105 * z = 105 * z := fun z => by omega
  rw [B0] at s0 s2
  rw [Z0] at c7 B
  have c0 := hv.c8 (b := 0) (s := p0.toInt.toNat) (by decide) (by omega)
  have c2 := hv.c8 (b := 0) (s := p2.toInt.toNat) (by decide) (by omega)
  rw [B0] at c0 c2
  obtain ⟨b1, b2, b3, b4⟩ := B
  obtain ⟨g1, g2, g3⟩ := G
  have zz := hv.z12 (b := 0) (s := p0.toInt.toNat) (k := p1.toInt.toNat) (by decide) (by omega) (by omega)
  rw [B0] at zz
  refine ST.carry (st1 := fun j => nI (mvT sh st p0 p1 (stF sh st p2 12) j).toNat) (f1 := f1) (s0 := p0.toInt.toNat) (k0 := p1.toInt.toNat) (t0 := p2.toInt.toNat) (c0 := (f (105 * p2.toInt.toNat)).toInt.toNat) h hv hv1 (by decide) (by omega) (by omega) (by omega) (by omega) (by rw [B0]; omega) (by omega) (by rw [B0]; omega) (by omega) (fun w hw => ?_) (fun w hw => ?_) (fun w hw => ?_) (by rw [B0]; exact b1) (by rw [B0, B0]; exact b2) (fun p hp => by rw [B0] at hp; rw [B0, B0]; exact b3 p hp) (fun z hz hn => by rw [B0]; exact b4 _ (by omega) (by omega) (by rcases Nat.lt_or_ge z p2.toInt.toNat with g | g; (left; omega); (right; omega))) (fun z y r hz hy hr hn => by rw [B0]; exact b4 _ (by omega) (by rcases Nat.lt_or_ge z p2.toInt.toNat with g | g; omega; omega) (far_stk hy hr hn)) (by rw [B0]; exact g1) (fun y r q1 q2 q3 => by rw [B0] at q2 ⊢; exact g2 y r q1 q2 q3) (fun z hz hn => by rw [B0]; exact g3 _ (by omega) (by omega) (by rcases Nat.lt_or_ge z p0.toInt.toNat with g | g; (left; omega); (right; omega))) (fun z y r hz hy hr hn => by rw [B0]; exact g3 _ (by omega) (by rcases Nat.lt_or_ge z p0.toInt.toNat with g | g; omega; omega) (by rcases Nat.lt_trichotomy z p0.toInt.toNat with g | g | g; (left; omega); (left; omega); (right; omega)))
  · rw [A.1 w hw]
    unfold mvS
    by_cases q : sh w = p0 ∧ st w = p1
    · rw [if_pos q, if_pos ⟨by rw [q.1]; omega, by rw [q.2]; omega⟩]; omega
    · rw [if_neg q, if_neg (fun y => q ⟨(i_eq _ _).mpr (by omega), (i_eq _ _).mpr (by omega)⟩)]
  · have v := h.2.2.2.2.1 w hw
    show (nI (mvT sh st p0 p1 (stF sh st p2 12) w).toNat).toInt = _
    unfold mvT
    by_cases q : sh w = p0 ∧ st w = p1
    · rw [if_pos q, if_pos ⟨by rw [q.1]; omega, by rw [q.2]; omega⟩, nI_of9 (by omega) (by omega)]; omega
    · rw [if_neg q, if_neg (fun y => q ⟨(i_eq _ _).mpr (by omega), (i_eq _ _).mpr (by omega)⟩), nI_of9 (by omega) (by omega)]
  · have v := h.2.2.2.2.1 w hw
    have m0 : 0 ≤ mvT sh st p0 p1 (stF sh st p2 12) w ∧ mvT sh st p0 p1 (stF sh st p2 12) w < 100 := by
      unfold mvT; split <;> omega
    show (st' w).toInt = if (sh' w).toInt = ((p0.toInt.toNat : Nat) : Int) ∧ ((p1.toInt.toNat : Nat) : Int) < (nI (mvT sh st p0 p1 (stF sh st p2 12) w).toNat).toInt then (nI (mvT sh st p0 p1 (stF sh st p2 12) w).toNat).toInt - 1 else (nI (mvT sh st p0 p1 (stF sh st p2 12) w).toNat).toInt
    rw [nI_of9 m0.1 (by omega), A.1 w hw, A.2 w hw]
    unfold mvG
    by_cases q : mvS sh st p0 p1 p2 w = p0.toInt ∧ p1.toInt < mvT sh st p0 p1 (stF sh st p2 12) w
    · rw [if_pos q, if_pos ⟨by omega, by omega⟩]
    · rw [if_neg q, if_neg (fun y => q ⟨by omega, by omega⟩)]

theorem TSH.of {w s : Int} {wd dp wt br bk hb : Nat → Int32} {lids : Int32} {ht rc rm : Nat → Int32} {nm : Nat → Int64} {t t' hb' : Nat → Int32} {S : ((Nat → Int64) × Nat × (Nat → Int64) × Nat × (Nat → Bool) × (Nat → Bool) × Nat)} {N : ((Nat → Nat → Int) × (Nat → Bool) × (Nat → Nat → Int))} (h1 : s = ((S.2.2.2.1 : Nat) : Int)) (h3 : CW wd dp wt br bk hb lids ht rc rm w s N) (h4 : MRb nm t hb' S) (h5 : MW t N) (h6 : ∀ j : Nat, j < 120 → t' j = t (120 + j)) (h9 : s ≤ 4) : TSH s ht rc rm t' := by
  obtain ⟨x1, x2, x3, x4, x5, x6⟩ := h5
  have e0 : (t' 1).toInt = (t 121).toInt := by rw [h6 1 (by decide)]
  have e1 : (t 121).toInt = s := by rw [h4.1.1.2.1, h1]
  refine ⟨by omega, fun j hj => ?_⟩
  have hj2 : (j : Int) < (t 121).toInt := by omega
  obtain ⟨a0, a1, a2⟩ := h3.2.2.2 j hj
  have m (k : Nat) (hk : k < 3) : (t' (99 + 3 * j + k)).toInt = N.2.2 j k := by
    rw [h6 (99 + 3 * j + k) (by omega), show 120 + (99 + 3 * j + k) = 219 + 3 * j + k by omega]; exact x4 j hj2 k hk
  exact ⟨a0.trans (m 0 (by decide)).symm, a1.trans (m 1 (by decide)).symm, a2.trans (m 2 (by decide)).symm⟩
theorem TSH.fr {s : Int} {ht rc rm t t' : Nat → Int32} (h : TSH s ht rc rm t) (h9 : s ≤ 4) (hf : Fr 120 t t') : TSH s ht rc rm t' := by
  obtain ⟨a, b⟩ := h
  refine ⟨by rw [hf 1 (by decide)]; exact a, fun j hj => ?_⟩
  rw [hf (99 + 3 * j) (by omega), hf (99 + 3 * j + 1) (by omega), hf (99 + 3 * j + 2) (by omega)]
  exact b j hj

/-- the reference's sum is the class's price -/
theorem lc_pr {wt r : Nat → Int32} {rc : Int32} {q : Nat} : ∀ n : Nat, q < n → n ≤ 12 → lcF wt r rc q n = prC wt r (nI q) (nI n) rc := by
  intro n
  induction n with
  | zero => intro h; exact absurd h (Nat.not_lt_zero q)
  | succ n ih =>
    intro h1 h2
    have eq : (nI q).toInt.toNat = q := by rw [nI_toInt (by omega)]; omega
    have en : (nI (n + 1)).toInt.toNat = n + 1 := by rw [nI_toInt (by omega)]; omega
    have e1 : nI (n + 1) = nI n + 1 := (nI_1 n).symm
    rw [lcF_s, if_pos (by omega)]
    unfold prC
    rw [eq, en, e1]
    by_cases c : n = q
    · rw [if_pos c, lcF_0 _ _ _ (by omega), wtF_0 _ _ (by omega), c]
      exact (rg_1 _ _ _ _ _ rfl rfl).symm
    · have i := ih (by omega) (by omega)
      have en2 : (nI n).toInt.toNat = n := by rw [nI_toInt (by omega)]; omega
      unfold prC at i
      rw [eq, en2] at i
      rw [if_neg c, i, wtF_top _ _ _ (by omega)]
      exact (rg_2 _ _ _ _ _ _).symm

theorem stk_iff {ns : Int} {t sh st lv f ht rc rm : Nat → Int32} {nw : Int} {p0 p1 : Int32} (hS : TSH ns ht rc rm t) (h : ST sh st lv f 0 nw ns) (hv : SV f) : (0 ≤ p0.toInt ∧ p0.toInt < ns ∧ 0 ≤ p1.toInt ∧ p1.toInt < (stF sh st p0 12).toInt) ↔ (0 ≤ p0.toInt ∧ p0.toInt < (t 1).toInt ∧ 0 ≤ p1.toInt ∧ p1.toInt < (f (0 + 105 * p0.toInt.toNat)).toInt) := by
  have e1 := hS.1
  have sk : 0 ≤ p0.toInt → p0.toInt < ns → (stF sh st p0 12).toInt = (f (0 + 105 * p0.toInt.toNat)).toInt := fun q1 q2 => by
    have y := h.stacks hv (by decide) q1 q2
    rw [show 460 * 0 + 105 * p0.toInt.toNat = 0 + 105 * p0.toInt.toNat by omega] at y; exact y
  constructor
  · rintro ⟨z1, z2, z3, z4⟩
    have := sk z1 z2
    exact ⟨z1, by omega, z3, by omega⟩
  · rintro ⟨z1, z2, z3, z4⟩
    have := sk z1 (by omega)
    exact ⟨z1, by omega, z3, by omega⟩
theorem ST.row1 {ns : Int} {sh st lv f : Nat → Int32} {nw : Int} {p0 p1 : Int32} (h : ST sh st lv f 0 nw ns) (hv : SV f) (z : 0 ≤ p0.toInt ∧ p0.toInt < ns ∧ 0 ≤ p1.toInt ∧ p1.toInt < (stF sh st p0 12).toInt) : ROW sh st lv p0 p1 (fun p => f (105 * p0.toInt.toNat + 1 + 13 * p1.toInt.toNat + 1 + p)) (f (105 * p0.toInt.toNat + 1 + 13 * p1.toInt.toNat)).toInt.toNat ∧ 0 ≤ (f (105 * p0.toInt.toNat + 1 + 13 * p1.toInt.toNat)).toInt := by
  obtain ⟨z1, z2, z3, z4⟩ := z
  have n4 := h.2.2.2.2.2.2
  have sk := h.stacks hv (by decide) z1 z2
  have c8 := hv.c8 (b := 0) (s := p0.toInt.toNat) (by decide) (by omega)
  have hR := h.row hv (by decide) (s := p0) (k := p1) z1 z2 z3 (by omega)
  have zz := hv.z12 (b := 0) (s := p0.toInt.toNat) (k := p1.toInt.toNat) (by decide) (by omega) (by omega)
  rw [show 460 * 0 + 105 * p0.toInt.toNat = 105 * p0.toInt.toNat by omega] at hR zz
  exact ⟨hR, zz.1⟩
theorem at_eq {nw ns : Int} {t sh st lv f ht rc rm : Nat → Int32} {p0 p1 p2 : Int32} {x y : Int} (hS : TSH ns ht rc rm t) (h : ST sh st lv f 0 nw ns) (hv : SV f)
    (A : GRD (0 ≤ p0.toInt ∧ p0.toInt < ns ∧ 0 ≤ p1.toInt ∧ p1.toInt < (stF sh st p0 12).toInt) (-1) (fun x => ∀ (r : Nat → Int32) (n : Nat), ROW sh st lv p0 p1 r n → x = atF p2 r (n : Int)) x)
    (B : GRD (0 ≤ p0.toInt ∧ p0.toInt < (t 1).toInt ∧ 0 ≤ p1.toInt ∧ p1.toInt < (f (0 + 105 * p0.toInt.toNat)).toInt) (-1) (fun x => x = atF p2 (fun p => f (105 * p0.toInt.toNat + 1 + 13 * p1.toInt.toNat + 1 + p)) (f (105 * p0.toInt.toNat + 1 + 13 * p1.toInt.toNat)).toInt) y) : x = y := by
  refine GRD.eq A B (stk_iff hS h hv) (fun z a b => ?_)
  obtain ⟨hR, n0⟩ := h.row1 hv z
  rw [a _ _ hR, b, Int.toNat_of_nonneg n0]
theorem stack_eq {nw ns : Int} {wd dp wt br bk hb : Nat → Int32} {lids tops : Int32} {t sh st lv f ht rc rm : Nat → Int32} {p0 p1 p2 : Int32} {x y : Int} (hT : TD nw wd dp wt br bk hb lids tops t) (hS : TSH ns ht rc rm t) (h : ST sh st lv f 0 nw ns) (hv : SV f)
    (A : GRD (0 ≤ p0.toInt ∧ p0.toInt < ns ∧ 0 ≤ p1.toInt ∧ p1.toInt < (stF sh st p0 12).toInt) (-1) (fun x => ∀ (r : Nat → Int32) (n : Nat), ROW sh st lv p0 p1 r n → x = skF p2.toInt (n : Int) (hiF (rsC wd dp lids) dp r n).toInt (wtF wt r 0 n).toInt) x)
    (B : GRD (0 ≤ p0.toInt ∧ p0.toInt < (t 1).toInt ∧ 0 ≤ p1.toInt ∧ p1.toInt < (f (0 + 105 * p0.toInt.toNat)).toInt) (-1) (fun x => x = skF p2.toInt (f (105 * p0.toInt.toNat + 1 + 13 * p1.toInt.toNat)).toInt (hiF (rsM t) (dpM t) (fun p => f (105 * p0.toInt.toNat + 1 + 13 * p1.toInt.toNat + 1 + p)) (f (105 * p0.toInt.toNat + 1 + 13 * p1.toInt.toNat)).toInt.toNat).toInt (wtF (wtM t) (fun p => f (105 * p0.toInt.toNat + 1 + 13 * p1.toInt.toNat + 1 + p)) 0 (f (105 * p0.toInt.toNat + 1 + 13 * p1.toInt.toNat)).toInt.toNat).toInt) y) : x = y := by
  refine GRD.eq A B (stk_iff hS h hv) (fun z a b => ?_)
  obtain ⟨hR, n0⟩ := h.row1 hv z
  have nw' := fun p hp => ROW.nw h z.1 hR (p := p) hp
  rw [a _ _ hR, b, Int.toNat_of_nonneg n0, hiF_CM hT nw', wtF_cong (wt := wt) (wt' := wtM t) _ (fun p _ hp => by have a1 := nw' p hp; exact hT.wt (by omega))]
theorem shelf_eq {nw ns : Int} {t sh st lv f ht rc rm : Nat → Int32} {p0 p1 : Int32} {x y : Int} (hS : TSH ns ht rc rm t) (h : ST sh st lv f 0 nw ns) (hv : SV f)
    (A : GRD (0 ≤ p0.toInt ∧ p0.toInt < ns) (-1) (fun x => x = shF p1.toInt (ht p0.toInt.toNat).toInt (rc p0.toInt.toNat).toInt (rm p0.toInt.toNat).toInt (stF sh st p0 12).toInt) x)
    (B : GRD (0 ≤ p0.toInt ∧ p0.toInt < (t 1).toInt) (-1) (fun x => x = shF p1.toInt (t (99 + 3 * p0.toInt.toNat)).toInt (t (99 + 3 * p0.toInt.toNat + 1)).toInt (t (99 + 3 * p0.toInt.toNat + 2)).toInt (f (0 + 105 * p0.toInt.toNat)).toInt) y) : x = y := by
  have e1 := hS.1
  refine GRD.eq A B ⟨fun z => by omega, fun z => by omega⟩ (fun z a b => ?_)
  obtain ⟨a0, a1, a2⟩ := hS.2 p0.toInt.toNat (by omega)
  have sk := h.stacks hv (by decide) z.1 z.2
  rw [show 460 * 0 + 105 * p0.toInt.toNat = 0 + 105 * p0.toInt.toNat by omega] at sk
  rw [a, b, a0, a1, a2, sk]
/-- a ware is in: for both -/
theorem in_iff {nw ns : Int} {wd dp wt br bk hb : Nat → Int32} {lids tops : Int32} {t sh st lv f ht rc rm : Nat → Int32} {p0 : Int32} (hT : TD nw wd dp wt br bk hb lids tops t) (hS : TSH ns ht rc rm t) (h : ST sh st lv f 0 nw ns) (hv : SV f) (h12 : nw ≤ 12) : ((0 ≤ p0.toInt ∧ p0.toInt < nw) ∧ ¬ (sh p0.toInt.toNat).toInt = -1) ↔ ((0 ≤ p0.toInt ∧ p0.toInt < (t 0).toInt) ∧ ¬ NI f 0 p0 (t 1).toInt) := by
  have e0 := hT.1
  have e1 := hS.1
  constructor
  · rintro ⟨z1, z2⟩
    refine ⟨by omega, fun z => z2 ?_⟩
    rw [← e1] at z
    exact h.out ⟨by omega, by omega⟩ z hv (by decide)
  · rintro ⟨z1, z2⟩
    refine ⟨by omega, fun z => z2 ?_⟩
    rw [← e1]
    exact h.ni ⟨by omega, by omega⟩ z
theorem ST.row2 {ns : Int} {sh st lv f : Nat → Int32} {nw : Int} {w s k q : Nat} (h : ST sh st lv f 0 nw ns) (hv : SV f) (hw : w < 12) (i : IN f 0 ns s k q w) (s4 : s < 4) (k8 : k < 8) : ROW sh st lv (sh w) (st w) (fun p => f (105 * s + 1 + 13 * k + 1 + p)) (f (105 * s + 1 + 13 * k)).toInt.toNat ∧ 0 ≤ (f (105 * s + 1 + 13 * k)).toInt ∧ (q : Int) < (f (105 * s + 1 + 13 * k)).toInt ∧ (f (105 * s + 1 + 13 * k)).toInt ≤ 12 := by
  obtain ⟨j1, j2, j3⟩ := h.pos hw i
  obtain ⟨i1, i2, i3, i4⟩ := i
  have es : (sh w).toInt.toNat = s := by omega
  have ek : (st w).toInt.toNat = k := by omega
  have hR := h.row hv (by decide) (s := sh w) (k := st w) (by omega) (by omega) (by omega) (by rw [es]; omega)
  have zz := hv.z12 (b := 0) (s := s) (k := k) (by decide) s4 k8
  rw [es, ek] at hR
  rw [show 460 * 0 + 105 * s = 105 * s by omega] at hR zz i3
  exact ⟨hR, zz.1, i3, zz.2⟩
theorem where_eq {nw ns : Int} {wd dp wt br bk hb : Nat → Int32} {lids tops : Int32} {t sh st lv f ht rc rm : Nat → Int32} {p0 p1 : Int32} {x y : Int} (hT : TD nw wd dp wt br bk hb lids tops t) (hS : TSH ns ht rc rm t) (h : ST sh st lv f 0 nw ns) (hv : SV f) (h12 : nw ≤ 12)
    (A : GRD ((0 ≤ p0.toInt ∧ p0.toInt < nw) ∧ ¬ (sh p0.toInt.toNat).toInt = -1) (-1) (fun x => ∀ (r : Nat → Int32) (n : Nat), ROW sh st lv (sh p0.toInt.toNat) (st p0.toInt.toNat) r n → x = whF p1.toInt (sh p0.toInt.toNat).toInt (st p0.toInt.toNat).toInt (lv p0.toInt.toNat).toInt ((n : Int) - 1 - (lv p0.toInt.toNat).toInt) (ftF (rsC wd dp lids) r (lv p0.toInt.toNat).toInt.toNat).toInt) x)
    (B : GRD ((0 ≤ p0.toInt ∧ p0.toInt < (t 0).toInt) ∧ ¬ NI f 0 p0 (t 1).toInt) (-1) (fun x => ∃ s k q : Nat, IN f 0 (t 1).toInt s k q p0.toInt.toNat ∧ s < 4 ∧ k < 8 ∧ x = whF p1.toInt (s : Int) (k : Int) (q : Int) ((f (105 * s + 1 + 13 * k)).toInt - 1 - (q : Int)) (ftF (rsM t) (fun p => f (105 * s + 1 + 13 * k + 1 + p)) q).toInt) y) : x = y := by
  refine GRD.eq A B (in_iff hT hS h hv h12) (fun z a b => ?_)
  obtain ⟨s, k, q, i, s4, k8, b⟩ := b
  rw [← hS.1] at i
  have w12 : p0.toInt.toNat < 12 := by omega
  obtain ⟨j1, j2, j3⟩ := h.pos w12 i
  obtain ⟨hR, n0, q1, _⟩ := h.row2 hv w12 i s4 k8
  have nw' := fun p hp => ROW.nw h (s := sh p0.toInt.toNat) (by omega) hR (p := p) hp
  have ef : ftF (rsC wd dp lids) (fun p => f (105 * s + 1 + 13 * k + 1 + p)) q = ftF (rsM t) (fun p => f (105 * s + 1 + 13 * k + 1 + p)) q := ftF_cong q (fun p hp => by
    have a1 := nw' p (by omega)
    have a2 := nw' (p + 1) (by omega)
    exact hT.rs (by omega) (by omega))
  rw [a _ _ hR, b, j1, j2, j3, Int.toNat_of_nonneg n0, show ((q : Int)).toNat = q by omega, ef]
theorem lift_eq {nw ns : Int} {wd dp wt br bk hb : Nat → Int32} {lids tops : Int32} {t sh st lv f ht rc rm : Nat → Int32} {p0 : Int32} {x y : Int} (hT : TD nw wd dp wt br bk hb lids tops t) (hS : TSH ns ht rc rm t) (h : ST sh st lv f 0 nw ns) (hv : SV f) (h12 : nw ≤ 12)
    (A : GRD ((0 ≤ p0.toInt ∧ p0.toInt < nw) ∧ ¬ (sh p0.toInt.toNat).toInt = -1) (-1) (fun x => ∀ (r : Nat → Int32) (n : Nat), ROW sh st lv (sh p0.toInt.toNat) (st p0.toInt.toNat) r n → x = (prC wt r (lv p0.toInt.toNat) (nI n) (rc (sh p0.toInt.toNat).toInt.toNat)).toInt) x)
    (B : GRD ((0 ≤ p0.toInt ∧ p0.toInt < (t 0).toInt) ∧ ¬ NI f 0 p0 (t 1).toInt) (-1) (fun x => ∃ s k q : Nat, IN f 0 (t 1).toInt s k q p0.toInt.toNat ∧ s < 4 ∧ k < 8 ∧ x = (lcF (wtM t) (fun p => f (105 * s + 1 + 13 * k + 1 + p)) (t (99 + 3 * s + 1)) q (f (105 * s + 1 + 13 * k)).toInt.toNat).toInt) y) : x = y := by
  refine GRD.eq A B (in_iff hT hS h hv h12) (fun z a b => ?_)
  obtain ⟨s, k, q, i, s4, k8, b⟩ := b
  rw [← hS.1] at i
  have w12 : p0.toInt.toNat < 12 := by omega
  obtain ⟨j1, j2, j3⟩ := h.pos w12 i
  have i1 := i.1
  obtain ⟨hR, n0, q1, n12⟩ := h.row2 hv w12 i s4 k8
  have nw' := fun p hp => ROW.nw h (s := sh p0.toInt.toNat) (by omega) hR (p := p) hp
  have el : lv p0.toInt.toNat = nI q := (i_eq _ _).mpr (by rw [nI_toInt (by omega)]; exact j3)
  have er : rc (sh p0.toInt.toNat).toInt.toNat = t (99 + 3 * s + 1) := by rw [show (sh p0.toInt.toNat).toInt.toNat = s by omega]; exact (i_eq _ _).mpr (hS.2 s (by omega)).2.1
  rw [a _ _ hR, b, el, er, ← lc_pr _ (by omega) (by omega), lcF_cong (wt := wt) (wt' := wtM t) (r' := fun p => f (105 * s + 1 + 13 * k + 1 + p)) _ (fun p _ hp => by have a1 := nw' p hp; exact hT.wt (by omega))]

theorem count_eq {nw ns nn na : Int} {wd dp wt br bk hb : Nat → Int32} {lids tops : Int32} {t sh st lv f ht rc rm : Nat → Int32} {p0 : Int32} {x y L M : Int} (hT : TD nw wd dp wt br bk hb lids tops t) (hS : TSH ns ht rc rm t) (h : ST sh st lv f 0 nw ns) (hv : SV f) (h0 : 0 ≤ nw) (h12 : nw ≤ 12) (hn : nn = (t 2).toInt) (ha : na = (f 421).toInt) (hl : L = M)
    (A : x = coF p0.toInt nw ns nn ((cnB (oT sh) nw.toNat : Nat) : Int) na L) (B : y = coF p0.toInt (t 0).toInt (t 1).toInt (t 2).toInt ((cnB (niB f 0 (t 1).toInt) (t 0).toInt.toNat : Nat) : Int) (f 421).toInt M) : x = y := by
  have e0 := hT.1
  have e1 := hS.1
  have ec : cnB (oT sh) nw.toNat = cnB (niB f 0 (t 1).toInt) (t 0).toInt.toNat := by
    rw [← e0, ← e1]
    refine cnB_cong _ (fun j hj => ?_)
    apply Bool.eq_iff_iff.mpr
    rw [oT_iff, niB_iff]
    have ej : (nI j).toInt = (j : Int) := nI_toInt (by omega)
    constructor
    · intro z; exact h.ni ⟨by omega, by omega⟩ (by rw [ej]; rw [show ((j : Int)).toNat = j by omega]; exact z)
    · intro z
      have := h.out ⟨by omega, by omega⟩ z hv (by decide)
      rw [ej, show ((j : Int)).toNat = j by omega] at this; exact this
  rw [A, B, ← e0, ← e1, ← hn, ← ha, ← hl, ec, ← e0, ← e1]

theorem my_eq {w nn : Int} {wd dp wt br bk hb : Nat → Int32} {lids tops : Int32} {my t o a : Nat → Int32} {E : (Nat → (Nat → Int32) → Int32)} (h1 : TD w wd dp wt br bk hb lids tops t) (h12 : w ≤ 12) (hM : MYC my (mayC w nn E wd dp wt lids tops)) (hE : ME6 t o a E) (hn : nn = (t 2).toInt) {u l : Nat} (hu : (u : Int) < w) (hl : (l : Int) < w) : BT (my l) u = TME t E u l := by
  by_cases q : u = l
  · rw [TME_same _ _ q, hM l u (by omega) (by omega)]
    exact Bool.eq_false_iff.mpr (fun z => by
      unfold mayC at z
      rw [Bool.and_eq_true] at z
      have := of_decide_eq_true z.1
      exact this.2.2 q)
  · rw [TME_ne _ _ q]; exact MYR.may h1 h12 hM hE hn hu hl q
theorem through_eq {w nn : Int} {wd dp wt br bk hb : Nat → Int32} {lids tops : Int32} {my ab t o a : Nat → Int32} {E : (Nat → (Nat → Int32) → Int32)} (h1 : TD w wd dp wt br bk hb lids tops t) (h0 : 0 ≤ w) (h12 : w ≤ 12) (hM : MYC my (mayC w nn E wd dp wt lids tops)) (hE : ME6 t o a E) (hn : nn = (t 2).toInt) (hO : OA w my ab) (p q : Int) : thC p q w ab = thM p q (t 0).toInt (TME t E) := by
  unfold thC thM
  rw [← h1.1]
  by_cases c : 0 ≤ p ∧ p < w ∧ 0 ≤ q ∧ q < w
  · rw [if_pos c, if_pos c, hO q.toNat p.toNat (by omega) (by omega), wsh_cong (T' := TME t E) (n := w.toNat) (fun u l hu hl => my_eq h1 h12 hM hE hn (by omega) (by omega)) _ (Nat.le_refl _) _ _ (by omega) (by omega)]
  · rw [if_neg c, if_neg c]
theorem OA.zero {w : Int} {my ab : Nat → Int32} (h : w ≤ 0) : OA w my ab := fun l u hl _ => absurd hl (by omega)

theorem rows_eq {w nn : Int} {wd dp wt br bk hb : Nat → Int32} {lids tops : Int32} {my ab t o a : Nat → Int32} {E : (Nat → (Nat → Int32) → Int32)} (h1 : TD w wd dp wt br bk hb lids tops t) (h0 : 0 ≤ w) (h12 : w ≤ 12) (hM : MYC my (mayC w nn E wd dp wt lids tops)) (hE : ME6 t o a E) (hn : nn = (t 2).toInt) (hO : OA w my ab) {p x x' : Int} (h : RWQ (∃ j : Nat, (j : Int) < w ∧ BT (ab j) j = true) (APT (CHc ab) w) w p x) (h' : RWQ (∃ j : Nat, (j : Int) < (t 0).toInt ∧ wsh (TME t E) (t 0).toInt.toNat j j = true) (APL (chM (TME t E) (t 0).toInt.toNat) (t 0).toInt) (t 0).toInt p x') : x = x' := by
  rw [← h1.1] at h'
  have key : ∀ u l : Nat, (u : Int) < w → (l : Int) < w → BT (ab l) u = wsh (TME t E) w.toNat u l := fun u l hu hl => by
    rw [hO l u hl (by omega), wsh_cong (T' := TME t E) (n := w.toNat) (fun u l hu hl => my_eq h1 h12 hM hE hn (by omega) (by omega)) _ (Nat.le_refl _) _ _ (by omega) (by omega)]
  refine h.uniq h' ⟨fun z => ?_, fun z => ?_⟩ (fun nr s => AP_iff (fun j hj z => nr ⟨j, hj, ?_⟩) (fun a b ha hb => ?_) (fun a b => Bool.or_comm _ _) s)
  · obtain ⟨j, hj, z⟩ := z
    exact ⟨j, hj, by rw [← key j j hj hj]; exact z⟩
  · obtain ⟨j, hj, z⟩ := z
    exact ⟨j, hj, by rw [key j j hj hj]; exact z⟩
  · unfold CHc at z
    cases hb : BT (ab j) j
    · rw [hb] at z; exact absurd z (by decide)
    · rfl
  · show (BT (ab a) b || BT (ab b) a) = (wsh (TME t E) w.toNat a b || wsh (TME t E) w.toNat b a)
    rw [key b a hb ha, key a b ha hb, Bool.or_comm]

theorem row_eq {w nn : Int} {wd dp wt br bk hb : Nat → Int32} {lids tops : Int32} {my ab t o a : Nat → Int32} {E : (Nat → (Nat → Int32) → Int32)} (h1 : TD w wd dp wt br bk hb lids tops t) (h0 : 0 ≤ w) (h12 : w ≤ 12) (hM : MYC my (mayC w nn E wd dp wt lids tops)) (hE : ME6 t o a E) (hn : nn = (t 2).toInt) (hO : OA w my ab) {p x x' : Int} (h : ROQ (0 ≤ p ∧ p < w) (∃ j : Nat, (j : Int) < w ∧ BT (ab j) j = true) (APT (CHc ab) w) (CHc ab) w p x) (h' : ROQ (0 ≤ p ∧ p < (t 0).toInt) (∃ j : Nat, (j : Int) < (t 0).toInt ∧ wsh (TME t E) (t 0).toInt.toNat j j = true) (APL (chM (TME t E) (t 0).toInt.toNat) (t 0).toInt) (chM (TME t E) (t 0).toInt.toNat) (t 0).toInt p x') : x = x' := by
  rw [← h1.1] at h'
  have key : ∀ u l : Nat, (u : Int) < w → (l : Int) < w → BT (ab l) u = wsh (TME t E) w.toNat u l := fun u l hu hl => by
    rw [hO l u hl (by omega), wsh_cong (T' := TME t E) (n := w.toNat) (fun u l hu hl => my_eq h1 h12 hM hE hn (by omega) (by omega)) _ (Nat.le_refl _) _ _ (by omega) (by omega)]
  have rd : (∃ j : Nat, (j : Int) < w ∧ BT (ab j) j = true) ↔ (∃ j : Nat, (j : Int) < w ∧ wsh (TME t E) w.toNat j j = true) := ⟨fun ⟨j, hj, z⟩ => ⟨j, hj, by rw [← key j j hj hj]; exact z⟩, fun ⟨j, hj, z⟩ => ⟨j, hj, by rw [key j j hj hj]; exact z⟩⟩
  have ch : ∀ a b : Nat, (a : Int) < w → (b : Int) < w → CHc ab a b = chM (TME t E) w.toNat a b := fun a b ha hb => by
    unfold CHc chM
    rw [key b a hb ha, key a b ha hb, Bool.or_comm]
  rcases h with ⟨c, d⟩ | ⟨c, nr, b, b1, b2⟩
  · rcases h' with ⟨c', d'⟩ | ⟨c', nr', _⟩
    · omega
    · exfalso
      rcases c with c | c
      · exact c c'
      · exact nr' (rd.mp c)
  · rcases h' with ⟨c', d'⟩ | ⟨c', nr', b', b1', b2'⟩
    · exfalso
      rcases c' with c' | c'
      · exact c' c
      · exact nr (rd.mpr c')
    · have hm : (0 : Int) < 2 ^ w.toNat := by have := pw1 w.toNat; omega
      have iff : ∀ s : Int32, APT (CHc ab) w s ↔ APL (chM (TME t E) w.toNat) w s := fun s => AP_iff (fun j hj z => nr ⟨j, hj, by
        unfold CHc at z
        cases hb : BT (ab j) j
        · rw [hb] at z; exact absurd z (by decide)
        · rfl⟩) (fun a b ha hb => ch a b ha hb) (fun a b => Bool.or_comm _ _) s
      have eb := b1.uniq b1' hm (fun s _ _ => iff s)
      rw [← eb] at b1' b2'
      have ew : ((w.toNat : Nat) : Int) = w := by omega
      obtain ⟨g, hg⟩ := rows_ex (T := TME t E) (w := w.toNat) (by omega) (fun j hj z => nr' ⟨j, by omega, z⟩) (b := b) (by rw [ew]; exact b1') (fun _ => 0)
      rw [b2' g hg]
      exact b2 g ((GVS.cg (W := w.toNat) (fun a b ha hb => ch a b (by omega) (by omega)) _ _ _ _ _ g g (by omega) (fun _ _ => rfl) (fun _ _ => rfl)).mpr hg)

theorem pr_lc {nw ns : Int} {wd dp wt br bk hb : Nat → Int32} {lids tops : Int32} {t sh st lv f ht rc rm : Nat → Int32} {b : Nat} (hT : TD nw wd dp wt br bk hb lids tops t) (hS : TSH ns ht rc rm t) (h : ST sh st lv f b nw ns) (hv : SV f) (hb6 : b < 6) {w s k q : Nat} (w12 : w < 12) (i : IN f b ns s k q w) (s4 : s < 4) (k8 : k < 8) {z : Int32} (a : ∀ (r : Nat → Int32) (n : Nat), ROW sh st lv (sh w) (st w) r n → z = prC wt r (lv w) (nI n) (rc (sh w).toInt.toNat)) : z = lcF (wtM t) (fun p => f (460 * b + 105 * s + 1 + 13 * k + 1 + p)) (t (99 + 3 * s + 1)) q (f (460 * b + 105 * s + 1 + 13 * k)).toInt.toNat := by
  obtain ⟨j1, j2, j3⟩ := h.pos w12 i
  have i1 := i.1
  have i2 := i.2.1
  have i3 := i.2.2.1
  have es : (sh w).toInt.toNat = s := by omega
  have ek : (st w).toInt.toNat = k := by omega
  have hR := h.row hv hb6 (s := sh w) (k := st w) (by omega) (by omega) (by omega) (by rw [es]; omega)
  rw [es, ek] at hR
  have zz := hv.z12 hb6 s4 k8
  have nw' := fun p hp => ROW.nw h (s := sh w) (by omega) hR (p := p) hp
  have el : lv w = nI q := (i_eq _ _).mpr (by rw [nI_toInt (by omega)]; exact j3)
  have er : rc (sh w).toInt.toNat = t (99 + 3 * s + 1) := by rw [es]; exact (i_eq _ _).mpr (hS.2 s (by omega)).2.1
  rw [a _ _ hR, el, er, ← lc_pr _ (by omega) (by omega), lcF_cong (wt := wt) (wt' := wtM t) (r' := fun p => f (460 * b + 105 * s + 1 + 13 * k + 1 + p)) _ (fun p _ hp => by have a1 := nw' p hp; exact hT.wt (by omega))]
theorem pr_uniq {nw ns : Int} {wd dp wt br bk hb : Nat → Int32} {lids tops : Int32} {t sh st lv f ht rc rm : Nat → Int32} {b : Nat} (hT : TD nw wd dp wt br bk hb lids tops t) (hS : TSH ns ht rc rm t) (h : ST sh st lv f b nw ns) (hv : SV f) (hb6 : b < 6) {w : Int32} (hw : 0 ≤ w.toInt ∧ w.toInt < 12) {x y : Int32} (A : pAC wt rc sh st lv w.toInt.toNat x) (B : pAM t f b ns w y) : x = y := by
  rcases A with ⟨a1, a2⟩ | ⟨a1, a2⟩
  · rcases B with ⟨b1, b2⟩ | ⟨b1, b2⟩
    · exact a2.trans b2.symm
    · exact absurd (h.ni hw a1) b1
  · rcases B with ⟨b1, b2⟩ | ⟨b1, b2⟩
    · exact absurd (h.out hw b1 hv hb6) a1
    · obtain ⟨s, k, q, i, s4, k8, e⟩ := b2
      rw [e]; exact pr_lc hT hS h hv hb6 (by omega) i s4 k8 a2
theorem asked_eq {nw ns na : Int} {wd dp wt br bk hb : Nat → Int32} {lids tops : Int32} {t sh st lv as f ht rc rm : Nat → Int32} {x y : Int32} (hT : TD nw wd dp wt br bk hb lids tops t) (hS : TSH ns ht rc rm t) (h : ST sh st lv f 0 nw ns) (hv : SV f) (hq : AQ as na f 422) (hi : Iv 30 0 11 as) (hn : na ≤ 30) (ha : na = (f 421).toInt) (A : SR (pAA wt rc sh st lv as) na.toNat x) (B : SR (pAMA t f (t 1).toInt) (f 421).toInt.toNat y) : x = y := by
  rw [← ha, ← hS.1] at B
  refine SR.uniq _ _ _ (fun j hj a b pa pb => ?_) A B
  have e := hq j (by omega)
  have i := hi j (by omega)
  have pb' : pAM t f 0 ns (f (422 + j)) b := pb
  rw [← e] at pb'
  exact pr_uniq hT hS h hv (by decide) ⟨i.1, by omega⟩ pa pb'
theorem habit_eq {nw ns : Int} {wd dp wt br bk hb : Nat → Int32} {lids tops : Int32} {t sh st lv f ht rc rm : Nat → Int32} {p : Int32} {x y : Int} (hT : TD nw wd dp wt br bk hb lids tops t) (hS : TSH ns ht rc rm t) (h : ST sh st lv f 0 nw ns) (hv : SV f) (h0 : 0 ≤ nw) (h12 : nw ≤ 12)
    (A : ∃ ab : Int32, SR (pHC hb wt rc sh st lv) nw.toNat ab ∧ haC p ab (sumF hb nw.toNat) x)
    (B : ∃ ab : Int32, SR (pHM t f (t 1).toInt) (t 0).toInt.toNat ab ∧ 0 ≤ ab.toInt ∧ (0 ≤ (sumF (hbM t) (t 0).toInt.toNat).toInt ∧ (sumF (hbM t) (t 0).toInt.toNat).toInt ≤ 11988) ∧ haM p ab (sumF (hbM t) (t 0).toInt.toNat) y) : x = y := by
  rw [← hT.1, ← hS.1] at B
  obtain ⟨a, a1, a2⟩ := A
  obtain ⟨b, b1, b2, b3, b4⟩ := B
  have hbE : ∀ j : Nat, (j : Int) < nw → hb j = hbM t j := fun j hj => (i_eq _ _).mpr (hT.2 j hj).2.2.2.2.2.1
  have e1 : sumF hb nw.toNat = sumF (hbM t) nw.toNat := sumF_cong _ (fun j hj => hbE j (by omega))
  have e2 : a = b := SR.uniq _ _ _ (fun j hj u v pu pv => by
    obtain ⟨u', pu, eu'⟩ := pu
    obtain ⟨v', pv, ev'⟩ := pv
    have ej : (nI j).toInt = (j : Int) := nI_toInt (by omega)
    have pu' : pAC wt rc sh st lv (nI j).toInt.toNat u' := by rw [ej, Int.toNat_natCast]; exact pu
    rw [eu', ev', pr_uniq hT hS h hv (by decide) ⟨by omega, by omega⟩ pu' pv, hbE j (by omega)]) a1 b1
  subst e2
  rw [e1] at a2
  exact ha_eq a2 b4 b2 b3.1 b3.2

theorem ctM_0 {r : Nat → Int32} {w : Int32} {a : Nat} : ∀ m, (∀ j, j < m → ¬ r (a + j) = w) → ctM r w a m = 0 := by
  intro m
  induction m with
  | zero => intro _; rfl
  | succ m ih => intro h; show ctM r w a m + (if r (a + m) = w then 2 else 0) = 0; rw [ih (fun j hj => h j (by omega)), if_neg (h m (by omega))]; rfl
theorem ctM_1 {r : Nat → Int32} {w : Int32} {a p : Nat} : ∀ m, a ≤ p → p < a + m → r p = w → (∀ j, j < m → r (a + j) = w → a + j = p) → ctM r w a m = 2 := by
  intro m
  induction m with
  | zero => intro h1 h2; omega
  | succ m ih =>
    intro h1 h2 h3 h4
    show ctM r w a m + (if r (a + m) = w then 2 else 0) = 2
    by_cases q : r (a + m) = w
    · have e := h4 m (by omega) q
      rw [ctM_0 m (fun j hj z => by have y := h4 j (by omega) z; omega), if_pos q]; rfl
    · rw [ih h1 (by by_cases z : p = a + m; (rw [← z] at q; exact absurd h3 q); omega) h3 (fun j hj => h4 j (by omega)), if_neg q]; rfl
theorem lift1_eq {nw ns : Int} {t sh st lv as f : Nat → Int32} (h : ST sh st lv f 0 nw ns) (hv : SV f) {w : Int32} (hw : 0 ≤ w.toInt ∧ w.toInt < 12) {j : Nat} (hi : 0 ≤ (as j).toInt ∧ (as j).toInt ≤ 11) (hq : as j = f (422 + j)) {x y : Int32} (A : pLC sh st lv as w j x) (B : pLMA t f ns w j y) : x = y := by
  have B' : pLM t f ns w (as j) y := by rw [hq]; exact B
  obtain ⟨o, eo⟩ : ∃ o, as j = o := ⟨_, rfl⟩
  unfold pLC at A
  rw [eo] at A B' hi
  have ho : o.toInt.toNat < 12 := by omega
  rcases A with ⟨a1, a2⟩ | ⟨a1, a2⟩
  · rcases B' with ⟨_, b2⟩ | ⟨b1, _⟩
    · rw [a2, b2]
    · exact absurd (h.ni ⟨hi.1, by omega⟩ a1) b1
  · rcases B' with ⟨b1, _⟩ | ⟨_, s, k, q, i, s4, k8, e⟩
    · exact absurd (h.out ⟨hi.1, by omega⟩ b1 hv (by decide)) a1
    · obtain ⟨j1, j2, j3⟩ := h.pos ho i
      have i1 := i.1
      have i2 := i.2.1
      have i3 := i.2.2.1
      have i4 := i.2.2.2
      have zz := hv.z12 (b := 0) (by decide) s4 k8
      rw [show 460 * 0 + 105 * s = 105 * s by omega] at i2 i3 i4 zz
      have hwn : w.toInt.toNat < 12 := by omega
      -- a place of w in that row is w's level
      have un : ∀ p : Nat, (p : Int) < (f (105 * s + 1 + 13 * k)).toInt → f (105 * s + 1 + 13 * k + 1 + p) = w → (sh w.toInt.toNat).toInt = (s : Int) ∧ (st w.toInt.toNat).toInt = (k : Int) ∧ (lv w.toInt.toNat).toInt = (p : Int) := fun p hp ep =>
        (h.1 w.toInt.toNat s k p hwn).mpr ⟨i1, by rw [show 460 * 0 + 105 * s = 105 * s by omega]; exact i2, by rw [show 460 * 0 + 105 * s = 105 * s by omega]; exact hp, by rw [show 460 * 0 + 105 * s = 105 * s by omega, ep]; omega⟩
      by_cases c : sh w.toInt.toNat = sh o.toInt.toNat ∧ st w.toInt.toNat = st o.toInt.toNat
      · rw [if_pos c] at a2
        have l0 := h.2.2.2.2.2.1 w.toInt.toNat hwn
        obtain ⟨m1, m2, m3, m4⟩ := (h.1 w.toInt.toNat s k (lv w.toInt.toNat).toInt.toNat hwn).mp ⟨by rw [c.1]; exact j1, by rw [c.2]; exact j2, by omega⟩
        rw [show 460 * 0 + 105 * s = 105 * s by omega] at m3 m4
        have ew : f (105 * s + 1 + 13 * k + 1 + (lv w.toInt.toNat).toInt.toNat) = w := (i_eq _ _).mpr (by omega)
        by_cases d : o = w
        · rw [if_pos d] at a2
          have el : (lv w.toInt.toNat).toInt = (q : Int) := by rw [← d]; exact j3
          rw [a2, e, if_pos d, ctM_0 _ (fun z hz ez => by have y1 := un (q + 1 + z) (by omega) ez; omega)]; rfl
        · rw [if_neg d] at a2
          by_cases g : (lv o.toInt.toNat).toInt < (lv w.toInt.toNat).toInt
          · rw [if_pos g] at a2
            rw [a2, e, if_neg d, ctM_1 (p := (lv w.toInt.toNat).toInt.toNat) _ (by omega) (by omega) ew (fun z hz ez => by have y1 := un (q + 1 + z) (by omega) ez; omega)]; rfl
          · rw [if_neg g] at a2
            rw [a2, e, if_neg d, ctM_0 _ (fun z hz ez => by have y1 := un (q + 1 + z) (by omega) ez; omega)]; rfl
      · rw [if_neg c] at a2
        have no : ∀ p : Nat, (p : Int) < (f (105 * s + 1 + 13 * k)).toInt → ¬ f (105 * s + 1 + 13 * k + 1 + p) = w := fun p hp ep => by
          obtain ⟨y1, y2, _⟩ := un p hp ep
          exact c ⟨(i_eq _ _).mpr (by omega), (i_eq _ _).mpr (by omega)⟩
        have d : ¬ o = w := fun z => c ⟨by rw [z], by rw [z]⟩
        rw [a2, e, if_neg d, ctM_0 _ (fun z hz ez => no (q + 1 + z) (by omega) ez)]; rfl
theorem sub_l {x : Int32} (h0 : 0 ≤ x.toInt) (h1 : x.toInt ≤ 1000) : (100 - x).toInt64 = 100 - x.toInt64 := by
  have l : (100 : Int32).toInt = 100 := rfl
  apply Int64.toInt_inj.mp
  rw [Int32.toInt_toInt64, fb_subI (by rw [l]; omega) (by rw [l]; omega), l]
  rw [Int64.toInt_sub, Int32.toInt_toInt64]
  show _ = (100 - x.toInt).bmod _
  exact (Int.bmod_eq_of_le (by omega) (by omega)).symm
theorem whole_eq {nw ns na : Int} {wd dp wt br bk hb : Nat → Int32} {lids tops : Int32} {t sh st lv as f ht rc rm : Nat → Int32} {p q : Int32} {th th' : Int} {x x' : Int64} (hT : TD nw wd dp wt br bk hb lids tops t) (hS : TSH ns ht rc rm t) (h : ST sh st lv f 0 nw ns) (hv : SV f) (hA : AQ as na f 422) (hi : Iv 30 0 11 as) (hn : na ≤ 30) (ha : na = (f 421).toInt) (h12 : nw ≤ 12) (hb9 : TV t)
    (A : WHQ (SR (pLC sh st lv as p) na.toNat) nw p.toInt q.toInt (WHV ((100 - bk p.toInt.toNat).toInt64) q.toInt) th x) (B : WHQ (SR (pLMA t f (t 1).toInt p) (f 421).toInt.toNat) (t 0).toInt p.toInt q.toInt (WHV (100 - (t (3 + 8 * p.toInt.toNat + 4)).toInt64) q.toInt) th' x') : th = th' ∧ (th = 0 → x = x') := by
  rw [← ha, ← hS.1, ← hT.1] at B
  refine A.eq B (fun g n n' s1 s2 => SR.uniq _ _ _ (fun j hj a b pa pb => lift1_eq h hv ⟨g.1, by omega⟩ (hi j (by omega)) (hA j (by omega)) pa pb) s1 s2) (fun g n => ?_)
  have e : bk p.toInt.toNat = t (3 + 8 * p.toInt.toNat + 4) := (i_eq _ _).mpr (hT.2 p.toInt.toNat (by omega)).2.2.2.2.1
  have b := hb9.any (j := 3 + 8 * p.toInt.toNat + 4) (by omega)
  rw [e, sub_l b.1 b.2]

/-- one goes on top of its stack -/
theorem ST.rs {sh st lv f lv' g : Nat → Int32} {b : Nat} {nw ns : Int} {w0 s0 k0 p0 n : Nat} (h : ST sh st lv f b nw ns) (hv : SV f) (hb : b < 6) (hw0 : w0 < 12) (i0 : (sh w0).toInt = (s0 : Int) ∧ (st w0).toInt = (k0 : Int) ∧ (lv w0).toInt = (p0 : Int)) (hs0 : s0 < 4) (hk0 : k0 < 8) (hn : (f (460 * b + 105 * s0 + 1 + 13 * k0)).toInt = (n : Int))
    (c3 : ∀ w, w < 12 → (lv' w).toInt = if w = w0 then (n : Int) - 1 else if (sh w).toInt = (s0 : Int) ∧ (st w).toInt = (k0 : Int) ∧ (p0 : Int) < (lv w).toInt then (lv w).toInt - 1 else (lv w).toInt)
    (r1 : (g (460 * b + 105 * s0 + 1 + 13 * k0)).toInt = (f (460 * b + 105 * s0 + 1 + 13 * k0)).toInt) (r2 : ∀ p : Nat, p + 1 < n → g (460 * b + 105 * s0 + 1 + 13 * k0 + 1 + p) = f (460 * b + 105 * s0 + 1 + 13 * k0 + 1 + (if (p : Int) < (p0 : Int) then p else p + 1))) (r2' : ∀ p : Nat, p + 1 = n → (g (460 * b + 105 * s0 + 1 + 13 * k0 + 1 + p)).toInt = (w0 : Int)) (r3 : ∀ s : Nat, s < 4 → g (460 * b + 105 * s) = f (460 * b + 105 * s)) (r4 : ∀ s k r : Nat, s < 4 → k < 8 → r < 13 → ¬ (s = s0 ∧ k = k0) → g (460 * b + 105 * s + 1 + 13 * k + r) = f (460 * b + 105 * s + 1 + 13 * k + r)) : ST sh st lv' g b nw ns := by
  have n4 := h.2.2.2.2.2.2
  have iv3 := h.2.2.2.2.2.1
  have j0 : IN f b ns s0 k0 p0 w0 := (h.1 w0 s0 k0 p0 hw0).mp i0
  have pn : p0 < n := by have := j0.2.2.1; omega
  have n12 : n ≤ 12 := by have := (hv.z12 hb hs0 hk0).2; omega
  have a4 : ∀ s k : Nat, s < 4 → k < 8 → ¬ (s = s0 ∧ k = k0) → g (460 * b + 105 * s + 1 + 13 * k) = f (460 * b + 105 * s + 1 + 13 * k) := fun s k q1 q2 q3 => r4 s k 0 q1 q2 (by decide) q3
  have key1a : ∀ p w : Nat, p + 1 < n → (IN g b ns s0 k0 p w ↔ IN f b ns s0 k0 (if (p : Int) < (p0 : Int) then p else p + 1) w) := fun p w hp => by
    constructor
    · rintro ⟨i1, i2, i3, i4⟩
      rw [r3 s0 hs0] at i2
      rw [r2 p hp] at i4
      refine ⟨i1, i2, ?_, i4⟩
      by_cases q : (p : Int) < (p0 : Int)
      · rw [if_pos q]; omega
      · rw [if_neg q]; omega
    · rintro ⟨i1, i2, i3, i4⟩
      refine ⟨i1, ?_, ?_, ?_⟩
      · rw [r3 s0 hs0]; exact i2
      · rw [r1]; omega
      · rw [r2 p hp]; exact i4
  have key1b : ∀ p w : Nat, p + 1 = n → (IN g b ns s0 k0 p w ↔ w = w0) := fun p w hp => by
    constructor
    · rintro ⟨i1, i2, i3, i4⟩
      rw [r2' p hp] at i4
      omega
    · intro e
      refine ⟨j0.1, ?_, ?_, ?_⟩
      · rw [r3 s0 hs0]; exact j0.2.1
      · rw [r1]; omega
      · rw [r2' p hp, e]
  have key1c : ∀ p w : Nat, n ≤ p → ¬ IN g b ns s0 k0 p w := fun p w hp i => by
    have := i.2.2.1
    rw [r1] at this
    omega
  have key2 : ∀ s k p w : Nat, ¬ (s = s0 ∧ k = k0) → (IN g b ns s k p w ↔ IN f b ns s k p w) := fun s k p w e => by
    constructor
    · rintro ⟨i1, i2, i3, i4⟩
      have s4 : s < 4 := by omega
      rw [r3 s s4] at i2
      have c := hv.c8 hb s4
      have z := hv.z12 hb s4 (k := k) (by omega)
      rw [a4 s k s4 (by omega) e] at i3
      have y := r4 s k (1 + p) s4 (by omega) (by omega) e
      rw [z13] at y
      rw [y] at i4
      exact ⟨i1, i2, i3, i4⟩
    · rintro ⟨i1, i2, i3, i4⟩
      have s4 : s < 4 := by omega
      have c := hv.c8 hb s4
      have z := hv.z12 hb s4 (k := k) (by omega)
      have y := r4 s k (1 + p) s4 (by omega) (by omega) e
      rw [z13] at y
      refine ⟨i1, ?_, ?_, ?_⟩
      · rw [r3 s s4]; exact i2
      · rw [a4 s k s4 (by omega) e]; exact i3
      · rw [y]; exact i4
  refine ⟨fun w s k p hw => ?_, fun s k q1 q2 => ?_, h.2.2.1, h.2.2.2.1, h.2.2.2.2.1, fun w hw => ?_, n4⟩
  · have e3 := c3 w hw
    have lw := iv3 w hw
    by_cases q : s = s0 ∧ k = k0
    · obtain ⟨q1, q2⟩ := q
      rw [q1, q2]
      by_cases e : w = w0
      · rw [if_pos e] at e3
        constructor
        · rintro ⟨y1, y2, y3⟩
          exact (key1b p w (by omega)).mpr e
        · intro i
          by_cases c : p + 1 < n
          · exfalso
            have j := (h.1 w _ _ _ hw).mpr ((key1a p w c).mp i)
            have j3 := j.2.2
            rw [e] at j3
            by_cases z : (p : Int) < (p0 : Int)
            · rw [if_pos z] at j3; omega
            · rw [if_neg z] at j3; omega
          · by_cases d : p + 1 = n
            · rw [e] at e3 ⊢
              exact ⟨i0.1, i0.2.1, by omega⟩
            · exact absurd i (key1c p w (by omega))
      · rw [if_neg e] at e3
        constructor
        · rintro ⟨y1, y2, y3⟩
          have jn := (h.1 w s0 k0 (lv w).toInt.toNat hw).mp ⟨y1, y2, by omega⟩
          have ln := jn.2.2.1
          have nl : ¬ (lv w).toInt = (p0 : Int) := fun y => by
            have j1 := (h.1 w s0 k0 p0 hw).mp ⟨y1, y2, y⟩
            have a1 := j1.2.2.2
            have a2 := j0.2.2.2
            omega
          by_cases z : (p0 : Int) < (lv w).toInt
          · rw [if_pos ⟨y1, y2, z⟩] at e3
            refine (key1a p w (by omega)).mpr ((h.1 w s0 k0 _ hw).mp ⟨y1, y2, ?_⟩)
            rw [if_neg (by omega)]; omega
          · rw [if_neg (fun t => z t.2.2)] at e3
            refine (key1a p w (by omega)).mpr ((h.1 w s0 k0 _ hw).mp ⟨y1, y2, ?_⟩)
            rw [if_pos (by omega)]; omega
        · intro i
          by_cases c : p + 1 < n
          · obtain ⟨y1, y2, y3⟩ := (h.1 w _ _ _ hw).mpr ((key1a p w c).mp i)
            refine ⟨y1, y2, ?_⟩
            by_cases z : (p : Int) < (p0 : Int)
            · rw [if_pos z] at y3
              rw [if_neg (by omega)] at e3; omega
            · rw [if_neg z] at y3
              rw [if_pos ⟨y1, y2, by omega⟩] at e3; omega
          · by_cases d : p + 1 = n
            · exact absurd ((key1b p w d).mp i) e
            · exact absurd i (key1c p w (by omega))
    · rw [key2 s k p w q, ← h.1 w s k p hw]
      have ne : (sh w).toInt = (s : Int) → (st w).toInt = (k : Int) → ¬ w = w0 := fun y1 y2 e => by
        rw [e] at y1 y2
        exact q ⟨by omega, by omega⟩
      constructor
      · rintro ⟨y1, y2, y3⟩
        rw [if_neg (ne y1 y2), if_neg (fun t => q ⟨by omega, by omega⟩)] at e3
        exact ⟨y1, y2, by omega⟩
      · rintro ⟨y1, y2, y3⟩
        rw [if_neg (ne y1 y2), if_neg (fun t => q ⟨by omega, by omega⟩)] at e3
        exact ⟨y1, y2, by omega⟩
  · have s4 : s < 4 := by omega
    rw [r3 s s4] at q2
    by_cases q : s = s0 ∧ k = k0
    · rw [q.1, q.2, r1]; omega
    · have c := hv.c8 hb s4
      rw [a4 s k s4 (by omega) q]; exact h.2.1 s k q1 q2
  · have e3 := c3 w hw
    have lw := iv3 w hw
    by_cases e : w = w0
    · rw [if_pos e] at e3; omega
    · rw [if_neg e] at e3
      by_cases q : (sh w).toInt = (s0 : Int) ∧ (st w).toInt = (k0 : Int) ∧ (p0 : Int) < (lv w).toInt
      · rw [if_pos q] at e3; omega
      · rw [if_neg q] at e3; omega
theorem rt_ix {r : Nat → Int32} {q n : Nat} {w : Int32} (hq : q < n) (hw : r q = w) (p : Nat) (hp : p < n) : ∃ j : Nat, j < n ∧ rtR r (q : Int) n w p = r j ∧ ((j = (if (p : Int) < (q : Int) then p else p + 1) ∧ p + 1 < n) ∨ (j = q ∧ p + 1 = n)) := by
  unfold rtR
  by_cases c : p + 1 < n
  · rw [if_pos c]
    refine ⟨_, ?_, rfl, Or.inl ⟨rfl, c⟩⟩
    by_cases d : (p : Int) < (q : Int)
    · rw [if_pos d]; omega
    · rw [if_neg d]; omega
  · rw [if_neg c]; exact ⟨q, hq, hw.symm, Or.inr ⟨rfl, by omega⟩⟩
theorem rt_ne {sh st lv : Nat → Int32} {s k : Int32} {r : Nat → Int32} {n q : Nat} {w : Int32} (hR : ROW sh st lv s k r n) (hq : q < n) (hw : r q = w) (p : Nat) (hp : p + 1 < n) : ¬ rtR r (q : Int) n w (p + 1) = rtR r (q : Int) n w p := by
  obtain ⟨i, i1, i2, i3⟩ := rt_ix hq hw (p + 1) hp
  obtain ⟨j, j1, j2, j3⟩ := rt_ix hq hw p (by omega)
  rw [i2, j2]
  refine hR.ne i1 j1 (fun e => ?_)
  have jj : j = (if (p : Int) < (q : Int) then p else p + 1) := by
    rcases j3 with z | z
    · exact z.1
    · exact absurd z.2 (by omega)
  by_cases a : (p : Int) < (q : Int)
  · rw [if_pos a] at jj
    rcases i3 with ⟨e1, _⟩ | ⟨e1, _⟩
    · by_cases b : ((p + 1 : Nat) : Int) < (q : Int)
      · rw [if_pos b] at e1; omega
      · rw [if_neg b] at e1; omega
    · omega
  · rw [if_neg a] at jj
    rcases i3 with ⟨e1, _⟩ | ⟨e1, _⟩
    · rw [if_neg (by omega)] at e1; omega
    · omega
theorem rs_step {nw ns : Int} {wd dp wt br bk hb my ht rc rm : Nat → Int32} {lids tops : Int32} {t sh st lv lv' f f' : Nat → Int32} {E : (Nat → (Nat → Int32) → Int32)} {w z z' : Int32} (hT : TD nw wd dp wt br bk hb lids tops t) (hS : TSH ns ht rc rm t) (hM : ∀ u l : Nat, (u : Int) < nw → (l : Int) < nw → ¬ u = l → BT (my l) u = mayM t E u l) (h : ST sh st lv f 1 nw ns) (hv : SV f) (hw : 0 ≤ w.toInt ∧ w.toInt < 12) (A : STc (fun u l => BT (my l) u) wt br dp (rsC wd dp lids) rc ht sh st w lv lv' z) (B : STm t E ns w f f' z') : z = z' ∧ (ST sh st lv' f' 1 nw ns ∧ SV f') := by
  obtain ⟨a1, a2, a3⟩ := A
  obtain ⟨b1, b2, b3, b4⟩ := B
  have ez := pr_uniq hT hS h hv (by decide) hw a1 b1
  by_cases o : (sh w.toInt.toNat).toInt = -1
  · rw [a2 o, b2 (h.ni hw o)]; exact ⟨ez, h, hv⟩
  · have ni : ¬ NI f 1 w ns := fun y => o (h.out hw y hv (by decide))
    obtain ⟨s, k, q, i, s4, k8, y, y1, y2, y3⟩ := b3 ni
    obtain ⟨x, x1, x2, x3⟩ := a3 o
    have w12 : w.toInt.toNat < 12 := by omega
    obtain ⟨j1, j2, j3⟩ := h.pos w12 i
    have i1 := i.1
    have i2 := i.2.1
    have i3 := i.2.2.1
    have i4 := i.2.2.2
    have es : (sh w.toInt.toNat).toInt.toNat = s := by omega
    have ek : (st w.toInt.toNat).toInt.toNat = k := by omega
    have hR := h.row hv (by decide) (s := sh w.toInt.toNat) (k := st w.toInt.toNat) (by omega) (by omega) (by omega) (by rw [es]; omega)
    rw [es, ek] at hR
    have zz := hv.z12 (b := 1) (by decide) s4 k8
    have nw' : ∀ p : Nat, p < (f (460 * 1 + 105 * s + 1 + 13 * k)).toInt.toNat → 0 ≤ (f (460 * 1 + 105 * s + 1 + 13 * k + 1 + p)).toInt ∧ (f (460 * 1 + 105 * s + 1 + 13 * k + 1 + p)).toInt < nw := fun p hp => ROW.nw h (s := sh w.toInt.toNat) (by omega) hR (p := p) hp
    have a7 := x1 _ _ hR
    rw [j3] at a7
    have hh : ht (sh w.toInt.toNat).toInt.toNat = t (99 + 3 * s) := by rw [es]; exact (i_eq _ _).mpr (hS.2 s (by omega)).1
    have hn0 : (f (460 * 1 + 105 * s + 1 + 13 * k)).toInt = (((f (460 * 1 + 105 * s + 1 + 13 * k)).toInt.toNat : Nat) : Int) := by omega
    have wq : f (460 * 1 + 105 * s + 1 + 13 * k + 1 + q) = w := (i_eq _ _).mpr (by omega)
    obtain ⟨N, hN⟩ : ∃ N : Nat, N = (f (460 * 1 + 105 * s + 1 + 13 * k)).toInt.toNat := ⟨_, rfl⟩
    rw [← hN] at a7 hR nw' y1 y2 hn0
    have qn : q < N := by omega
    have hr : ∀ p : Nat, p < N → 0 ≤ (rtR (fun p => f (460 * 1 + 105 * s + 1 + 13 * k + 1 + p)) (q : Int) N w p).toInt ∧ (rtR (fun p => f (460 * 1 + 105 * s + 1 + 13 * k + 1 + p)) (q : Int) N w p).toInt < nw := fun p hp => by
      obtain ⟨j, l1, l2, _⟩ := rt_ix (r := fun p => f (460 * 1 + 105 * s + 1 + 13 * k + 1 + p)) qn wq p hp
      rw [l2]; exact nw' j l1
    have e := (RFZ.CM hT hM hr (rt_ne hR qn wq) hh a7).uniq y1
    by_cases c : x = 0
    · obtain ⟨l1, l2, l3⟩ := y2 (by omega)
      have u := x2 c
      refine ⟨ez, ST.rs h hv (by decide) w12 ⟨j1, j2, j3⟩ s4 k8 hn0 (fun j hj => ?_) l1 (fun p hp => ?_) (fun p hp => ?_) (fun s' hs' => l3 _ (by rcases Nat.lt_trichotomy s' s with c9 | c9 | c9 <;> omega)) (fun s' k' r hs' hk' hr' ne => l3 _ ?_), b4⟩
      · rw [u j hj]
        unfold rsS
        by_cases e : j = w.toInt.toNat
        · rw [if_pos e, if_pos e, hR.size]
        · rw [if_neg e, if_neg e]
          unfold snk
          by_cases d : sh j = sh w.toInt.toNat ∧ st j = st w.toInt.toNat ∧ (lv w.toInt.toNat).toInt < (lv j).toInt
          · rw [if_pos d, if_pos ⟨by rw [d.1]; exact j1, by rw [d.2.1]; exact j2, by omega⟩]
          · rw [if_neg d, if_neg (fun t => d ⟨(i_eq _ _).mpr (by omega), (i_eq _ _).mpr (by omega), by omega⟩)]
      · rw [l2 p (by omega)]
        show (if p + 1 < N then _ else _) = _
        rw [if_pos hp]
      · rw [l2 p (by omega)]
        show (if p + 1 < N then _ else w).toInt = _
        rw [if_neg (by omega)]; omega
      · have z := far_stk (z := s') (y := k') (r := r) (t := s) (c := k) hk' hr' ne k8
        omega
    · rw [x3 c, y3 (by omega)]; exact ⟨ez, h, hv⟩
theorem onTop_eq {nw ns na : Int} {nn : Int32} {wd dp wt br bk hb my ht rc rm : Nat → Int32} {lids tops : Int32} {t o a sh st lv as f : Nat → Int32} {x y : Int32} (hT : TD nw wd dp wt br bk hb lids tops t) (hS : TSH ns ht rc rm t) (hM : MYR nw nn.toInt wd dp wt lids tops my t o a) (h : ST sh st lv f 0 nw ns) (hv : SV f) (hq : AQ as na f 422) (hi : Iv 30 0 11 as) (hn : na ≤ 30) (ha : na = (f 421).toInt) (h12 : nw ≤ 12)
    (A : ∃ l : Nat → Int32, OTC (fun j => STc (fun u l => BT (my l) u) wt br dp (rsC wd dp lids) rc ht sh st (as j)) lv na.toNat l x)
    (B : ∀ E : (Nat → (Nat → Int32) → Int32), ME6 t o a E → ∃ f0 : Nat → Int32, (∀ j : Nat, j < 460 → f0 (460 + j) = f j) ∧ SV f0 ∧ ∃ g : Nat → Int32, OTC (fun j => STm t E (t 1).toInt (f (422 + j))) f0 (f 421).toInt.toNat g y) : x = y := by
  obtain ⟨E, m1, m2, m3⟩ := hM
  obtain ⟨l, A⟩ := A
  obtain ⟨f0, b1, b2, g, B⟩ := B E m2
  rw [← ha, ← hS.1] at B
  have hM' : ∀ u l : Nat, (u : Int) < nw → (l : Int) < nw → ¬ u = l → BT (my l) u = mayM t E u l := fun u l hu hl hul => MYR.may hT h12 m1 m2 m3 hu hl hul
  have h1 : ST sh st lv f0 1 nw ns := h.cp hv (by decide) (fun i hi => by
    have y := b1 i (by omega)
    rw [show 460 * 1 + i = 460 + i by omega, show 460 * 0 + i = i by omega]; exact y)
  exact (OTC.eq (R := fun l f => ST sh st l f 1 nw ns ∧ SV f) ⟨h1, b2⟩ _ _ _ _ _ (fun j hj l l' g g' z z' hR p q => by
    have e := hq j (by omega)
    have i := hi j (by omega)
    have q' : STm t E ns (f (422 + j)) g g' z' := q
    rw [← e] at q'
    exact rs_step hT hS hM' hR.1 hR.2 ⟨i.1, by omega⟩ p q') A B).1

theorem cn_rm {P Q : Nat → Bool} {b : Nat} (hP : P b = true) (hQ : Q b = false) (e : ∀ j, ¬ j = b → Q j = P j) : ∀ k, b < k → cnB P k = cnB Q k + 1 := by
  intro k
  induction k with
  | zero => intro h; exact absurd h (Nat.not_lt_zero _)
  | succ k ih =>
    intro h
    rw [cnB_s, cnB_s]
    by_cases c : k = b
    · have f : cnB P k = cnB Q k := cnB_cong k (fun j hj => (e j (by omega)).symm)
      rw [f, c, hP, hQ, if_pos rfl, if_neg Bool.false_ne_true]
    · rw [ih (by omega), e k c]; omega
theorem sz_cx {x : Int32} {b : Nat} (hb : b < 12) (h : BT x b = true) : szB x = szB (cm x b) + 1 :=
  cn_rm h (by rw [cm_bt hb (by omega), decide_eq_true rfl, Bool.not_true, Bool.and_false]) (fun j hj => by
    rcases Nat.lt_or_ge j 32 with q | q
    · rw [cm_bt hb q, decide_eq_false hj, Bool.not_false, Bool.and_true]
    · show (cm x b).toBitVec.getLsbD j = x.toBitVec.getLsbD j
      rw [BitVec.getLsbD_of_ge _ _ q, BitVec.getLsbD_of_ge _ _ q]) 12 hb
theorem rI_rs {t : Nat → Int32} {u l : Nat} (hu : u < 12) (hl : l < 12) : rI t (nI u) (nI l) = (rsM t u l).toInt := by
  have eu : (nI u).toInt = (u : Int) := nI_toInt (by omega)
  have el : (nI l).toInt = (l : Int) := nI_toInt (by omega)
  unfold rI rsM
  rw [show (nI u).toInt.toNat = u by omega, show (nI l).toInt.toNat = l by omega, show 9 + 8 * l = 3 + 8 * l + 6 by omega, show 4 + 8 * l = 3 + 8 * l + 1 by omega]
  by_cases c : (t (3 + 8 * u)).toInt < (t (3 + 8 * l)).toInt ∧ (t (3 + 8 * l + 6)).toInt = 0
  · rw [if_pos c, if_pos c]; rfl
  · rw [if_neg c, if_neg c]
/-- bounds of what is told -/
def TBD (t : Nat → Int32) (w : Int) : Prop := ∀ j : Nat, (j : Int) < w → (0 ≤ (dpM t j).toInt ∧ (dpM t j).toInt ≤ 999) ∧ 0 ≤ (brM t j).toInt
theorem rs_bd {t : Nat → Int32} {w : Int} (h : TBD t w) {u l : Nat} (hl : (l : Int) < w) : 0 ≤ (rsM t u l).toInt ∧ (rsM t u l).toInt ≤ 999 := by
  have a := (h l hl).1
  unfold rsM
  by_cases c : (t (3 + 8 * u)).toInt < (t (3 + 8 * l)).toInt ∧ (t (3 + 8 * l + 6)).toInt = 0
  · rw [if_pos c]; exact ⟨by decide, by decide⟩
  · rw [if_neg c]; exact a
/-- the tables tell the same -/
def HEQ (k : Nat) (c m : Int) : Prop := (c = m ∧ 0 ≤ c ∧ c ≤ 999 * (k : Int)) ∨ (c = 1000000 ∧ m = 100000000)
theorem heq {nw : Int} {wd dp wt br bk hb my : Nat → Int32} {lids tops : Int32} {t mt ta T L : Nat → Int32} (hT : TD nw wd dp wt br bk hb lids tops t) (h0 : 0 ≤ nw) (h12 : nw ≤ 12) (hB : TBD t nw) (hM : ∀ u b : Nat, (u : Int) < nw → (b : Int) < nw → (BT (my b) u = true ↔ ¬ (mt (12 * u + b)).toInt = 0)) (hC : HTC (fun u l => BT (my l) u) wt br dp (rsC wd dp lids) nw.toNat nw T L) (hH : HTM t mt ta) : ∀ (n : Nat) (x : Int32), x.toInt.toNat ≤ n → 1 ≤ x.toInt → x.toInt < 2 ^ nw.toNat → ∀ b : Nat, (b : Int) < nw → BT x b = true → HEQ (szB x) (TX T nw x b).toInt (ta (12 * x.toInt.toNat + b)).toInt := by
  have e0 := hT.1
  intro n
  induction n with
  | zero => intro x hn x0 _ b _ _; exact absurd hn (by omega)
  | succ n ih =>
    intro x hn x0 x1 b hb hx
    have hbN : b < 12 := by omega
    have sz := sz_cx hbN hx
    have lt := cm_lt hbN (by omega) hx
    have sc : szB (cm x b) ≤ 12 := cnB_le _ 12
    have A := (hC x x0 x1).1 b hb hx
    have B := hH x x0 (by rw [← e0]; exact x1) b (by rw [← e0]; exact hb) hx
    have bd := hB b hb
    have edp : dp b = dpM t b := hT.dp hb
    have ebr : br b = brM t b := hT.br hb
    obtain ⟨c, hc⟩ : ∃ c, c = (TX T nw x b).toInt := ⟨_, rfl⟩
    obtain ⟨m, hm⟩ : ∃ m, m = (ta (12 * x.toInt.toNat + b)).toInt := ⟨_, rfl⟩
    rw [← hc] at A ⊢
    rw [← hm] at B ⊢
    have eW : wS wt x nw.toNat - wt b = wS (wtM t) (cm x b) (t 0).toInt.toNat := by
      rw [wS_cm hbN hx nw.toNat (by omega), if_pos (by omega), ← e0, wS_cong (wt' := wtM t) (cm x b) nw.toNat (fun j hj => hT.wt (by omega))]
      exact Int32.add_sub_cancel _ _
    unfold EQC at A
    rw [eW, ebr] at A
    rw [cm_cx hbN hx] at A
    by_cases oz : cm x b = 0
    · have w0 : wS (wtM t) (cm x b) (t 0).toInt.toNat = 0 := by rw [oz]; exact wS_0 _ _ (by omega)
      have l0 : (0 : Int32).toInt = 0 := rfl
      rcases A with ⟨a1, _⟩ | ⟨_, a2 | ⟨a2, _⟩⟩
      · rw [w0] at a1; exact absurd a1 (by omega)
      · rcases B with ⟨_, b2⟩ | ⟨b1, _⟩
        · exact Or.inl ⟨by rw [a2.2, b2, edp], by rw [a2.2, edp]; omega, by rw [a2.2, edp]; omega⟩
        · exact absurd oz b1
      · exact absurd oz a2
    · have o1 : 1 ≤ (cm x b).toInt := by
        rcases (by omega : (cm x b).toInt = 0 ∨ 1 ≤ (cm x b).toInt) with q | q
        · exact absurd ((i_eq _ _).mpr q) oz
        · exact q
      have IH : ∀ u : Nat, (u : Int) < nw → BT (cm x b) u = true → HEQ (szB (cm x b)) (TX T nw (cm x b) u).toInt (ta (12 * (cm x b).toInt.toNat + u)).toInt := fun u hu hx => ih (cm x b) (by omega) o1 (by omega) u hu hx
      have F : ∀ u : Nat, (u : Int) < nw → BT (cm x b) u = true → (rsC wd dp lids u b + TX T nw (cm x b) u).toInt = (rsM t u b).toInt + (TX T nw (cm x b) u).toInt := fun u hu hx => by
        have r := rs_bd hB (u := u) hb
        rw [hT.rs hu hb]
        exact fb_addI (by rcases IH u hu hx with q | q <;> omega) (by rcases IH u hu hx with q | q <;> omega)
      rcases A with ⟨a1, a2⟩ | ⟨a1, a2⟩
      · rcases B with ⟨b1, _⟩ | ⟨_, ⟨_, b2⟩ | ⟨b1, _⟩⟩
        · exact absurd b1 oz
        · exact Or.inr ⟨a2, b2⟩
        · exact absurd a1 b1
      · rcases B with ⟨b1, _⟩ | ⟨_, ⟨b1, _⟩ | ⟨_, b2⟩⟩
        · exact absurd b1 oz
        · exact absurd b1 a1
        · rcases a2 with ⟨a2, _⟩ | ⟨_, v, v1, v2⟩
          · exact absurd a2 oz
          · rw [← e0] at b2
            rw [edp] at v2
            by_cases q : v < 1000000
            · -- it is reached
              rcases v1.2.1 with z | ⟨u, u1, u2, u3⟩
              · exact absurd z (by omega)
              · have u4 : v = (rsC wd dp lids u b + TX T nw (cm x b) u).toInt := u3
                rw [F u u1 u2.1] at u4
                have r := rs_bd hB (u := u) hb
                rcases IH u u1 u2.1 with z | z
                · have k1 := b2.2.2 u u1 ⟨u2.1, (hM u b u1 hb).mp u2.2, by omega⟩
                  have k2 : m ≤ max (dpM t b).toInt (rI t (nI u) (nI b) + (ta (12 * (cm x b).toInt.toNat + u)).toInt) := k1
                  rw [rI_rs (by omega) hbN] at k2
                  rcases b2.2.1 with y | ⟨s, s1, s2, s3⟩
                  · exact absurd y (by omega)
                  · have s4 : m = max (dpM t b).toInt (rI t (nI s) (nI b) + (ta (12 * (cm x b).toInt.toNat + s)).toInt) := s3
                    rw [rI_rs (by omega) hbN] at s4
                    have r2 := rs_bd hB (u := s) hb
                    have k3 := v1.2.2 s s1 ⟨s2.1, (hM s b s1 hb).mpr s2.2.1⟩
                    have k4 : v ≤ (rsC wd dp lids s b + TX T nw (cm x b) s).toInt := k3
                    rw [F s s1 s2.1] at k4
                    have k5 := s2.2.2
                    rcases IH s s1 s2.1 with y | y
                    · exact Or.inl ⟨by omega, by omega, by omega⟩
                    · exact absurd k5 (by omega)
                · exact absurd u4 (by omega)
            · have vv := v1.1
              refine Or.inr ⟨by omega, ?_⟩
              rcases b2.2.1 with y | ⟨s, s1, s2, s3⟩
              · exact y
              · exfalso
                have r2 := rs_bd hB (u := s) hb
                have k3 := v1.2.2 s s1 ⟨s2.1, (hM s b s1 hb).mpr s2.2.1⟩
                have k4 : v ≤ (rsC wd dp lids s b + TX T nw (cm x b) s).toInt := k3
                rw [F s s1 s2.1] at k4
                have k5 := s2.2.2
                rcases IH s s1 s2.1 with y | y
                · omega
                · omega

/-- the two chains -/
def SOR (t : Nat → Int32) (w : Int) (h : Int32) (s s' : Int32 × Int32 × Int32) : Prop := s.1 = s'.1 ∧ s.2.1 = s'.2.1 ∧ s.2.2.toInt + s'.2.2.toInt = h.toInt ∧ (0 ≤ s.1.toInt ∧ s.1.toInt < 2 ^ w.toNat) ∧ (s.2.1.toInt = -1 ∨ (0 ≤ s.2.1.toInt ∧ s.2.1.toInt < w)) ∧ 0 ≤ s'.2.2.toInt ∧ 0 ≤ s.2.2.toInt
theorem fol_iff {nw : Int} {wd dp wt br bk hb my : Nat → Int32} {lids tops : Int32} {t mt ta T : Nat → Int32} (hT : TD nw wd dp wt br bk hb lids tops t) (h12 : nw ≤ 12) (hB : TBD t nw) (hM : ∀ u b : Nat, (u : Int) < nw → (b : Int) < nw → (BT (my b) u = true ↔ ¬ (mt (12 * u + b)).toInt = 0)) (hQ : ∀ x : Int32, 1 ≤ x.toInt → x.toInt < 2 ^ nw.toNat → ∀ b : Nat, (b : Int) < nw → BT x b = true → HEQ (szB x) (TX T nw x b).toInt (ta (12 * x.toInt.toNat + b)).toInt) {h : Int32} (hh : h.toInt ≤ 999) {s s' : Int32 × Int32 × Int32} (R : SOR t nw h s s') {u : Nat} (hu : (u : Int) < nw) : FOL (fun u l => BT (my l) u) (rsC wd dp lids) nw T s.1 s.2.1 s.2.2 u ↔ FO t mt ta (nI u) s'.1 s'.2.1 s'.2.2 h := by
  obtain ⟨r1, r2, r3, r4, r5, r6, r7⟩ := R
  rw [r1] at r4
  rw [r2] at r5
  unfold FOL FO
  rw [r1, r2]
  have eu : (nI u).toInt = (u : Int) := nI_toInt (by omega)
  have eu2 : (nI u).toInt.toNat = u := by omega
  rw [bi_bt (show u < 12 by omega), eu2]
  have l0 : (0 : Int32).toInt = 0 := rfl
  by_cases c : BT s'.1 u = true
  · have p1 : 1 ≤ s'.1.toInt := by
      rcases (by omega : s'.1.toInt = 0 ∨ 1 ≤ s'.1.toInt) with q | q
      · rw [show s'.1 = 0 from (i_eq _ _).mpr q, show BT 0 u = false from bt_z u (by omega)] at c
        exact absurd c Bool.false_ne_true
      · exact q
    have H := hQ s'.1 p1 r4.2 u hu c
    have sc : szB s'.1 ≤ 12 := cnB_le _ 12
    have RS : (rs0 (rsC wd dp lids) u s'.2.1).toInt = (if s'.2.1.toInt < 0 then 0 else rI t (nI u) s'.2.1) ∧ 0 ≤ (rs0 (rsC wd dp lids) u s'.2.1).toInt ∧ (rs0 (rsC wd dp lids) u s'.2.1).toInt ≤ 999 := by
      unfold rs0
      by_cases d : s'.2.1.toInt < 0
      · rw [if_pos d, if_pos d]; exact ⟨rfl, by decide, by decide⟩
      · rw [if_neg d, if_neg d]
        have eb : nI s'.2.1.toInt.toNat = s'.2.1 := nI_bk2 (by omega)
        have y := rI_rs (t := t) (u := u) (l := s'.2.1.toInt.toNat) (by omega) (by omega)
        rw [eb] at y
        have b := rs_bd hB (u := u) (l := s'.2.1.toInt.toNat) (by omega)
        rw [hT.rs hu (by omega), y]
        exact ⟨rfl, b.1, b.2⟩
    have AD : (rs0 (rsC wd dp lids) u s'.2.1 + TX T nw s'.1 u).toInt = (rs0 (rsC wd dp lids) u s'.2.1).toInt + (TX T nw s'.1 u).toInt := fb_addI (by rcases H with q | q <;> omega) (by rcases H with q | q <;> omega)
    rw [AD, if_pos c, ← RS.1]
    constructor
    · rintro ⟨_, a2, a3, a4⟩
      refine ⟨rfl, fun q => (hM u _ hu (by omega)).mp (a2 q), ?_⟩
      rcases H with q | q <;> omega
    · rintro ⟨_, a2, a3⟩
      refine ⟨c, fun q => (hM u _ hu (by omega)).mpr (a2 q), ?_, ?_⟩
      · rcases H with q | q <;> omega
      · rcases H with q | q <;> omega
  · rw [if_neg c]
    exact ⟨fun z => absurd z.1 c, fun z => absurd z.1 (by decide)⟩
theorem sorted_eq {nw nn : Int} {wd dp wt br bk hb my : Nat → Int32} {lids tops : Int32} {t o a mt ta : Nat → Int32} {E : (Nat → (Nat → Int32) → Int32)} {s h i : Int32} {x y : Int} (hT : TD nw wd dp wt br bk hb lids tops t) (h0 : 0 ≤ nw) (h12 : nw ≤ 12) (hMY : MYC my (mayC nw nn E wd dp wt lids tops)) (hE : ME6 t o a E) (hn : nn = (t 2).toInt) (hB : TBD t nw) (hR : TRB (TME t E) mt (t 0).toInt) (hH : HTM t mt ta) (A : SRC (fun u l => BT (my l) u) wt br dp (rsC wd dp lids) nw s h i x) (B : SRM t mt ta s h i y) : x = y := by
  have e0 := hT.1
  have hM : ∀ u b : Nat, (u : Int) < nw → (b : Int) < nw → (BT (my b) u = true ↔ ¬ (mt (12 * u + b)).toInt = 0) := fun u b hu hb => by
    rw [my_eq hT h12 hMY hE hn hu hb, hR u b (by omega) (by omega)]
    exact ⟨fun z => by rw [b01_t z]; decide, fun z => b01_1 z⟩
  unfold SRM at B
  rw [← e0] at B
  rcases A with ⟨a1, a2⟩ | ⟨ok, T, L, hC, n, z, a1, a2⟩
  · rcases B with ⟨_, b2⟩ | ⟨b1, _⟩
    · omega
    · exact absurd b1.1 a2
  · have hQ := fun (x : Int32) (x0 : 1 ≤ x.toInt) (x1 : x.toInt < 2 ^ nw.toNat) => heq hT h0 h12 hB hM hC hH x.toInt.toNat x (Nat.le_refl _) x0 x1
    obtain ⟨o1, o2, o3, o4⟩ := ok
    have l0 : (0 : Int32).toInt = 0 := rfl
    have lm : (-1 : Int32).toInt = -1 := rfl
    have pn := pw_mono (show nw.toNat ≤ 12 by omega)
    have e12 : (2 : Nat) ^ 12 = 4096 := rfl
    have en : ((2 ^ nw.toNat : Nat) : Int) = 2 ^ nw.toNat := by simp
    have R0 : SOR t nw h (s, -1, h) (s, -1, 0) := ⟨rfl, rfl, by show h.toInt + (0 : Int32).toInt = h.toInt; omega, ⟨by show 0 ≤ s.toInt; omega, o2.2⟩, Or.inl rfl, by show (0 : Int) ≤ (0 : Int32).toInt; decide, by show 0 ≤ h.toInt; omega⟩
    have step : ∀ (z z' w w' : Int32 × Int32 × Int32), SOR t nw h z w → SOC (fun u l => BT (my l) u) (rsC wd dp lids) nw T z z' → SOM t mt ta h w w' → SOR t nw h z' w' := fun z z' w w' R p q => by
      obtain ⟨u, p1, p2, p3⟩ := p
      obtain ⟨v, q0, q1, q2, q3, q4, q5, q6⟩ := q
      rw [← e0] at q0
      rcases p1 with ⟨p1, _⟩ | ⟨f1, f2, f3, f4⟩
      · exact absurd p1 p2
      · have eu : nI u.toInt.toNat = u := nI_bk2 f1
        have ev : nI v.toInt.toNat = v := nI_bk2 q0.1
        have uv : u.toInt = v.toInt := by
          rcases Int.lt_trichotomy u.toInt v.toInt with k | k | k
          · have y := (fol_iff hT h12 hB hM hQ o1.2 R (u := u.toInt.toNat) (by omega)).mp f3
            rw [eu] at y
            exact absurd y (q2 u f1 k)
          · exact k
          · have y := q1
            rw [← ev] at y
            exact absurd ((fol_iff hT h12 hB hM hQ o1.2 R (u := v.toInt.toNat) (by omega)).mpr y) (f4 v.toInt.toNat (by omega))
        have e : u = v := (i_eq _ _).mpr uv
        subst e
        have R' := R
        obtain ⟨r1, r2, r3, r4, r5, r6, r7⟩ := R
        obtain ⟨g1, g2, g3, g4⟩ := f3
        have lt := cm_lt (show u.toInt.toNat < 12 by omega) r4.1 g1
        have H := hQ z.1 (by omega) r4.2 u.toInt.toNat (by omega) g1
        have sc : szB z.1 ≤ 12 := cnB_le _ 12
        have RS : (rs0 (rsC wd dp lids) u.toInt.toNat z.2.1).toInt = (if w.2.1.toInt < 0 then 0 else rI t u w.2.1) ∧ 0 ≤ (rs0 (rsC wd dp lids) u.toInt.toNat z.2.1).toInt ∧ (rs0 (rsC wd dp lids) u.toInt.toNat z.2.1).toInt ≤ 999 := by
          rw [← r2]
          unfold rs0
          by_cases d : z.2.1.toInt < 0
          · rw [if_pos d, if_pos d]; exact ⟨rfl, by decide, by decide⟩
          · rw [if_neg d, if_neg d]
            have eb : nI z.2.1.toInt.toNat = z.2.1 := nI_bk2 (by omega)
            have y := rI_rs (t := t) (u := u.toInt.toNat) (l := z.2.1.toInt.toNat) (by omega) (by omega)
            rw [eb, eu] at y
            have b := rs_bd hB (u := u.toInt.toNat) (l := z.2.1.toInt.toNat) (by omega)
            rw [hT.rs (by omega) (by omega), y]
            exact ⟨rfl, b.1, b.2⟩
        have AD : (rs0 (rsC wd dp lids) u.toInt.toNat z.2.1 + TX T nw z.1 u.toInt.toNat).toInt = (rs0 (rsC wd dp lids) u.toInt.toNat z.2.1).toInt + (TX T nw z.1 u.toInt.toNat).toInt := fb_addI (by rcases H with k | k <;> omega) (by rcases H with k | k <;> omega)
        rw [AD] at g4
        have t0 : 0 ≤ (TX T nw z.1 u.toInt.toNat).toInt := by rcases H with k | k <;> omega
        have SB : (z.2.2 - rs0 (rsC wd dp lids) u.toInt.toNat z.2.1).toInt = z.2.2.toInt - (rs0 (rsC wd dp lids) u.toInt.toNat z.2.1).toInt := fb_subI (by omega) (by omega)
        rw [p3]
        refine ⟨?_, q4.symm, ?_, ⟨?_, ?_⟩, Or.inr ⟨f1, f2⟩, q6, ?_⟩
        · show cx z.1 u.toInt.toNat = w'.1
          rw [q3, cm_cx (by omega) g1, r1]
        · show (z.2.2 - rs0 (rsC wd dp lids) u.toInt.toNat z.2.1).toInt + w'.2.2.toInt = h.toInt
          rw [SB, q5, ← RS.1]; omega
        · show 0 ≤ (cx z.1 u.toInt.toNat).toInt
          rw [cm_cx (by omega) g1]; exact lt.1
        · show (cx z.1 u.toInt.toNat).toInt < 2 ^ nw.toNat
          rw [cm_cx (by omega) g1]; omega
        · show 0 ≤ (z.2.2 - rs0 (rsC wd dp lids) u.toInt.toNat z.2.1).toInt
          rw [SB]; omega
    have chain : ∀ (k : Nat) (z w : Int32 × Int32 × Int32), CHX (fun _ => SOC (fun u l => BT (my l) u) (rsC wd dp lids) nw T) (s, -1, h) k z → CHX (fun _ => SOM t mt ta h) (s, -1, 0) k w → SOR t nw h z w := fun k z w p q => CHX.eq (R := fun _ z w => SOR t nw h z w) R0 k z w (fun _ z z' w w' _ r a b => step z z' w w' r a b) p q
    rcases B with ⟨b1, b2⟩ | ⟨b1, w, b2, b3⟩
    · rcases a2 with ⟨n1, n2⟩ | ⟨_, _, n3⟩
      · exfalso
        obtain ⟨z1, z2, c1, c2⟩ := CHX.pre n z a1 (show 0 < n by omega)
        have ez : z1 = (s, -1, h) := c1
        rw [ez] at c2
        obtain ⟨u, p1, p2, _⟩ := c2
        rcases p1 with ⟨p1, _⟩ | ⟨f1, f2, f3, _⟩
        · exact p2 p1
        · have y := (fol_iff hT h12 hB hM hQ o1.2 R0 (u := u.toInt.toNat) (by omega)).mp f3
          rw [nI_bk2 f1] at y
          obtain ⟨y1, _, y3⟩ := y
          have y4 : (0 : Int32).toInt + (if (-1 : Int32).toInt < 0 then 0 else rI t u (-1)) + (ta (12 * s.toInt.toNat + u.toInt.toNat)).toInt ≤ h.toInt := y3
          rw [if_pos (by decide)] at y4
          exact b1 ⟨⟨o1, o2, o3, o4⟩, u, f1, by omega, y1, by omega⟩
      · omega
    · rcases a2 with ⟨n1, n2⟩ | ⟨n1, n2, n3⟩
      · have en2 : n = i.toInt.toNat + 1 := by omega
        rw [en2] at a1
        have R := chain _ z w a1 b2
        rw [n2, b3, R.2.1]
      · exfalso
        obtain ⟨w1, w2, c1, c2⟩ := CHX.pre _ w b2 (show n < i.toInt.toNat + 1 by omega)
        have R := chain n z w1 a1 c1
        obtain ⟨v, q0, q1, _⟩ := c2
        rw [← e0] at q0
        rcases n2 with ⟨_, n2⟩ | ⟨n2, _⟩
        · rw [← nI_bk2 q0.1] at q1
          exact n2 v.toInt.toNat (by omega) ((fol_iff hT h12 hB hM hQ o1.2 R (u := v.toInt.toNat) (by omega)).mpr q1)
        · exact absurd n2 (by omega)

/-- what the reference adds up is what the class adds up -/
theorem val_eq {w : Int} {s : Int32} {wt t a : Nat → Int32} {rc : Int32} {m n : Nat} (w12 : w ≤ 12) (hm : m ≤ 12) (h : PMT w m s 0 t) : sumF (fun k => aS wt rc t (a k) m) n = SUMP (tmF a n) wt t m rc m := by
  have ne := PMT.ne w12 m s 0 t h
  have rg := PMT.bit w12 m s 0 t h
  have e1 : ∀ k, aS wt rc t (a k) m = sumF (fun i => (if t i = a k then 1 else 0) * prC wt t (nI i) (nI m) rc) m := fun k => by
    by_cases c : ∃ q, q < m ∧ t q = a k
    · obtain ⟨q, q1, q2⟩ := c
      have nq : ∀ i, i < m → ¬ i = q → ¬ t i = a k := fun i hi hq z => by
        rcases Nat.lt_or_ge i q with y | y
        · exact ne i q (Nat.zero_le i) y (by omega) (z.trans q2.symm)
        · exact ne q i (Nat.zero_le q) (by omega) (by omega) (q2.trans z.symm)
      rw [(aS_q q2 nq m (Nat.le_refl m) q1).2, lc_pr m q1 hm, sumF_one m q1 (fun i hi hq => by rw [if_neg (nq i hi hq), Int32.zero_mul]), if_pos q2, Int32.one_mul]
    · have nq : ∀ i, i < m → ¬ t i = a k := fun i hi z => c ⟨i, hi, z⟩
      rw [aS_n m nq, sumF_z m (fun i hi => by rw [if_neg (nq i hi), Int32.zero_mul])]
  rw [sumF_cong n (fun k _ => e1 k), sumF_sw]
  unfold SUMP
  refine sumF_cong m (fun i hi => ?_)
  have r := (rg i (Nat.zero_le i) (by omega)).1.1
  have e2 : sumF (fun k => if t i = a k then (1 : Int32) else 0) n = tmF a n (t i).toInt.toNat := by
    unfold tmF
    refine sumF_cong n (fun k _ => ?_)
    rw [nI_bk2 r]
    by_cases c : t i = a k
    · rw [if_pos c, if_pos c.symm]
    · rw [if_neg c, if_neg (fun z => c z.symm)]
  rw [e2]
theorem SETR.uniq {s s' : Int32} {r r' : Nat → Int32} {n : Nat} (h : SETR s r n) (h' : SETR s' r' n) (e : ∀ p, p < n → r p = r' p) : s = s' := bt_ext (fun j hj => by
  by_cases c : j < 12
  · have a := h.2 j c
    have b := h'.2 j c
    have ab : BT s j = true ↔ BT s' j = true := by
      rw [a, b]
      exact ⟨fun ⟨p, p1, p2⟩ => ⟨p, p1, by rw [← e p p1]; exact p2⟩, fun ⟨p, p1, p2⟩ => ⟨p, p1, by rw [e p p1]; exact p2⟩⟩
    cases q : BT s j
    · cases q' : BT s' j
      · rfl
      · rw [q, q'] at ab; exact absurd (ab.mpr rfl) Bool.false_ne_true
    · rw [q] at ab; exact (ab.mp rfl).symm
  · rw [bt_hi (n := 12) h.1.1 (by have := h.1.2; omega) (by omega) hj, bt_hi (n := 12) h'.1.1 (by have := h'.1.2; omega) (by omega) hj])
theorem BSQ.eq {w : Int} {ok ok' : (Nat → Int32) → Prop} {V V' : (Nat → Int32) → Int} {r r' : Nat → Int32} {n n' : Nat} {what x x' : Int} (h : BSQ w ok V r n what x) (h' : BSQ w ok' V' r' n' what x') (en : n = n') (er : ∀ p, p < n → r p = r' p) (hok : ∀ t s, n ≤ 7 → PMT w n s 0 t → (ok t ↔ ok' t)) (hV : ∀ t s, n ≤ 7 → PMT w n s 0 t → V t = V' t) : x = x' := by
  subst en
  rcases h with ⟨a, b⟩ | ⟨a, s, t0, o0, o, fd0, fd, c0, c, h1, h2, h3, h4⟩
  · rcases h' with ⟨a', b'⟩ | ⟨a', _⟩
    · omega
    · exact absurd a' a
  · rcases h' with ⟨a', b'⟩ | ⟨a', s', t0', o0', o', fd0', fd', c0', c', g1, g2, g3, g4⟩
    · exact absurd a a'
    · have es := h1.uniq g1 er
      subst es
      have n7 : n ≤ 7 := by omega
      have ec : ∀ t, CDN w n 0 s t0 t ↔ CDN w n 0 s t0' t := fun t => ⟨fun z => ⟨fun i hi => absurd hi (Nat.not_lt_zero _), z.2⟩, fun z => ⟨fun i hi => absurd hi (Nat.not_lt_zero _), z.2⟩⟩
      have h5 := (h3.cg (fun t ht => hok t s n7 ht.2) (fun t ht => hV t s n7 ht.2)).sub (fun t ht => (ec t).mp ht) (fun t ht _ => (ec t).mpr ht)
      obtain ⟨u1, u2⟩ := h5.uniq g3 h2 g2
      rcases h4 with ⟨k1, k2⟩ | ⟨k1, k2⟩
      · rcases g4 with ⟨l1, l2⟩ | ⟨l1, l2⟩
        · omega
        · exact absurd (u1.mpr l1) k1
      · obtain ⟨v1, v2⟩ := u2 k1
        rcases g4 with ⟨l1, l2⟩ | ⟨l1, l2⟩
        · exact absurd (u1.mp k1) l1
        · rcases k2 with ⟨k2, k3⟩ | ⟨k2, k3⟩
          · rcases l2 with ⟨l2, l3⟩ | ⟨l2, l3⟩
            · omega
            · exact absurd k2 l2
          · rcases l2 with ⟨l2, l3⟩ | ⟨l2, l3⟩
            · exact absurd l2 k2
            · rw [k3, l3, v2 _ (by omega)]
theorem RFZ.MC {w : Int} {wd dp wt br bk hb my : Nat → Int32} {lids tops : Int32} {t : Nat → Int32} {E : (Nat → (Nat → Int32) → Int32)} (hT : TD w wd dp wt br bk hb lids tops t) (hM : ∀ u l : Nat, (u : Int) < w → (l : Int) < w → ¬ u = l → BT (my l) u = mayM t E u l) {r : Nat → Int32} {n : Nat} (hr : ∀ p, p < n → 0 ≤ (r p).toInt ∧ (r p).toInt < w) (hd : ∀ p, p + 1 < n → ¬ r (p + 1) = r p) {h h' : Int32} (hh : h = h') {x : Int} (a : RFZ (fun u l => mayM t E u l) (wtM t) (brM t) (dpM t) (rsM t) r n h' x) : RFZ (fun u l => BT (my l) u) wt br dp (rsC wd dp lids) r n h x := by
  refine a.cong hh.symm (fun p hp => ?_) (fun p hp => ?_) (fun p hp => ?_) (fun p hp => ?_) (fun p hp => ?_)
  · have a1 := hr p (by omega)
    have a2 := hr (p + 1) hp
    have a3 := hd p hp
    exact (hM _ _ (by omega) (by omega) (fun e => a3 ((i_eq _ _).mpr (by omega)))).symm
  · have a1 := hr p hp; exact (hT.wt (by omega)).symm
  · have a1 := hr p hp; exact (hT.br (by omega)).symm
  · have a1 := hr p hp; exact (hT.dp (by omega)).symm
  · have a1 := hr p (by omega)
    have a2 := hr (p + 1) hp
    exact (hT.rs (by omega) (by omega)).symm
theorem SUMP_cg {tm wt wt' t : Nat → Int32} {m : Nat} {rc rc' : Int32} (hm : m ≤ 12) (h : ∀ p, p < m → wt (t p).toInt.toNat = wt' (t p).toInt.toNat) (er : rc = rc') : SUMP tm wt t m rc m = SUMP tm wt' t m rc' m := by
  subst er
  unfold SUMP
  refine sumF_cong m (fun i hi => ?_)
  have ei : (nI i).toInt = (i : Int) := nI_toInt (by omega)
  have em : (nI m).toInt = (m : Int) := nI_toInt (by omega)
  rw [prC_cong (wt := wt) (wt' := wt') (r' := t) (show 0 ≤ (nI i).toInt by omega) (show (nI i).toInt < (nI m).toInt by omega) (fun q hq => h q (by omega))]
theorem best_eq {nw ns na : Int} {nn : Int32} {wd dp wt br bk hb my ht rc rm : Nat → Int32} {lids tops : Int32} {t o a sh st lv as f : Nat → Int32} {p0 p1 : Int32} {what x y : Int} (hT : TD nw wd dp wt br bk hb lids tops t) (hS : TSH ns ht rc rm t) (hV : TV t) (hM : MYR nw nn.toInt wd dp wt lids tops my t o a) (h : ST sh st lv f 0 nw ns) (hv : SV f) (hq : AQ as na f 422) (hn0 : 0 ≤ na) (hn : na ≤ 30) (ha : na = (f 421).toInt) (h0 : 0 ≤ nw) (h12 : nw ≤ 12)
    (A : GRD (0 ≤ p0.toInt ∧ p0.toInt < ns ∧ 0 ≤ p1.toInt ∧ p1.toInt < (stF sh st p0 12).toInt) (-1) (fun x => ∀ (r : Nat → Int32) (n : Nat), ROW sh st lv p0 p1 r n → 1 ≤ n → NBS nw wt (rc p0.toInt.toNat) (ht p0.toInt.toNat) → BSQ nw (OKF (fun u l => BT (my l) u) wt br dp (rsC wd dp lids) n (ht p0.toInt.toNat)) (VLF (tmF as na.toNat) wt n (rc p0.toInt.toNat)) r n what x) x)
    (B : ∀ E : (Nat → (Nat → Int32) → Int32), ME6 t o a E → GRD (0 ≤ p0.toInt ∧ p0.toInt < (t 1).toInt ∧ 0 ≤ p1.toInt ∧ p1.toInt < (f (0 + 105 * p0.toInt.toNat)).toInt) (-1) (fun y => BSQ (t 0).toInt (OKF (fun u l => mayM t E u l) (wtM t) (brM t) (dpM t) (rsM t) (f (105 * p0.toInt.toNat + 1 + 13 * p1.toInt.toNat)).toInt.toNat (t (99 + 3 * p0.toInt.toNat))) (VMF t f (t (99 + 3 * p0.toInt.toNat + 1)) (f (105 * p0.toInt.toNat + 1 + 13 * p1.toInt.toNat)).toInt.toNat) (fun p => f (105 * p0.toInt.toNat + 1 + 13 * p1.toInt.toNat + 1 + p)) (f (105 * p0.toInt.toNat + 1 + 13 * p1.toInt.toNat)).toInt.toNat what y) y) : x = y := by
  obtain ⟨E, m1, m2, m3⟩ := hM
  have hM' : ∀ u l : Nat, (u : Int) < nw → (l : Int) < nw → ¬ u = l → BT (my l) u = mayM t E u l := fun u l hu hl hul => MYR.may hT h12 m1 m2 m3 hu hl hul
  have B := B E m2
  refine GRD.eq A B (stk_iff hS h hv) (fun c X Y => ?_)
  obtain ⟨c0, c1, c2, c3⟩ := c
  have n4 := h.2.2.2.2.2.2
  have R := ST.row1 h hv ⟨c0, c1, c2, c3⟩
  have s2 := hS.2 p0.toInt.toNat (by omega)
  have eh : ht p0.toInt.toNat = t (99 + 3 * p0.toInt.toNat) := (i_eq _ _).mpr s2.1
  have er : rc p0.toInt.toNat = t (99 + 3 * p0.toInt.toNat + 1) := (i_eq _ _).mpr s2.2.1
  have nb : NBS nw wt (rc p0.toInt.toNat) (ht p0.toInt.toNat) := by
    refine ⟨⟨h0, h12⟩, fun j hj => ?_, ?_, ?_⟩
    · have y := hV (3 + 8 * j + 2) (by omega)
      have z := hiT_k2 (j := 3 + 8 * j + 2) (by omega)
      have e : wt j = t (3 + 8 * j + 2) := hT.wt hj
      rw [e]; exact ⟨y.1, by omega⟩
    · have y := hV (99 + 3 * p0.toInt.toNat + 1) (by omega)
      have z := hiT_k2 (j := 99 + 3 * p0.toInt.toNat + 1) (by omega)
      rw [er]; exact ⟨y.1, by omega⟩
    · rw [eh]; exact (hV (99 + 3 * p0.toInt.toNat) (by omega)).1
  have sk := h.stacks hv (by decide) c0 c1
  have n1 := h.2.1 p0.toInt.toNat p1.toInt.toNat (by omega) (by omega)
  rw [show 460 * 0 + 105 * p0.toInt.toNat = 105 * p0.toInt.toNat by omega] at n1
  have X := X _ _ R.1 (by omega) nb
  rw [← hT.1] at Y
  refine BSQ.eq X Y rfl (fun _ _ => rfl) (fun z s n7 hz => ?_) (fun z s n7 hz => ?_)
  · have rg := PMT.bit h12 _ _ _ _ hz
    have ne := PMT.ne h12 _ _ _ _ hz
    exact ⟨fun k => RFZ.CM hT hM' (fun p hp => (rg p (Nat.zero_le p) (by omega)).1) (fun p hp e => ne p (p + 1) (Nat.zero_le p) (Nat.lt_succ_self p) (by omega) e.symm) eh k, fun k => RFZ.MC hT hM' (fun p hp => (rg p (Nat.zero_le p) (by omega)).1) (fun p hp e => ne p (p + 1) (Nat.zero_le p) (Nat.lt_succ_self p) (by omega) e.symm) eh k⟩
  · have rg := PMT.bit h12 _ _ _ _ hz
    have v := val_eq (wt := wtM t) (a := fun k => f (422 + k)) (rc := t (99 + 3 * p0.toInt.toNat + 1)) (n := (f 421).toInt.toNat) h12 (by omega) hz
    have w := SUMP_cg (tm := tmF as na.toNat) (wt := wt) (wt' := wtM t) (t := z) (show (f (105 * p0.toInt.toNat + 1 + 13 * p1.toInt.toNat)).toInt.toNat ≤ 12 by omega) (fun p hp => hT.wt (by have := (rg p (Nat.zero_le p) (by omega)).1; omega)) er
    have e : tmF as na.toNat = tmF (fun k => f (422 + k)) (f 421).toInt.toNat := by
      funext j
      unfold tmF
      rw [← ha]
      exact sumF_cong _ (fun k hk => by rw [hq k (by omega)])
    unfold VLF VMF
    rw [w, v, e]

/-- the rest of a set without a part of it -/
def cmp (o p : Int32) : Int32 := o &&& (p ^^^ (-1))
theorem cmp_bt (o p : Int32) {j : Nat} (hj : j < 32) : BT (cmp o p) j = (BT o j && !BT p j) := by
  unfold cmp
  rw [bt_and2, bx_xor, show BT (-1) j = true from bm_1 j hj]
  cases BT p j <;> rfl
theorem cmp_SBS {o p : Int32} (h0 : 0 ≤ o.toInt) : SBS (cmp o p) o := by
  have a := andb_l (x := o) (y := p ^^^ (-1)) h0
  exact SBS.of a.1 h0 (fun j hj hb => by rw [cmp_bt o p hj, Bool.and_eq_true] at hb; exact hb.1)
theorem cmp_cmp {o p : Int32} (h0 : 0 ≤ o.toInt) (hp : SBS p o) : cmp o (cmp o p) = p := bt_ext (fun j hj => by
  rw [cmp_bt _ _ hj, cmp_bt _ _ hj]
  cases hb : BT p j
  · cases BT o j <;> rfl
  · rw [hp.bit h0 hj hb]; rfl)
/-- a set without a part of its rest is the other part with its lowest -/
theorem xor_cmp {x p : Int32} : x ^^^ (cmp (lwo x) p) = (x &&& p) ||| lwx x := bt_ext (fun j hj => by
  rw [bx_xor, cmp_bt _ _ hj, lwo_bt, bt_or2, bt_and2]
  unfold lwx
  rw [bt_and2]
  cases BT x j <;> cases BT (-x) j <;> cases BT p j <;> rfl)
theorem and_sub {x p : Int32} (x0 : 0 ≤ (lwo x).toInt) (hp : SBS p (lwo x)) : x &&& p = p := bt_ext (fun j hj => by
  rw [bt_and2]
  cases hb : BT p j
  · rw [Bool.and_false]
  · have y := hp.bit x0 hj hb
    rw [lwo_bt, Bool.and_eq_true] at y
    rw [y.1]; rfl)
theorem sz_lwo {x : Int32} (x1 : 1 ≤ x.toInt) (x2 : x.toInt < 4096) : szB x = szB (lwo x) + 1 := by
  obtain ⟨_, ⟨l0, l1⟩, j, j12, ej⟩ := lw_of x1 x2
  have hj : ∀ i, i < 32 → BT (lwx x) i = decide (i = j) := fun i hi => by
    rw [ej]
    show (BitVec.ofNat 32 (2 ^ j)).getLsbD i = _
    rw [BitVec.getLsbD_ofNat, decide_eq_true hi, Bool.true_and, Nat.testBit_two_pow]
    by_cases c : i = j
    · rw [c, decide_eq_true rfl]
    · rw [decide_eq_false c, decide_eq_false (fun z => c z.symm)]
  have bx : BT x j = true ∧ BT (-x) j = true := by
    have y := hj j (by omega)
    unfold lwx at y
    rw [bt_and2, decide_eq_true rfl, Bool.and_eq_true] at y
    exact y
  refine cn_rm bx.1 (by rw [lwo_bt, bx.1, bx.2]; rfl) (fun i hi => ?_) 12 j12
  rcases Nat.lt_or_ge i 32 with q | q
  · have y := hj i q
    unfold lwx at y
    rw [bt_and2, decide_eq_false hi] at y
    rw [lwo_bt]
    cases hx : BT x i
    · rfl
    · rw [hx, Bool.true_and] at y; rw [y]; rfl
  · show (lwo x).toBitVec.getLsbD i = x.toBitVec.getLsbD i
    rw [BitVec.getLsbD_of_ge _ _ q, BitVec.getLsbD_of_ge _ _ q]
/-- what stands, by both tables -/
theorem cs_iff {nw : Int} {T L t ta : Nat → Int32} (e0 : nw = (t 0).toInt) (h0 : 0 ≤ nw) (h12 : nw ≤ 12) {h : Int32} (hh : h.toInt ≤ 999) {x : Int32} (x1 : 1 ≤ x.toInt) (x2 : x.toInt < 2 ^ nw.toNat) (hQ : ∀ b : Nat, (b : Int) < nw → BT x b = true → HEQ (szB x) (TX T nw x b).toInt (ta (12 * x.toInt.toNat + b)).toInt) (hL : MNL (fun b => BT x b = true) (fun b => (TX T nw x b).toInt) nw 1000000 (L x.toInt.toNat).toInt) : (L x.toInt.toNat).toInt ≤ h.toInt ↔ CSd t ta x h := by
  constructor
  · intro z
    rcases hL.2.1 with q | ⟨b, b1, b2, b3⟩
    · exact absurd z (by omega)
    · have b4 : (L x.toInt.toNat).toInt = (TX T nw x b).toInt := b3
      have eb : (nI b).toInt = (b : Int) := nI_toInt (by omega)
      refine ⟨nI b, by omega, by omega, by rw [bi_bt (by omega), if_pos b2], ?_⟩
      rw [show (nI b).toInt.toNat = b by omega]
      rcases hQ b b1 b2 with q | q <;> omega
  · rintro ⟨l, l0, l1, l2, l3⟩
    have el : nI l.toInt.toNat = l := nI_bk2 l0
    have bl : BT x l.toInt.toNat = true := by
      rw [← el, bi_bt (by omega)] at l2
      by_cases c : BT x l.toInt.toNat = true
      · exact c
      · rw [if_neg c] at l2; exact absurd l2 (by decide)
    have y := hL.2.2 l.toInt.toNat (by omega) bl
    have y2 : (L x.toInt.toNat).toInt ≤ (TX T nw x l.toInt.toNat).toInt := y
    rcases hQ l.toInt.toNat (by omega) bl with q | q <;> omega
theorem bt_neg0 (x : Int32) : BT (-x) 0 = BT x 0 := by
  show (-x).toBitVec.getLsbD 0 = x.toBitVec.getLsbD 0
  rw [Int32.toBitVec_neg, BitVec.getLsbD_neg]
  simp
/-- both tables of stacks tell the same, where each ware alone stands -/
theorem needed_tab {w : Nat} (w12 : w ≤ 12) {L K N : Nat → Int32} {h : Int} {S : Int32 → Prop} (hS : ∀ x : Int32, 1 ≤ x.toInt → x.toInt < 2 ^ w → ((L x.toInt.toNat).toInt ≤ h ↔ S x)) (h1 : ∀ x : Int32, 1 ≤ x.toInt → x.toInt < 2 ^ w → S (lwx x)) (K0 : K 0 = 0) (N0 : N 0 = 0) (hK : ∀ s : Int32, 1 ≤ s.toInt → s.toInt < 2 ^ w → (BT s 0 = false ∨ s.toInt = 2 ^ w - 1) → SKR L K h s) (hN : ∀ s : Int32, 1 ≤ s.toInt → s.toInt < 2 ^ w → MNS (lwo s) (-1) (fun p => S (p ||| lwx s)) (fun p => (N (cmp (lwo s) p).toInt.toNat + 1).toInt) 100000000 (N s.toInt.toNat).toInt) : ∀ (n : Nat) (x : Int32), x.toInt.toNat ≤ n → 0 ≤ x.toInt → x.toInt < 2 ^ w → (0 ≤ (N x.toInt.toNat).toInt ∧ (N x.toInt.toNat).toInt ≤ ((szB x : Nat) : Int)) ∧ ((BT x 0 = false ∨ x.toInt = 2 ^ w - 1) → (K x.toInt.toNat).toInt = (N x.toInt.toNat).toInt) := by
  have l0 : (0 : Int32).toInt = 0 := rfl
  have l1 : (1 : Int32).toInt = 1 := rfl
  have pw := pw_mono w12
  have e12 : (2 : Nat) ^ 12 = 4096 := rfl
  have en : ((2 ^ w : Nat) : Int) = 2 ^ w := by simp
  have zero : ∀ x : Int32, x.toInt = 0 → (0 ≤ (N x.toInt.toNat).toInt ∧ (N x.toInt.toNat).toInt ≤ ((szB x : Nat) : Int)) ∧ ((BT x 0 = false ∨ x.toInt = 2 ^ w - 1) → (K x.toInt.toNat).toInt = (N x.toInt.toNat).toInt) := fun x hx => by
    rw [show x.toInt.toNat = 0 by omega, N0, K0]
    exact ⟨⟨by decide, by rw [l0]; omega⟩, fun _ => rfl⟩
  intro n
  induction n with
  | zero => intro x hn x0 _; exact zero x (by omega)
  | succ n ih =>
    intro x hn x0 x2
    rcases (by omega : x.toInt = 0 ∨ 1 ≤ x.toInt) with q | x1
    · exact zero x q
    · obtain ⟨p0, ⟨o0, o1⟩, _⟩ := lw_of x1 (by omega)
      have sz := sz_lwo x1 (by omega)
      have s12 : szB x ≤ 12 := cnB_le _ 12
      have M := hN x x1 x2
      -- all wares of the rest, its lowest alone
      have IH : ∀ s : Int32, SBS s (lwo x) → (0 ≤ (N s.toInt.toNat).toInt ∧ (N s.toInt.toNat).toInt ≤ ((szB s : Nat) : Int)) ∧ ((BT s 0 = false ∨ s.toInt = 2 ^ w - 1) → (K s.toInt.toNat).toInt = (N s.toInt.toNat).toInt) := fun s hs => ih s (by have := hs.le o0; have := hs.1; omega) hs.1 (by have := hs.le o0; omega)
      have szle : ∀ s : Int32, SBS s (lwo x) → szB s ≤ szB (lwo x) := fun s hs => by
        have mono : ∀ k, k ≤ 12 → cnB (BT s) k ≤ cnB (BT (lwo x)) k := by
          intro k
          induction k with
          | zero => intro _; exact Nat.le_refl _
          | succ k ihk =>
            intro hk
            have := ihk (by omega)
            rw [cnB_s, cnB_s]
            by_cases c : BT s k = true
            · rw [if_pos c, if_pos (hs.bit o0 (by omega) c)]; omega
            · rw [if_neg c]; omega
        exact mono 12 (Nat.le_refl _)
      have FN : ∀ s : Int32, SBS s (lwo x) → (N s.toInt.toNat + 1).toInt = (N s.toInt.toNat).toInt + 1 := fun s hs => by
        have a := (IH s hs).1
        have b := szle s hs
        rw [fb_addI (by omega) (by omega), l1]
      have sub0 : SBS 0 (lwo x) := ⟨by decide, by rw [show ((0 : Int32)).toInt.toNat = 0 from rfl]; exact Nat.zero_and _⟩
      have c0 : cmp (lwo x) 0 = lwo x := bt_ext (fun j hj => by
        rw [cmp_bt _ _ hj, show BT 0 j = false from bt_z j hj]
        cases BT (lwo x) j <;> rfl)
      have one := M.2.2 0 sub0 (by decide) (by
        have e : (0 : Int32) ||| lwx x = lwx x := bt_ext (fun j hj => by rw [bt_or2, show BT 0 j = false from bt_z j hj, Bool.false_or])
        show S (0 ||| lwx x)
        rw [e]; exact h1 x x1 x2)
      have one2 : (N x.toInt.toNat).toInt ≤ (N (cmp (lwo x) 0).toInt.toNat + 1).toInt := one
      rw [c0, FN _ (SBS.rf o0)] at one2
      have top := (IH (lwo x) (SBS.rf o0)).1
      have low : 0 ≤ (N x.toInt.toNat).toInt := by
        rcases M.2.1 with z | ⟨s, s1, s2, s3⟩
        · omega
        · have s4 : (N x.toInt.toNat).toInt = (N (cmp (lwo x) s).toInt.toNat + 1).toInt := s3
          rw [FN _ (cmp_SBS o0)] at s4
          have := (IH _ (cmp_SBS (p := s) o0)).1
          omega
      refine ⟨⟨low, by omega⟩, fun cond => ?_⟩
      have A := hK x x1 x2 cond
      -- the rest is even
      have even : BT (lwo x) 0 = false := by
        rw [lwo_bt, bt_neg0]
        cases BT x 0 <;> rfl
      have KN : ∀ s : Int32, SBS s (lwo x) → (K s.toInt.toNat).toInt = (N s.toInt.toNat).toInt := fun s hs => (IH s hs).2 (Or.inl (by
        apply Bool.eq_false_iff.mpr
        intro z
        rw [hs.bit o0 (by decide) z] at even
        exact absurd even (by decide)))
      have FK : ∀ s : Int32, SBS s (lwo x) → (K s.toInt.toNat + 1).toInt = (N s.toInt.toNat).toInt + 1 := fun s hs => by
        have a := (IH s hs).1
        have b := szle s hs
        have c := KN s hs
        rw [fb_addI (by omega) (by omega), l1]; omega
      have up : ∀ s : Int32, SBS s (lwo x) → 1 ≤ (x ^^^ s).toInt ∧ (x ^^^ s).toInt < 2 ^ w := fun s hs => by
        have hs2 : s.toInt < 2 ^ w := by have := hs.le o0; omega
        obtain ⟨a, b⟩ := xorP (x := x) (y := s) (k := w) (by omega) x0 hs.1 x2 hs2
        have ne : ¬ (x ^^^ s).toInt = 0 := fun z => by
          have e : x ^^^ s = 0 := (i_eq _ _).mpr (by omega)
          have es : s = x := bt_ext (fun j hj => by
            have y := bx_xor x s j
            rw [e, show BT 0 j = false from bt_z j hj] at y
            cases hx : BT x j <;> cases hb : BT s j
            · rfl
            · rw [hx, hb] at y; exact absurd y (by decide)
            · rw [hx, hb] at y; exact absurd y (by decide)
            · rfl)
          have := hs.le o0
          rw [es] at this
          omega
        omega
      -- both least ones
      have le1 : (K x.toInt.toNat).toInt ≤ (N x.toInt.toNat).toInt := by
        rcases M.2.1 with z | ⟨s, s1, s2, s3⟩
        · omega
        · have s4 : (N x.toInt.toNat).toInt = (N (cmp (lwo x) s).toInt.toNat + 1).toInt := s3
          rw [FN _ (cmp_SBS o0)] at s4
          have sb := cmp_SBS (p := s) o0
          have u := up _ sb
          have y := A.2.2 (cmp (lwo x) s) sb (by have := sb.1; omega) ((hS _ u.1 u.2).mpr (by rw [xor_cmp, and_sub o0 s1]; exact s2))
          have y2 : (K x.toInt.toNat).toInt ≤ (K (cmp (lwo x) s).toInt.toNat + 1).toInt := y
          rw [FK _ sb] at y2
          omega
      have le2 : (N x.toInt.toNat).toInt ≤ (K x.toInt.toNat).toInt := by
        rcases A.2.1 with z | ⟨s, s1, s2, s3⟩
        · omega
        · have s4 : (K x.toInt.toNat).toInt = (K s.toInt.toNat + 1).toInt := s3
          rw [FK _ s1] at s4
          have sb := cmp_SBS (p := s) o0
          have u := up _ s1
          have cc := cmp_cmp o0 s1
          have y := M.2.2 (cmp (lwo x) s) sb (by have := sb.1; omega) (by
            have z := (hS _ u.1 u.2).mp s2
            have e : x ^^^ s = cmp (lwo x) s ||| lwx x := by
              have f := xor_cmp (x := x) (p := cmp (lwo x) s)
              rw [cc, and_sub o0 sb] at f
              exact f
            show S (cmp (lwo x) s ||| lwx x)
            rw [← e]; exact z)
          have y2 : (N x.toInt.toNat).toInt ≤ (N (cmp (lwo x) (cmp (lwo x) s)).toInt.toNat + 1).toInt := y
          rw [cc, FN _ s1] at y2
          omega
      omega

/-- none is lower than one of its wares is deep -/
theorem tall_ge {nw : Int} {t mt ta : Nat → Int32} (e0 : nw = (t 0).toInt) (h12 : nw ≤ 12) (hB : TBD t nw) (hH : HTM t mt ta) : ∀ (n : Nat) (x : Int32), x.toInt.toNat ≤ n → 1 ≤ x.toInt → x.toInt < 2 ^ nw.toNat → ∀ b j : Nat, (b : Int) < nw → (j : Int) < nw → BT x b = true → BT x j = true → (dpM t j).toInt ≤ (ta (12 * x.toInt.toNat + b)).toInt := by
  intro n
  induction n with
  | zero => intro x hn x0; exact absurd hn (by omega)
  | succ n ih =>
    intro x hn x0 x1 b j hb hj hx hy
    have bN : b < 12 := by omega
    have lt := cm_lt bN (by omega) hx
    have bd := hB j hj
    have inO : ¬ j = b → BT (cm x b) j = true := fun c => by rw [cm_bt bN (by omega), hy, decide_eq_false c]; rfl
    rcases hH x x0 (by rw [← e0]; exact x1) b (by omega) hx with ⟨z1, z2⟩ | ⟨z1, ⟨_, z2⟩ | ⟨_, z2⟩⟩
    · by_cases c : j = b
      · rw [c]; omega
      · have y := inO c
        rw [z1, show BT 0 j = false from bt_z j (by omega)] at y
        exact absurd y Bool.false_ne_true
    · omega
    · rcases z2.2.1 with y | ⟨u, u1, u2, u3⟩
      · omega
      · have u4 : (ta (12 * x.toInt.toNat + b)).toInt = max (dpM t b).toInt (rI t (nI u) (nI b) + (ta (12 * (cm x b).toInt.toNat + u)).toInt) := u3
        by_cases c : j = b
        · rw [c]; omega
        · have r := rs_bd hB (u := u) (l := b) hb
          rw [rI_rs (by omega) bN] at u4
          have o1 : 1 ≤ (cm x b).toInt := by
            rcases (by omega : (cm x b).toInt = 0 ∨ 1 ≤ (cm x b).toInt) with q | q
            · exact absurd ((i_eq _ _).mpr q) z1
            · exact q
          have i := ih (cm x b) (by omega) o1 (by omega) u j (by omega) hj u2.1 (inO c)
          omega
theorem needed_none {w : Nat} (w12 : w ≤ 12) {N : Nat → Int32} {S : Int32 → Prop} {j : Nat} (hj : j < w) (hS : ∀ x : Int32, 1 ≤ x.toInt → x.toInt < 2 ^ w → BT x j = true → ¬ S x) (hN : ∀ s : Int32, 1 ≤ s.toInt → s.toInt < 2 ^ w → MNS (lwo s) (-1) (fun p => S (p ||| lwx s)) (fun p => (N (cmp (lwo s) p).toInt.toNat + 1).toInt) 100000000 (N s.toInt.toNat).toInt) : ∀ (n : Nat) (x : Int32), x.toInt.toNat ≤ n → 1 ≤ x.toInt → x.toInt < 2 ^ w → BT x j = true → (N x.toInt.toNat).toInt = 100000000 := by
  have pw := pw_mono w12
  have e12 : (2 : Nat) ^ 12 = 4096 := rfl
  have en : ((2 ^ w : Nat) : Int) = 2 ^ w := by simp
  have l1 : (1 : Int32).toInt = 1 := rfl
  intro n
  induction n with
  | zero => intro x hn x0; exact absurd hn (by omega)
  | succ n ih =>
    intro x hn x1 x2 hx
    obtain ⟨p0, ⟨o0, o1⟩, _⟩ := lw_of x1 (by omega)
    have M := hN x x1 x2
    rcases M.2.1 with z | ⟨s, s1, s2, s3⟩
    · exact z
    · exfalso
      have s4 : (N x.toInt.toNat).toInt = (N (cmp (lwo x) s).toInt.toNat + 1).toInt := s3
      have s2' : S (s ||| lwx x) := s2
      have sb := cmp_SBS (p := s) o0
      have e : x ^^^ (cmp (lwo x) s) = s ||| lwx x := by rw [xor_cmp, and_sub o0 s1]
      have le := sb.le o0
      have c0 := sb.1
      by_cases c : BT (cmp (lwo x) s) j = true
      · have q1 : 1 ≤ (cmp (lwo x) s).toInt := by
          rcases (by omega : (cmp (lwo x) s).toInt = 0 ∨ 1 ≤ (cmp (lwo x) s).toInt) with q | q
          · rw [show cmp (lwo x) s = 0 from (i_eq _ _).mpr q, show BT 0 j = false from bt_z j (by omega)] at c
            exact absurd c Bool.false_ne_true
          · exact q
        have i := ih (cmp (lwo x) s) (by omega) q1 (by omega) c
        rw [fb_addI (by omega) (by omega), l1, i] at s4
        have := M.1
        omega
      · have bj : BT (s ||| lwx x) j = true := by
          rw [← e, bx_xor, hx, Bool.eq_false_iff.mpr c]; rfl
        obtain ⟨a, b⟩ := xorP (x := x) (y := cmp (lwo x) s) (k := w) (by omega) (by omega) c0 x2 (by omega)
        rw [e] at a b
        have q1 : 1 ≤ (s ||| lwx x).toInt := by
          rcases (by omega : (s ||| lwx x).toInt = 0 ∨ 1 ≤ (s ||| lwx x).toInt) with q | q
          · rw [show s ||| lwx x = 0 from (i_eq _ _).mpr q, show BT 0 j = false from bt_z j (by omega)] at bj
            exact absurd bj Bool.false_ne_true
          · exact q
        exact hS _ q1 b bj s2'
theorem needed_no {M : Nat → Nat → Bool} {wt br dp : Nat → Int32} {rs : Nat → Nat → Int32} {w h x y : Int} (A : NEC M wt br dp rs w h x) (B : ¬ (1 ≤ h ∧ h ≤ 999) ∧ y = -1) : x = y := by
  rcases A with ⟨_, a2⟩ | ⟨a1, _⟩
  · omega
  · exact absurd a1 B.1
theorem needed_eq {nw nn : Int} {wd dp wt br bk hb my : Nat → Int32} {lids tops : Int32} {t o a mt ta : Nat → Int32} {E : (Nat → (Nat → Int32) → Int32)} {h : Int32} {x y : Int} (hT : TD nw wd dp wt br bk hb lids tops t) (h0 : 0 ≤ nw) (h12 : nw ≤ 12) (hMY : MYC my (mayC nw nn E wd dp wt lids tops)) (hE : ME6 t o a E) (hn : nn = (t 2).toInt) (hB : TBD t nw) (hR : TRB (TME t E) mt (t 0).toInt) (hH : HTM t mt ta) (A : NEC (fun u l => BT (my l) u) wt br dp (rsC wd dp lids) nw h.toInt x) (B : NEM t ta h y) : x = y := by
  have e0 := hT.1
  have hM : ∀ u b : Nat, (u : Int) < nw → (b : Int) < nw → (BT (my b) u = true ↔ ¬ (mt (12 * u + b)).toInt = 0) := fun u b hu hb => by
    rw [my_eq hT h12 hMY hE hn hu hb, hR u b (by omega) (by omega)]
    exact ⟨fun z => by rw [b01_t z]; decide, fun z => b01_1 z⟩
  have pw := pw_mono (show nw.toNat ≤ 12 by omega)
  have e12 : (2 : Nat) ^ 12 = 4096 := rfl
  have en : ((2 ^ nw.toNat : Nat) : Int) = 2 ^ nw.toNat := by simp
  have pp := Nat.two_pow_pos nw.toNat
  unfold NEM at B
  rw [← e0] at B
  rcases B with ⟨b1, b2⟩ | ⟨b1, N, N0, hN, b2⟩
  · rcases A with ⟨_, a2⟩ | ⟨a1, _⟩
    · omega
    · exact absurd a1 b1
  · rcases A with ⟨a1, _⟩ | ⟨a1, A⟩
    · exact absurd b1 a1
    · obtain ⟨all, hall⟩ : ∃ z : Int32, z = nI (2 ^ nw.toNat - 1) := ⟨_, rfl⟩
      have eall : all.toInt = ((2 ^ nw.toNat - 1 : Nat) : Int) := by rw [hall]; exact nI_toInt (by omega)
      have eN : all.toInt.toNat = 2 ^ nw.toNat - 1 := by omega
      rcases A with ⟨⟨j, j1, j2⟩, a3⟩ | ⟨a2, T, L, hC, K, K0, hK, a3⟩
      · -- one is too high
        have dj : dp j = dpM t j := hT.dp j1
        rw [dj] at j2
        have nb : BT all j = true := by
          rw [hall]
          show (BitVec.ofNat 32 (2 ^ nw.toNat - 1)).getLsbD j = true
          rw [BitVec.getLsbD_ofNat, decide_eq_true (by omega), Bool.true_and, Nat.testBit_two_pow_sub_one, decide_eq_true (by omega)]
        have pos : 1 ≤ all.toInt := by
          have := Nat.pow_le_pow_right (n := 2) (by decide) (show 1 ≤ nw.toNat by omega)
          have e1 : (2 : Nat) ^ 1 = 2 := rfl
          omega
        have z := needed_none (w := nw.toNat) (by omega) (N := N) (S := fun x => CSd t ta x h) (j := j) (by omega) (fun s s1 s2 hs c => by
          obtain ⟨l, l0, l1, l2, l3⟩ := c
          have el : nI l.toInt.toNat = l := nI_bk2 l0
          have bl : BT s l.toInt.toNat = true := by
            rw [← el, bi_bt (by omega)] at l2
            by_cases c : BT s l.toInt.toNat = true
            · exact c
            · rw [if_neg c] at l2; exact absurd l2 (by decide)
          have g := tall_ge e0 h12 hB hH s.toInt.toNat s (Nat.le_refl _) s1 s2 l.toInt.toNat j (by omega) j1 bl hs
          omega) hN all.toInt.toNat all (Nat.le_refl _) pos (by omega) nb
        rw [eN] at z
        rw [b2, z, if_neg (by omega)]; exact a3
      · have hQ := fun (x : Int32) (x0 : 1 ≤ x.toInt) (x1 : x.toInt < 2 ^ nw.toNat) => heq hT h0 h12 hB hM hC hH x.toInt.toNat x (Nat.le_refl _) x0 x1
        have single : ∀ x : Int32, 1 ≤ x.toInt → x.toInt < 2 ^ nw.toNat → CSd t ta (lwx x) h := fun x x1 x2 => by
          obtain ⟨p0, _, j, j12, ej⟩ := lw_of x1 (by omega)
          have hbt : ∀ i, i < 32 → BT (lwx x) i = decide (i = j) := fun i hi => by
            rw [ej]
            show (BitVec.ofNat 32 (2 ^ j)).getLsbD i = _
            rw [BitVec.getLsbD_ofNat, decide_eq_true hi, Bool.true_and, Nat.testBit_two_pow]
            by_cases c : i = j
            · rw [c, decide_eq_true rfl]
            · rw [decide_eq_false c, decide_eq_false (fun z => c z.symm)]
          have bj := hbt j (by omega)
          rw [decide_eq_true rfl] at bj
          have le : (lwx x).toInt ≤ x.toInt := (andb_l (x := x) (y := -x) (by omega)).2
          have jw := bt_w (x := lwx x) (n := nw.toNat) (by omega) (by omega) (show j < 32 by omega) bj
          have ejt : (nI j).toInt = (j : Int) := nI_toInt (by omega)
          have o0 : cm (lwx x) j = 0 := bt_ext (fun i hi => by
            rw [cm_bt j12 hi, hbt i hi, show BT 0 i = false from bt_z i hi]
            cases decide (i = j) <;> rfl)
          have z := hH (lwx x) (by omega) (by rw [← e0]; omega) j (by omega) bj
          have ta1 : (ta (12 * (lwx x).toInt.toNat + j)).toInt = (dpM t j).toInt := by
            rcases z with ⟨_, z⟩ | ⟨z, _⟩
            · exact z
            · exact absurd o0 z
          have dj : dp j = dpM t j := hT.dp (by omega)
          have aj := a2 j (by omega)
          rw [dj] at aj
          refine ⟨nI j, by omega, by omega, by rw [bi_bt j12, if_pos bj], ?_⟩
          rw [show (nI j).toInt.toNat = j by omega, ta1]; exact aj
        have r := needed_tab (w := nw.toNat) (by omega) (L := L) (K := K) (N := N) (h := h.toInt) (S := fun x => CSd t ta x h) (fun x x1 x2 => cs_iff e0 h0 h12 b1.2 x1 x2 (hQ x x1 x2) (hC x x1 x2).2) single K0 N0 hK hN all.toInt.toNat all (Nat.le_refl _) (by omega) (by omega)
        have k := r.2 (Or.inr (by omega))
        have s12 : szB all ≤ 12 := cnB_le _ 12
        have rr := r.1
        rw [eN] at k rr
        rw [b2, if_pos (by omega), a3]; exact k

theorem RFZ.tot {M : Nat → Nat → Bool} {wt br dp : Nat → Int32} {rs : Nat → Nat → Int32} {r : Nat → Int32} {n : Nat} {h : Int32} : ∃ x : Int, RFZ M wt br dp rs r n h x := by
  by_cases a : myF M r n
  · by_cases b : brF wt br r n
    · by_cases c : h < hiF rs dp r n
      · exact ⟨6, Or.inr ⟨a, Or.inr ⟨b, Or.inl ⟨rfl, c⟩⟩⟩⟩
      · exact ⟨0, Or.inr ⟨a, Or.inr ⟨b, Or.inr ⟨rfl, c⟩⟩⟩⟩
    · exact ⟨5, Or.inr ⟨a, Or.inl ⟨rfl, b⟩⟩⟩
  · exact ⟨4, Or.inl ⟨rfl, a⟩⟩
theorem ROW.uq {sh st lv : Nat → Int32} {s k : Int32} {r r' : Nat → Int32} {n n' : Nat} (h : ROW sh st lv s k r n) (h' : ROW sh st lv s k r' n') : n = n' ∧ ∀ p : Nat, p < n → r p = r' p := by
  refine ⟨h.size.symm.trans h'.size, fun p hp => ?_⟩
  obtain ⟨w, w12, a, b, c, d⟩ := h.2 p hp
  have y := (h'.1 w w12 b c).2.2
  rw [show (lv w).toInt.toNat = p from by omega] at y
  exact (i_eq _ _).mpr (a.trans y.symm)
theorem ST.wfs {sh st lv f : Nat → Int32} {b : Nat} {nw ns : Int} (h : ST sh st lv f b nw ns) (hv : SV f) (hb : b < 6) : WFS ns sh st lv := fun s k s0 s1 k0 => by
  by_cases c : k.toInt < (f (460 * b + 105 * s.toInt.toNat)).toInt
  · exact ⟨_, _, h.row hv hb s0 s1 k0 c⟩
  · exact ⟨fun _ => 0, 0, h.row0 s0 (by omega) _⟩
theorem place_eq {nw ns : Int} {wd dp wt br bk hb my ht rc rm : Nat → Int32} {lids tops : Int32} {t sh st lv f : Nat → Int32} {E : (Nat → (Nat → Int32) → Int32)} {a b : Nat} {w s k : Int32} (ha : a = 460 * b) (hT : TD nw wd dp wt br bk hb lids tops t) (hS : TSH ns ht rc rm t) (hM : ∀ u l : Nat, (u : Int) < nw → (l : Int) < nw → ¬ u = l → BT (my l) u = mayM t E u l) (h : ST sh st lv f b nw ns) (hv : SV f) (b6 : b < 6) (hC : CRs f t b) (h12 : nw ≤ 12) (w0 : 0 ≤ w.toInt) (w1 : w.toInt < nw) (ho : (sh w.toInt.toNat).toInt = -1) : PCt (fun u l => BT (my l) u) wt br dp (rsC wd dp lids) ht rm ns sh st lv w s k ↔ PMk t E f a b w s k := by
  subst ha
  have e0 := hT.1
  have e1 := hS.1
  have n4 : ns ≤ 4 := h.2.2.2.2.2.2
  have w12 : w.toInt.toNat < 12 := by omega
  have ni : NI f b w (t 1).toInt := by rw [← e1]; exact h.ni ⟨w0, by omega⟩ ho
  have m1 : (-1 : Int32).toInt = -1 := rfl
  have key : 0 ≤ s.toInt → s.toInt < ns → ∀ (r : Nat → Int32) (n : Nat), ROW sh st lv s k r n → n ≤ 11 → ∀ x : Int, RFZ (fun u l => BT (my l) u) wt br dp (rsC wd dp lids) (upd r n w) (n + 1) (ht s.toInt.toNat) x → RFZ (fun u l => mayM t E u l) (wtM t) (brM t) (dpM t) (rsM t) (upd r n w) (n + 1) (t (99 + 3 * s.toInt.toNat)) x := fun s0 s1 r n hR n11 x y => by
    obtain ⟨_, nn⟩ := hR.n11 w12 s0 ho
    refine RFZ.CM hT hM (fun p hp => ?_) (fun p hp => ?_) ((i_eq _ _).mpr (hS.2 s.toInt.toNat (by omega)).1) y
    · by_cases e : p = n
      · rw [e, pk_us]; exact ⟨w0, w1⟩
      · rw [pk_un e]; exact ROW.nw h s0 hR (by omega)
    · by_cases e : p + 1 = n
      · rw [e, pk_us, pk_un (by omega)]
        intro e2
        exact nn p (by omega) (by rw [← e2]; omega)
      · rw [pk_un e, pk_un (by omega)]; exact hR.ne (by omega) (by omega) (by omega)
  constructor
  · rintro ⟨⟨s0, s1⟩, ⟨k0, k1⟩, nf, R⟩
    have sk := h.stacks hv b6 s0 s1
    have c8 := hv.c8 b6 (s := s.toInt.toNat) (by omega)
    have r9 := (hS.2 s.toInt.toNat (by omega)).2.2
    rw [show 99 + 3 * s.toInt.toNat + 2 = 101 + 3 * s.toInt.toNat from by omega] at r9
    refine ⟨⟨k0, by omega⟩, ?_⟩
    by_cases c : k.toInt = (f (460 * b + 105 * s.toInt.toNat)).toInt
    · rw [if_pos c]
      refine ⟨⟨⟨w0, by omega⟩, ⟨s0, by omega⟩, by omega, by omega⟩, ni, fun z => nf ⟨by omega, by have z2 := z.2; omega⟩, fun n hn => ?_⟩
      have en : (n : Int) = 0 := hn.trans (if_pos m1)
      have en2 : n = 0 := by omega
      subst en2
      have hR := h.row0 (s := s) (k := k) s0 (by omega) (fun p => f (460 * b + 105 * s.toInt.toNat + 1 + 13 * (-1 : Int32).toInt.toNat + 1 + p))
      exact key s0 s1 _ 0 hR (by omega) 0 (R _ 0 hR (by omega))
    · rw [if_neg c]
      have hR := h.row hv b6 (s := s) (k := k) s0 s1 k0 (by omega)
      have zz := hv.z12 b6 (s := s.toInt.toNat) (k := k.toInt.toNat) (by omega) (by omega)
      refine ⟨⟨⟨w0, by omega⟩, ⟨s0, by omega⟩, by omega, by omega⟩, ni, fun z => by have z1 := z.1; omega, fun n hn => ?_⟩
      have hn2 : (n : Int) = (f (460 * b + 105 * s.toInt.toNat + 1 + 13 * k.toInt.toNat)).toInt := hn.trans (if_neg (by omega))
      rw [show (f (460 * b + 105 * s.toInt.toNat + 1 + 13 * k.toInt.toNat)).toInt.toNat = n from by omega] at hR
      have n11 := (hR.n11 w12 s0 ho).1
      exact key s0 s1 _ n hR n11 0 (R _ n hR n11)
  · rintro ⟨⟨k0, k1⟩, ⟨_, ⟨s0, s2⟩, _, k2⟩, ni2, nf, R⟩
    have s1 : s.toInt < ns := by omega
    have sk := h.stacks hv b6 s0 s1
    have c8 := hv.c8 b6 (s := s.toInt.toNat) (by omega)
    have r9 := (hS.2 s.toInt.toNat (by omega)).2.2
    rw [show 99 + 3 * s.toInt.toNat + 2 = 101 + 3 * s.toInt.toNat from by omega] at r9
    have c9 := hC s.toInt.toNat (by omega)
    refine ⟨⟨s0, s1⟩, ⟨k0, by omega⟩, fun z => ?_, fun r n hR n11 => ?_⟩
    · obtain ⟨z1, z2⟩ := z
      have c : k.toInt = (f (460 * b + 105 * s.toInt.toNat)).toInt := by omega
      rw [if_pos c] at nf
      exact nf ⟨m1, by omega⟩
    · obtain ⟨x, hx⟩ := RFZ.tot (M := fun u l => BT (my l) u) (wt := wt) (br := br) (dp := dp) (rs := rsC wd dp lids) (r := upd r n w) (n := n + 1) (h := ht s.toInt.toNat)
      have y := key s0 s1 r n hR n11 x hx
      have e : x = 0 := by
        by_cases c : k.toInt = (f (460 * b + 105 * s.toInt.toNat)).toInt
        · rw [if_pos c] at R
          have hR0 := h.row0 (s := s) (k := k) s0 (by omega) r
          have en := (hR.uq hR0).1
          subst en
          exact y.uniq (RFZ.cg (R 0 (if_pos m1).symm) rfl (fun p hp => by rw [show p = 0 from by omega, pk_us, pk_us]))
        · rw [if_neg c] at R
          have hR1 := h.row hv b6 (s := s) (k := k) s0 s1 k0 (by omega)
          obtain ⟨u1, u2⟩ := hR.uq hR1
          have zz := hv.z12 b6 (s := s.toInt.toNat) (k := k.toInt.toNat) (by omega) (by omega)
          exact y.uniq (RFZ.cg (R n (by rw [show nPt k.toInt (f (460 * b + 105 * s.toInt.toNat + 1 + 13 * k.toInt.toNat)).toInt = (f (460 * b + 105 * s.toInt.toNat + 1 + 13 * k.toInt.toNat)).toInt from if_neg (by omega)]; omega)) rfl (fun p hp => by
            by_cases q : p = n
            · rw [q, pk_us, pk_us]
            · rw [pk_un q, pk_un q]; exact (u2 p (by omega)).symm))
      rw [e] at hx; exact hx
theorem put_STb {nw ns : Int} {sh st lv f sh' st' lv' f' : Nat → Int32} {p0 p1 p2 : Int32} {b : Nat} (h : ST sh st lv f b nw ns) (hv : SV f) (b6 : b < 6) (h12 : nw ≤ 12) (hok : OKP p0.toInt p1.toInt p2.toInt nw ns (stF sh st p1 12).toInt) (ho : (sh p0.toInt.toNat).toInt = -1)
    (A : ∀ k : Int32, k.toInt = plc p2.toInt (stF sh st p1 12).toInt → sh' = upd sh p0.toInt.toNat p1 ∧ st' = upd st p0.toInt.toNat k ∧ (∀ j : Nat, ¬ j = p0.toInt.toNat → lv' j = lv j) ∧ (lv' p0.toInt.toNat).toInt = ((cnB (std sh st p1 k) 12 : Nat) : Int)) (B : PTS f f' (460 * b) p0 p1 p2) (e420 : f' 420 = f 420) : ST sh' st' lv' f' b nw ns := by
  obtain ⟨z1, z2, z3, z4⟩ := hok
  have n4 := h.2.2.2.2.2.2
  have sk := h.stacks hv b6 z2.1 z2.2
  have c8 := hv.c8 (b := b) (s := p1.toInt.toNat) b6 (by omega)
  have c8' := c8
  by_cases c : p2.toInt = -1
  · have pe : plc p2.toInt (stF sh st p1 12).toInt = (stF sh st p1 12).toInt := if_pos c
    have pe' : plc p2.toInt (f (460 * b + 105 * p1.toInt.toNat)).toInt = (f (460 * b + 105 * p1.toInt.toNat)).toInt := if_pos c
    obtain ⟨a1, a2, a3, a4⟩ := A (nI (stF sh st p1 12).toInt.toNat) (by rw [pe, nI_of9 (by omega) (by omega)])
    have hR := h.row0 (s := p1) (k := nI (stF sh st p1 12).toInt.toNat) z2.1 (by rw [nI_of9 (by omega) (by omega)]; omega) (fun _ => 0)
    rw [hR.size] at a4
    obtain ⟨b0, b1, b2, b3, b4⟩ := B (f (460 * b + 105 * p1.toInt.toNat)).toInt.toNat 0 (by rw [pe']; omega) (if_pos c).symm
    rw [if_pos c] at b1
    refine ST.put h hv b6 (w0 := p0.toInt.toNat) (s0 := p1.toInt.toNat) (k0 := (f (460 * b + 105 * p1.toInt.toNat)).toInt.toNat) (n0 := 0) (by omega) (by omega) (by omega) (by omega) (by omega) ho (Or.inr ⟨by omega, rfl, by omega⟩) (by rw [a1, pk_us]; omega) (by rw [a2, pk_us, nI_of9 (by omega) (by omega), sk]; omega) (by rw [a4]) (fun j hj => by rw [a1, pk_un hj]) (fun j hj => by rw [a2, pk_un hj]) a3 b2 (by rw [b3]; omega) (fun j j0 j1 j2 j3 => by by_cases z : j = 420; (rw [z]; exact e420); exact b4 j z j1 j2 j3)
  · have pe : plc p2.toInt (stF sh st p1 12).toInt = p2.toInt := if_neg c
    have pe' : plc p2.toInt (f (460 * b + 105 * p1.toInt.toNat)).toInt = p2.toInt := if_neg c
    obtain ⟨a1, a2, a3, a4⟩ := A p2 pe.symm
    have hR := h.row hv b6 (s := p1) (k := p2) z2.1 z2.2 (by omega) (by omega)
    rw [hR.size] at a4
    have zz := hv.z12 (b := b) (s := p1.toInt.toNat) (k := p2.toInt.toNat) b6 (by omega) (by omega)
    obtain ⟨n11, _⟩ := hR.n11 (w := p0.toInt.toNat) (by omega) z2.1 ho
    obtain ⟨b0, b1, b2, b3, b4⟩ := B p2.toInt.toNat (f (460 * b + 105 * p1.toInt.toNat + 1 + 13 * p2.toInt.toNat)).toInt.toNat (by rw [pe']; omega) (by rw [show nPt p2.toInt (f (460 * b + 105 * p1.toInt.toNat + 1 + 13 * p2.toInt.toNat)).toInt = (f (460 * b + 105 * p1.toInt.toNat + 1 + 13 * p2.toInt.toNat)).toInt from if_neg c]; omega)
    rw [if_neg c] at b1
    refine ST.put h hv b6 (w0 := p0.toInt.toNat) (s0 := p1.toInt.toNat) (k0 := p2.toInt.toNat) (n0 := (f (460 * b + 105 * p1.toInt.toNat + 1 + 13 * p2.toInt.toNat)).toInt.toNat) (by omega) (by omega) (by omega) (by omega) (by omega) ho (Or.inl ⟨by omega, by omega, by omega⟩) (by rw [a1, pk_us]; omega) (by rw [a2, pk_us]; omega) (by rw [a4]) (fun j hj => by rw [a1, pk_un hj]) (fun j hj => by rw [a2, pk_un hj]) a3 b2 (by rw [b3]; omega) (fun j j0 j1 j2 j3 => by by_cases z : j = 420; (rw [z]; exact e420); exact b4 j z j1 j2 j3)
theorem strand_eq {nw ns : Int} {wd dp wt br bk hb my ht rc rm : Nat → Int32} {lids tops : Int32} {t sh st lv f : Nat → Int32} {E : (Nat → (Nat → Int32) → Int32)} {n m : Int} (hT : TD nw wd dp wt br bk hb lids tops t) (hS : TSH ns ht rc rm t) (hM : ∀ u l : Nat, (u : Int) < nw → (l : Int) < nw → ¬ u = l → BT (my l) u = mayM t E u l) (h : ST sh st lv f 1 nw ns) (hv : SV f) (hC : CRs f t 1) (h12 : nw ≤ 12) (A : SCN (fun x => (sh x.toInt.toNat).toInt = -1) (PCt (fun u l => BT (my l) u) wt br dp (rsC wd dp lids) ht rm ns sh st lv) n nw) (B : SCN (fun x => NI f 1 x (t 1).toInt) (PMt t E f 460 1) m (t 0).toInt) : m = n := by
  unfold SCN at A B
  have e1 := hS.1
  rw [← hT.1] at B
  rw [A, B]
  have cc := cnB_cong (P := strP (fun x => NI f 1 x (t 1).toInt) (PMt t E f 460 1)) (Q := strP (fun x => (sh x.toInt.toNat).toInt = -1) (PCt (fun u l => BT (my l) u) wt br dp (rsC wd dp lids) ht rm ns sh st lv)) nw.toNat (fun e he => by
    have be : (nI e).toInt = (e : Int) := by rw [nI_toInt (by omega)]
    refine Bool.eq_iff_iff.mpr (strP_iff.trans (Iff.trans ?_ strP_iff.symm))
    constructor
    · rintro ⟨z1, z2⟩
      have o : (sh (nI e).toInt.toNat).toInt = -1 := h.out ⟨by omega, by omega⟩ (by rw [e1]; exact z1) hv (by decide)
      exact ⟨o, fun ⟨s, k, y⟩ => z2 ⟨s, _, ((place_eq (a := 460) (b := 1) rfl hT hS hM h hv (by decide) hC h12 (by omega) (by omega) o).mp y).2⟩⟩
    · rintro ⟨o, z2⟩
      have z1 := h.ni (w := nI e) ⟨by omega, by omega⟩ o
      refine ⟨by rw [← e1]; exact z1, fun ⟨s, k, y⟩ => z2 ?_⟩
      obtain ⟨⟨s0, s1⟩, k0, k1⟩ := y.rg
      have c8 := hv.c8 (b := 1) (s := s.toInt.toNat) (by decide) (by have := h.2.2.2.2.2.2; omega)
      rw [show 460 * 1 + 105 * s.toInt.toNat = 460 + 105 * s.toInt.toNat from by omega] at c8
      by_cases c : k.toInt = -1
      · refine ⟨s, f (460 + 105 * s.toInt.toNat), (place_eq (a := 460) (b := 1) rfl hT hS hM h hv (by decide) hC h12 (by omega) (by omega) o).mpr ((PMk.n rfl (by omega)).mpr ?_)⟩
        rw [show (-1 : Int32) = k from (i_eq _ _).mpr c.symm]; exact y
      · exact ⟨s, k, (place_eq (a := 460) (b := 1) rfl hT hS hM h hv (by decide) hC h12 (by omega) (by omega) o).mpr ((PMk.o (by omega) (by omega) (by omega)).mpr y)⟩)
  rw [cc]
theorem goes_eq {nw ns : Int} {wd dp wt br bk hb my ht rc rm : Nat → Int32} {lids tops nn : Int32} {t o ar sh st lv f : Nat → Int32} {p0 : Int32} {q x y : Int} (hT : TD nw wd dp wt br bk hb lids tops t) (hS : TSH ns ht rc rm t) (hM : MYR nw nn.toInt wd dp wt lids tops my t o ar) (h : ST sh st lv f 0 nw ns) (hv : SV f) (hC : CRs f t 0) (h12 : nw ≤ 12)
    (A : GOC ((0 ≤ p0.toInt ∧ p0.toInt < nw) ∧ (sh p0.toInt.toNat).toInt = -1) (PCt (fun u l => BT (my l) u) wt br dp (rsC wd dp lids) ht rm ns sh st lv p0) (nSt (PCt (fun u l => BT (my l) u) wt br dp (rsC wd dp lids) ht rm ns) sh st lv nw p0) (fun s => (wt p0.toInt.toNat + rc s.toInt.toNat).toInt) q x)
    (B : ∀ E : (Nat → (Nat → Int32) → Int32), ME6 t o ar E → GOM ((0 ≤ p0.toInt ∧ p0.toInt < (t 0).toInt) ∧ NI f 0 p0 (t 1).toInt) (PMk t E f 0 0 p0) (RMt t E f p0) (coM t p0) q y) : x = y := by
  obtain ⟨E, m1, m2, m3⟩ := hM
  have e0 := hT.1
  have e1 := hS.1
  have hM' : ∀ u l : Nat, (u : Int) < nw → (l : Int) < nw → ¬ u = l → BT (my l) u = mayM t E u l := fun u l hu hl hul => MYR.may hT h12 m1 m2 m3 hu hl hul
  rcases A with ⟨a1, a2⟩ | ⟨⟨⟨a0, a1⟩, ao⟩, a2⟩
  · rcases B E m2 with ⟨_, b2⟩ | ⟨⟨⟨b0, b1⟩, b2⟩, _⟩
    · rw [a2, b2]
    · exact absurd ⟨⟨b0, by omega⟩, h.out ⟨b0, by omega⟩ (by rw [e1]; exact b2) hv (by decide)⟩ a1
  · rcases B E m2 with ⟨b1, _⟩ | ⟨_, b2⟩
    · exact absurd ⟨⟨a0, by omega⟩, by rw [← e1]; exact h.ni ⟨a0, by omega⟩ ao⟩ b1
    · rcases b2 with ⟨b2, b3⟩ | b2
      · rcases a2 with ⟨a3, _⟩ | ⟨s0, k0, n0, _, a3⟩
        · rw [a3, b2]
        · rw [a3, b2]; unfold goF; rw [if_neg (by omega), if_neg (by omega), if_neg (by omega)]
      · refine BRS.eq ?_ ?_ ?_ a2 b2
        · intro s k; exact place_eq (a := 0) (b := 0) rfl hT hS hM' h hv (by decide) hC h12 a0 a1 ao
        · intro s k n m hp hn hm
          obtain ⟨f1, f', v1, v2, cr, e420, cp, pt, sc⟩ := hm
          have h1 : ST sh st lv f1 1 nw ns := h.cp hv (by decide) (fun i hi => by rw [cp i (by omega), show 460 * 0 + i = i from by omega])
          obtain ⟨⟨s0, s1⟩, ⟨k0, k1⟩, _⟩ := hp
          have sk := h.stacks hv (by decide) s0 s1
          rw [show 460 * 0 + 105 * s.toInt.toNat = 0 + 105 * s.toInt.toNat from by omega] at sk
          have c12 := cnB_le (std sh st s k) 12
          have pl : plc (if k.toInt = (f (0 + 105 * s.toInt.toNat)).toInt then (-1 : Int32) else k).toInt (stF sh st s 12).toInt = k.toInt := by
            by_cases c : k.toInt = (f (0 + 105 * s.toInt.toNat)).toInt
            · rw [if_pos c]; unfold plc; rw [if_pos (show (-1 : Int32).toInt = -1 from rfl)]; omega
            · rw [if_neg c]; unfold plc; rw [if_neg (by omega)]
          have h' : ST (upd sh p0.toInt.toNat s) (upd st p0.toInt.toNat k) (upd lv p0.toInt.toNat (nI (cnB (std sh st s k) 12))) f' 1 nw ns := put_STb h1 v1 (by decide) h12 (p0 := p0) (p1 := s) (p2 := if k.toInt = (f (0 + 105 * s.toInt.toNat)).toInt then (-1 : Int32) else k) ⟨⟨a0, a1⟩, ⟨s0, s1⟩, by
            by_cases c : k.toInt = (f (0 + 105 * s.toInt.toNat)).toInt
            · rw [if_pos c]
              have : (-1 : Int32).toInt = -1 := rfl
              omega
            · rw [if_neg c]; omega⟩ ao (fun k' hk' => by
            rw [pl] at hk'
            have ek : k' = k := (i_eq _ _).mpr hk'
            rw [ek]
            exact ⟨rfl, rfl, fun j hj => pk_un hj, by rw [pk_us, nI_toInt (by omega)]⟩) pt e420
          exact strand_eq hT hS hM' h' v2 cr h12 hn sc
        · intro s k hp
          obtain ⟨⟨s0, s1⟩, _⟩ := hp
          have n4 := h.2.2.2.2.2.2
          show (wtM t p0.toInt.toNat + t (99 + 3 * s.toInt.toNat + 1)).toInt = (wt p0.toInt.toNat + rc s.toInt.toNat).toInt
          rw [hT.wt (j := p0.toInt.toNat) (by omega), (i_eq _ _).mpr (hS.2 s.toInt.toNat (by omega)).2.1]
/-- what is told in numbers is as told: weights and reaches -/
def NBD (S : ((Nat → Int64) × Nat × (Nat → Int64) × Nat × (Nat → Bool) × (Nat → Bool) × Nat)) (N : ((Nat → Nat → Int) × (Nat → Bool) × (Nat → Nat → Int))) : Prop := (∀ j : Nat, j < S.2.1 → 0 ≤ N.1 j 2 ∧ N.1 j 2 ≤ 99) ∧ ∀ j : Nat, j < S.2.2.2.1 → 0 ≤ N.2.2 j 1 ∧ N.2.2 j 1 ≤ 99
theorem bnd_in {r : Nat × Int} {g : Nat → Nat × Int} (h : (bnd r g).2 = 0) : r.2 = 0 ∧ bnd r g = g r.1 := by
  unfold bnd at h ⊢
  by_cases q : r.2 = 0
  · rw [if_pos q]; exact ⟨q, rfl⟩
  · rw [if_neg q] at h; exact absurd h q
theorem rAmt_in {T : Nat → Int × Int64 × Nat} {w : Int64} {lo hi : Int} {p : Nat} (h : (rAmt T w lo hi p).2 = 0) : (rAmt T w lo hi p).1 = nx T (nx T p) ∧ lo ≤ nb T (nx T p) ∧ nb T (nx T p) ≤ hi := by
  unfold rAmt at h ⊢
  by_cases q1 : isW T p w = true
  · rw [if_pos q1] at h ⊢
    unfold rNum at h ⊢
    by_cases q2 : (T (nx T p)).1 = 2
    · rw [if_pos q2] at h ⊢
      by_cases q3 : lo ≤ (T (nx T p)).2.1.toInt ∧ (T (nx T p)).2.1.toInt ≤ hi
      · rw [if_pos q3]; exact ⟨rfl, q3⟩
      · rw [if_neg q3] at h; exact absurd h (flt_ne (by decide))
    · rw [if_neg q2] at h; exact absurd h (flt_ne (by decide))
  · rw [if_neg q1] at h; exact absurd h (flt_ne (by decide))
theorem amt_st {r : Nat × Int} {T : Nat → Int × Int64 × Nat} {w : Int64} {lo hi : Int} {q : Nat} (hr : r.2 = 0 → r.1 = q) (h : (bnd r (rAmt T w lo hi)).2 = 0) : r.2 = 0 ∧ (bnd r (rAmt T w lo hi)).1 = nx T (nx T q) ∧ lo ≤ nb T (nx T q) ∧ nb T (nx T q) ≤ hi := by
  obtain ⟨a, e⟩ := bnd_in h
  rw [e, hr a] at h
  rw [e, hr a]
  exact ⟨a, rAmt_in h⟩
theorem wt_bowl {T : Nat → Int × Int64 × Nat} {S : ((Nat → Int64) × Nat × (Nat → Int64) × Nat × (Nat → Bool) × (Nat → Bool) × Nat)} {p : Nat} (h : (rBowl T S p).2 = 0) : 1 ≤ nb T (nx T (nx T (nx T (nx T (nx T (nx T (nx T p))))))) ∧ nb T (nx T (nx T (nx T (nx T (nx T (nx T (nx T p))))))) ≤ 99 := by
  unfold rBowl at h
  by_cases c : 12 ≤ S.2.1
  · rw [if_pos c] at h; exact absurd h (flt_ne (by decide))
  · rw [if_neg c] at h
    have a4 := (bnd_in (bnd_in h).1).1
    have a3 := (bnd_in a4).1
    have a2 := (bnd_in a3).1
    have u1 := amt_st (fun y => rNew_ok (Prod.ext rfl y)) a2
    have u2 := amt_st (fun _ => u1.2.1) a3
    exact (amt_st (fun _ => u2.2.1) a4).2.2
theorem wt_lid {T : Nat → Int × Int64 × Nat} {S : ((Nat → Int64) × Nat × (Nat → Int64) × Nat × (Nat → Bool) × (Nat → Bool) × Nat)} {p : Nat} (h : (rLid T S p).2 = 0) : 1 ≤ nb T (nx T (nx T (nx T (nx T (nx T p))))) ∧ nb T (nx T (nx T (nx T (nx T (nx T p))))) ≤ 99 := by
  unfold rLid at h
  by_cases c : 12 ≤ S.2.1
  · rw [if_pos c] at h; exact absurd h (flt_ne (by decide))
  · rw [if_neg c] at h
    have a3 := (bnd_in h).1
    have a2 := (bnd_in a3).1
    have u1 := amt_st (fun y => rNew_ok (Prod.ext rfl y)) a2
    exact (amt_st (fun _ => u1.2.1) a3).2.2
theorem rc_shelf {T : Nat → Int × Int64 × Nat} {S : ((Nat → Int64) × Nat × (Nat → Int64) × Nat × (Nat → Bool) × (Nat → Bool) × Nat)} {p : Nat} (h : (rShelf T S p).2 = 0) : 0 ≤ nb T (nx T (nx T (nx T (nx T (nx T p))))) ∧ nb T (nx T (nx T (nx T (nx T (nx T p))))) ≤ 99 := by
  unfold rShelf at h
  by_cases c : 4 ≤ S.2.2.2.1
  · rw [if_pos c] at h; exact absurd h (flt_ne (by decide))
  · rw [if_neg c] at h
    have a3 := (bnd_in h).1
    have a2 := (bnd_in a3).1
    have u1 := amt_st (fun y => rNew_ok (Prod.ext rfl y)) a2
    exact (amt_st (fun _ => u1.2.1) a3).2.2
theorem NBD.line {T : Nat → Int × Int64 × Nat} {S : ((Nat → Int64) × Nat × (Nat → Int64) × Nat × (Nat → Bool) × (Nat → Bool) × Nat)} {N : ((Nat → Nat → Int) × (Nat → Bool) × (Nat → Nat → Int))} {p : Nat} (hN : NBD S N) (hs : (rStm T S p).2 = 0) : NBD (sLine T S p) (nLine T S N p) := by
  have h1 : (rLine T S p).2 = 0 := (bnd_in hs).1
  unfold rLine at h1
  unfold sLine nLine
  by_cases c0 : isW T p (WN 0) = true
  · rw [if_pos c0] at h1
    rw [if_pos c0, if_pos c0]
    have b := wt_bowl h1
    refine ⟨fun j hj => ?_, hN.2⟩
    have hj2 : j < S.2.1 + 1 := hj
    by_cases e : j = S.2.1
    · show 0 ≤ rowU N.1 S.2.1 _ j 2 ∧ rowU N.1 S.2.1 _ j 2 ≤ 99
      rw [e, rowU_s]; exact ⟨Int.le_trans (by decide) b.1, b.2⟩
    · show 0 ≤ rowU N.1 S.2.1 _ j 2 ∧ rowU N.1 S.2.1 _ j 2 ≤ 99
      rw [rowU_n e]; exact hN.1 j (by omega)
  · rw [if_neg c0] at h1
    rw [if_neg c0, if_neg c0]
    by_cases c1 : isW T p (WN 1) = true
    · rw [if_pos c1] at h1
      rw [if_pos c1, if_pos c1]
      have b := wt_lid h1
      refine ⟨fun j hj => ?_, hN.2⟩
      have hj2 : j < S.2.1 + 1 := hj
      by_cases e : j = S.2.1
      · show 0 ≤ rowU N.1 S.2.1 _ j 2 ∧ rowU N.1 S.2.1 _ j 2 ≤ 99
        rw [e, rowU_s]; exact ⟨Int.le_trans (by decide) b.1, b.2⟩
      · show 0 ≤ rowU N.1 S.2.1 _ j 2 ∧ rowU N.1 S.2.1 _ j 2 ≤ 99
        rw [rowU_n e]; exact hN.1 j (by omega)
    · rw [if_neg c1] at h1
      rw [if_neg c1, if_neg c1]
      by_cases c2 : isW T p (WN 2) = true
      · rw [if_pos c2] at h1
        rw [if_pos c2, if_pos c2]
        have b := rc_shelf h1
        refine ⟨hN.1, fun j hj => ?_⟩
        have hj2 : j < S.2.2.2.1 + 1 := hj
        by_cases e : j = S.2.2.2.1
        · show 0 ≤ rowU N.2.2 S.2.2.2.1 _ j 1 ∧ rowU N.2.2 S.2.2.2.1 _ j 1 ≤ 99
          rw [e, rowU_s]; exact b
        · show 0 ≤ rowU N.2.2 S.2.2.2.1 _ j 1 ∧ rowU N.2.2 S.2.2.2.1 _ j 1 ≤ 99
          rw [rowU_n e]; exact hN.2 j (by omega)
      · rw [if_neg c2, if_neg c2]
        by_cases c3 : isW T p (WN 3) = true
        · rw [if_pos c3, if_pos c3]; exact hN
        · rw [if_neg c3, if_neg c3]
          by_cases c4 : isW T p (WN 4) = true
          · rw [if_pos c4, if_pos c4]
            refine ⟨fun j hj => ?_, hN.2⟩
            have hj2 : j < S.2.1 := hj
            by_cases e : j = fnd S.1 S.2.1 (T (nx T p)).2.1
            · show 0 ≤ rowU N.1 (fnd S.1 S.2.1 (T (nx T p)).2.1) _ j 2 ∧ rowU N.1 (fnd S.1 S.2.1 (T (nx T p)).2.1) _ j 2 ≤ 99
              rw [e, rowU_s]; rw [e] at hj2; exact hN.1 _ hj2
            · show 0 ≤ rowU N.1 (fnd S.1 S.2.1 (T (nx T p)).2.1) _ j 2 ∧ rowU N.1 (fnd S.1 S.2.1 (T (nx T p)).2.1) _ j 2 ≤ 99
              rw [rowU_n e]; exact hN.1 j hj2
          · rw [if_neg c4, if_neg c4]; exact hN
theorem NBD.fin {T : Nat → Int × Int64 × Nat} : ∀ (k : Nat) (S : ((Nat → Int64) × Nat × (Nat → Int64) × Nat × (Nat → Bool) × (Nat → Bool) × Nat)) (N : ((Nat → Nat → Int) × (Nat → Bool) × (Nat → Nat → Int))) (p : Nat), NBD S N → NBD (rFin T k S N p).1 (rFin T k S N p).2 := by
  intro k
  induction k with
  | zero => intro S N p h; exact h
  | succ k ih =>
    intro S N p h
    by_cases a : (T p).1 = 0
    · rw [rFin_end a]; exact h
    · by_cases b : (rStm T S p).2 = 0
      · rw [rFin_ok (q := (rStm T S p).1) a (Prod.ext rfl b)]; exact ih _ _ _ (h.line b)
      · have e : rFin T (k + 1) S N p = (S, N) := by
          show (if (T p).1 = 0 then (S, N) else if (rStm T S p).2 = 0 then rFin T k (sLine T S p) (nLine T S N p) (rStm T S p).1 else (S, N)) = _
          rw [if_neg a, if_neg b]
        rw [e]; exact h
theorem NBD.cup (f : Nat → Int32) (n : Nat) : NBD (cupN f n).1 (cupN f n).2 := NBD.fin _ _ _ _ ⟨fun j hj => absurd hj (Nat.not_lt_zero j), fun j hj => absurd hj (Nat.not_lt_zero j)⟩
theorem BD9.of {wd dp wt br bk hb : Nat → Int32} {lids : Int32} {ht rc rm : Nat → Int32} {w s : Int} {S : ((Nat → Int64) × Nat × (Nat → Int64) × Nat × (Nat → Bool) × (Nat → Bool) × Nat)} {N : ((Nat → Nat → Int) × (Nat → Bool) × (Nat → Nat → Int))} (h3 : CW wd dp wt br bk hb lids ht rc rm w s N) (hB : NBD S N) (h1 : w = ((S.2.1 : Nat) : Int)) (h2 : s = ((S.2.2.2.1 : Nat) : Int)) : BD9 w s wt rc := ⟨fun j hj => by rw [(h3.1 j hj).2.2.1]; exact hB.1 j (by omega), fun j hj => by rw [(h3.2.2.2 j hj).2.1]; exact hB.2 j (by omega)⟩

