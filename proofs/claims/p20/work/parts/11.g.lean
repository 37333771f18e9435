theorem wd_109 : Cond.fieldLink RX2 9 "BowlShelf$Odds" "digits" "[J" ∈ WALL := wl_in (by decide +kernel) (by decide +kernel)
theorem wd_110 : Cond.code yJ7_fill_d0a16 cJ7_fill_d0a16 5 none ∈ WALL := wl_in (by decide +kernel) (by decide +kernel)
theorem wd_111 : Cond.methodLink RX2 13 yJ7_fill_d0a16 ∈ WALL := wl_in (by decide +kernel) (by decide +kernel)
theorem wd_112 : Cond.static yJ7_fill_d0a16 ∈ WALL := wl_in (by decide +kernel) (by decide +kernel)
theorem wd_113 : Cond.constantLong RX2 19 (1000000000) ∈ WALL := wl_in (by decide +kernel) (by decide +kernel)
theorem dJ7_fill_d0a16_0 : decode cJ7_fill_d0a16 0 = .ok (.iconst 0, 1) := by decide +kernel
theorem dJ7_fill_d0a16_1 : decode cJ7_fill_d0a16 1 = .ok (.istore_n 3, 1) := by decide +kernel
theorem dJ7_fill_d0a16_2 : decode cJ7_fill_d0a16 2 = .ok (.aload_n 0, 1) := by decide +kernel
theorem dJ7_fill_d0a16_3 : decode cJ7_fill_d0a16 3 = .ok (.arraylength, 1) := by decide +kernel
theorem dJ7_fill_d0a16_4 : decode cJ7_fill_d0a16 4 = .ok (.istore 4, 2) := by decide +kernel
theorem dJ7_fill_d0a16_6 : decode cJ7_fill_d0a16 6 = .ok (.iload_n 3, 1) := by decide +kernel
theorem dJ7_fill_d0a16_7 : decode cJ7_fill_d0a16 7 = .ok (.iload 4, 2) := by decide +kernel
theorem dJ7_fill_d0a16_9 : decode cJ7_fill_d0a16 9 = .ok (.if_icmp .ge 13, 3) := by decide +kernel
theorem dJ7_fill_d0a16_12 : decode cJ7_fill_d0a16 12 = .ok (.aload_n 0, 1) := by decide +kernel
theorem dJ7_fill_d0a16_13 : decode cJ7_fill_d0a16 13 = .ok (.iload_n 3, 1) := by decide +kernel
theorem dJ7_fill_d0a16_14 : decode cJ7_fill_d0a16 14 = .ok (.lload_n 1, 1) := by decide +kernel
theorem dJ7_fill_d0a16_15 : decode cJ7_fill_d0a16 15 = .ok (.lastore, 1) := by decide +kernel
theorem dJ7_fill_d0a16_16 : decode cJ7_fill_d0a16 16 = .ok (.iinc 3 1, 3) := by decide +kernel
theorem dJ7_fill_d0a16_19 : decode cJ7_fill_d0a16 19 = .ok (.goto (-13), 3) := by decide +kernel
theorem dJ7_fill_d0a16_22 : decode cJ7_fill_d0a16 22 = .ok (.return_, 1) := by decide +kernel
theorem dX2_power_0 : decode cX2_power 0 = .ok (.aload_n 0, 1) := by decide +kernel
theorem dX2_power_1 : decode cX2_power 1 = .ok (.getfield 9, 3) := by decide +kernel
theorem dX2_power_4 : decode cX2_power 4 = .ok (.lconst 0, 1) := by decide +kernel
theorem dX2_power_5 : decode cX2_power 5 = .ok (.invokestatic 13, 3) := by decide +kernel
theorem dX2_power_8 : decode cX2_power 8 = .ok (.aload_n 0, 1) := by decide +kernel
theorem dX2_power_9 : decode cX2_power 9 = .ok (.getfield 9, 3) := by decide +kernel
theorem dX2_power_12 : decode cX2_power 12 = .ok (.iconst 0, 1) := by decide +kernel
theorem dX2_power_13 : decode cX2_power 13 = .ok (.lconst 1, 1) := by decide +kernel
theorem dX2_power_14 : decode cX2_power 14 = .ok (.lastore, 1) := by decide +kernel
theorem dX2_power_15 : decode cX2_power 15 = .ok (.iconst 0, 1) := by decide +kernel
theorem dX2_power_16 : decode cX2_power 16 = .ok (.istore_n 3, 1) := by decide +kernel
theorem dX2_power_17 : decode cX2_power 17 = .ok (.iload_n 3, 1) := by decide +kernel
theorem dX2_power_18 : decode cX2_power 18 = .ok (.iload_n 2, 1) := by decide +kernel
theorem dX2_power_19 : decode cX2_power 19 = .ok (.if_icmp .ge 63, 3) := by decide +kernel
theorem dX2_power_22 : decode cX2_power 22 = .ok (.lconst 0, 1) := by decide +kernel
theorem dX2_power_23 : decode cX2_power 23 = .ok (.lstore 4, 2) := by decide +kernel
theorem dX2_power_25 : decode cX2_power 25 = .ok (.iconst 0, 1) := by decide +kernel
theorem dX2_power_26 : decode cX2_power 26 = .ok (.istore 6, 2) := by decide +kernel
theorem dX2_power_28 : decode cX2_power 28 = .ok (.iload 6, 2) := by decide +kernel
theorem dX2_power_30 : decode cX2_power 30 = .ok (.iconst 4, 1) := by decide +kernel
theorem dX2_power_31 : decode cX2_power 31 = .ok (.if_icmp .ge 45, 3) := by decide +kernel
theorem dX2_power_34 : decode cX2_power 34 = .ok (.aload_n 0, 1) := by decide +kernel
theorem dX2_power_35 : decode cX2_power 35 = .ok (.getfield 9, 3) := by decide +kernel
theorem dX2_power_38 : decode cX2_power 38 = .ok (.iload 6, 2) := by decide +kernel
theorem dX2_power_40 : decode cX2_power 40 = .ok (.laload, 1) := by decide +kernel
theorem dX2_power_41 : decode cX2_power 41 = .ok (.iload_n 1, 1) := by decide +kernel
theorem dX2_power_42 : decode cX2_power 42 = .ok (.i2l, 1) := by decide +kernel
theorem dX2_power_43 : decode cX2_power 43 = .ok (.lmul, 1) := by decide +kernel
theorem dX2_power_44 : decode cX2_power 44 = .ok (.lload 4, 2) := by decide +kernel
theorem dX2_power_46 : decode cX2_power 46 = .ok (.ladd, 1) := by decide +kernel
theorem dX2_power_47 : decode cX2_power 47 = .ok (.lstore 7, 2) := by decide +kernel
theorem dX2_power_49 : decode cX2_power 49 = .ok (.aload_n 0, 1) := by decide +kernel
theorem dX2_power_50 : decode cX2_power 50 = .ok (.getfield 9, 3) := by decide +kernel
theorem dX2_power_53 : decode cX2_power 53 = .ok (.iload 6, 2) := by decide +kernel
theorem dX2_power_55 : decode cX2_power 55 = .ok (.lload 7, 2) := by decide +kernel
theorem dX2_power_57 : decode cX2_power 57 = .ok (.ldc2_w 19, 3) := by decide +kernel
theorem dX2_power_60 : decode cX2_power 60 = .ok (.lrem, 1) := by decide +kernel
theorem dX2_power_61 : decode cX2_power 61 = .ok (.lastore, 1) := by decide +kernel
theorem dX2_power_62 : decode cX2_power 62 = .ok (.lload 7, 2) := by decide +kernel
theorem dX2_power_64 : decode cX2_power 64 = .ok (.ldc2_w 19, 3) := by decide +kernel
theorem dX2_power_67 : decode cX2_power 67 = .ok (.ldiv, 1) := by decide +kernel
theorem dX2_power_68 : decode cX2_power 68 = .ok (.lstore 4, 2) := by decide +kernel
theorem dX2_power_70 : decode cX2_power 70 = .ok (.iinc 6 1, 3) := by decide +kernel
theorem dX2_power_73 : decode cX2_power 73 = .ok (.goto (-45), 3) := by decide +kernel
theorem dX2_power_76 : decode cX2_power 76 = .ok (.iinc 3 1, 3) := by decide +kernel
theorem dX2_power_79 : decode cX2_power 79 = .ok (.goto (-62), 3) := by decide +kernel
theorem dX2_power_82 : decode cX2_power 82 = .ok (.return_, 1) := by decide +kernel
set_option maxHeartbeats 4000000 in
set_option maxRecDepth 100000 in
theorem c_J7_fill_d0a16 (l : Launch) (D : DG) (cyC cyI cyJ cyZ cyO : ClassId) (d1 : Nat) (p0 : Int64) (d_digits : Nat → Int64) : KK l D (TY cyC cyI cyJ cyZ cyO) yJ7_fill_d0a16 cJ7_fill_d0a16 5 none ({ frames := 0, cells := 0, slots := 0, locals := 0 } : Room) 0 0 [.ref d1, .long p0] [(d1, .inl (cyJ, 4, .inr (.inl d_digits)))] (fun u => none) (fun u => (∀ i : Nat, i < 4 → (u.2.2.2 0) i = p0)) (fun u => [(d1, .inl (cyJ, 4, .inr (.inl (u.2.2.2 0))))]) := by
  refine KK.of (lv0 := [(0, .ref d1), (1, .long p0)]) (by decide) rfl (Nat.le_of_ble_eq_true rfl) ?_
  intro p e s m args below meth c A C hr hk hin
  refine j_iconst (pc := 0) (v := 0) C dJ7_fill_d0a16_0 (by decide) ?_
  refine j_istore_n (pc := 1) (lv' := [(3, .int 0), (0, .ref d1), (1, .long p0)]) C dJ7_fill_d0a16_1 rfl (by decide) rfl ?_
  refine j_aload_n (pc := 2) C dJ7_fill_d0a16_2 rfl 1 rfl ?_
  refine j_alen (pc := 3) (v := 4) C 0 2 rfl rfl rfl dJ7_fill_d0a16_3 ?_
  refine j_istore (pc := 4) (lv' := [(4, .int 4), (3, .int 0), (0, .ref d1), (1, .long p0)]) C dJ7_fill_d0a16_4 (by decide) rfl ?_
  have loop_1 : ∀ (k_1 : Nat) (x1_3 : Int32) (g1_d1 : Nat → Int64), (0 ≤ (x1_3).toInt ∧ (x1_3).toInt ≤ 4) → (∀ i : Nat, (i : Int) < x1_3.toInt → g1_d1 i = p0) → (4 - x1_3.toInt).toNat < k_1 → J p l e ({ frames := 0, cells := 0, slots := 0, locals := 0 } : Room) s m args below meth c D A 5 0 0 (QX below D (TY cyC cyI cyJ cyZ cyO) A (fun u => none) (fun u => (∀ i : Nat, i < 4 → (u.2.2.2 0) i = p0)) (fun u => [(d1, .inl (cyJ, 4, .inr (.inl (u.2.2.2 0))))]) args s 0 0) [(d1, .inl (cyJ, 4, .inr (.inl g1_d1)))] 6 [(4, .int 4), (3, .int x1_3), (0, .ref d1), (1, .long p0)] [] := by
    intro k_1
    induction k_1 with
    | zero =>
      intro x1_3 g1_d1 hi_1_0 hq_1_0 hm_1
      exact absurd hm_1 (Nat.not_lt_zero _)
    | succ k_1 ih_1 =>
      intro x1_3 g1_d1 hi_1_0 hq_1_0 hm_1
      refine j_iload_n (pc := 6) C dJ7_fill_d0a16_6 rfl 1 rfl ?_
      refine j_iload (pc := 7) C dJ7_fill_d0a16_7 0 rfl ?_
      refine j_icmp_ge (pc := 9) (tgt := 22) C dJ7_fill_d0a16_9 (by decide) (fun c_2 => ?_) (fun c_2 => ?_)
      · skip
        have el_4 : (4 : Int32).toInt = 4 := rfl
        rw [i_le] at c_2
        have k0c_2 : x1_3.toInt = 4 := by omega
        exact j_vret (pc := 22) C hr hk (fun i => [].getD i 0, fun i => [].getD i 0, fun i => [].getD i (fun _ => 0), fun i => [g1_d1].getD i (fun _ => 0)) rfl (show (∀ i : Nat, i < 4 → g1_d1 i = p0) from ((fun i hi => hq_1_0 i (by omega)))) [0] (by decide) rfl (by decide) (by decide) dJ7_fill_d0a16_22
      · skip
        have el_4 : (4 : Int32).toInt = 4 := rfl
        rw [i_le] at c_2
        refine j_aload_n (pc := 12) C dJ7_fill_d0a16_12 rfl 2 rfl ?_
        refine j_iload_n (pc := 13) C dJ7_fill_d0a16_13 rfl 1 rfl ?_
        refine j_lload_n (pc := 14) C dJ7_fill_d0a16_14 rfl 3 rfl ?_
        obtain ⟨f_3, ef_3⟩ : ∃ z, z = vp_updL g1_d1 (x1_3).toInt.toNat p0 := ⟨_, rfl⟩
        refine j_last (pc := 15) (k := (x1_3).toInt.toNat) (ws' := [(d1, .inl (cyJ, 4, .inr (.inl f_3)))]) C 0 2 rfl rfl (i_nn hi_1_0.1) rfl (i_lt_n hi_1_0.1 (by omega)) dJ7_fill_d0a16_15 (by rw [ef_3]; rfl) ?_
        obtain ⟨v_4, ev_4⟩ : ∃ z : Int32, x1_3 + 1 = z := ⟨_, rfl⟩
        have el_1 : (1 : Int32).toInt = 1 := rfl
        have hv_4 : v_4.toInt = x1_3.toInt + (1 : Int32).toInt := by rw [← ev_4]; exact fb_addI (by omega) (by omega)
        refine j_iinc (pc := 16) (v := v_4) (lv' := [(3, .int v_4), (4, .int 4), (0, .ref d1), (1, .long p0)]) C dJ7_fill_d0a16_16 1 rfl ev_4 (by decide) rfl ?_
        refine j_goto (pc := 19) (tgt := 6) C dJ7_fill_d0a16_19 (by decide) ?_
        exact j_lv [1, 0, 2, 3] rfl (ih_1 v_4 f_3 (by omega) (fun i hi => by rw [ef_3]; by_cases q : i = (x1_3).toInt.toNat; (exact if_pos q); (rw [show vp_updL g1_d1 (x1_3).toInt.toNat p0 i = g1_d1 i from if_neg q]; exact hq_1_0 i (by omega))) (by omega))
  have el_0 : (0 : Int32).toInt = 0 := rfl
  exact j_lv [0, 1, 2, 3] rfl (loop_1 4096 0 d_digits (by decide) (fun i hi => absurd hi (by have e9 : ((0 : Int32)).toInt = 0 := rfl; omega)) (by omega))

/-- a power in parts of nine digits: what goes over, a part, all of it -/
def dgS (b : Int64) (d : Nat → Int64) : Nat → Int64
  | 0 => 0
  | i + 1 => (d i * b + dgS b d i) / 1000000000
def dgT (b : Int64) (d : Nat → Int64) (i : Nat) : Int64 := (d i * b + dgS b d i) - (d i * b + dgS b d i) / 1000000000 * 1000000000
def dgN (b : Int64) : Nat → Nat → Int64
  | 0 => fun i => if i = 0 then 1 else 0
  | n + 1 => dgT b (dgN b n)
theorem dgS_cong {b : Int64} {d d' : Nat → Int64} : ∀ i, (∀ j, j < i → d j = d' j) → dgS b d i = dgS b d' i := by
  intro i
  induction i with
  | zero => intro _; rfl
  | succ i ih => intro h; show (d i * b + dgS b d i) / 1000000000 = (d' i * b + dgS b d' i) / 1000000000; rw [h i (by omega), ih (fun j hj => h j (by omega))]
/-- under way: the parts below x are those of the next power -/
def DGI (b : Int64) (n : Nat) (m : Nat) (d : Nat → Int64) (x : Int) : Prop := ∀ i : Nat, i < m → d i = if (i : Int) < x then dgN b (n + 1) i else dgN b n i
theorem DGI.start {b : Int64} {n m : Nat} {d : Nat → Int64} {x : Int} (h : ∀ i : Nat, i < m → d i = dgN b n i) (hx : x = 0) : DGI b n m d x := fun i hi => by rw [if_neg (by omega)]; exact h i hi
theorem DGI.fin {b : Int64} {n k m : Nat} {d : Nat → Int64} {x : Int} (h : DGI b n m d x) (hx : (m : Int) ≤ x) (hk : k = n + 1) : ∀ i : Nat, i < m → d i = dgN b k i := fun i hi => by have y := h i hi; rw [if_pos (by omega)] at y; rw [hk]; exact y
theorem DGI.set {b : Int64} {n m : Nat} {d d' : Nat → Int64} {x x' : Int} {o v : Int64} (h : DGI b n m d x) (hx0 : 0 ≤ x) (hx : x < (m : Int)) (e : x' = x + 1) (ho : o = dgS b (dgN b n) x.toNat) (hv : (d x.toNat * b + o) - (d x.toNat * b + o) / 1000000000 * 1000000000 = v) (hd : d' = vp_updL d x.toNat v) : DGI b n m d' x' := fun i hi => by
  have y := h i hi
  have c := h x.toNat (by omega)
  rw [if_neg (by omega)] at c
  subst hd
  by_cases q : i = x.toNat
  · rw [q, if_pos (by omega), show vp_updL d x.toNat v x.toNat = v from if_pos rfl, ← hv, ho, c]; rfl
  · rw [show vp_updL d x.toNat v i = d i from if_neg q, y]
    by_cases p : (i : Int) < x
    · rw [if_pos p, if_pos (by omega)]
    · rw [if_neg p, if_neg (by omega)]
theorem DGI.over {b : Int64} {n m : Nat} {d : Nat → Int64} {x : Int} {k : Nat} {o v : Int64} (h : DGI b n m d x) (hx0 : 0 ≤ x) (hx : x < (m : Int)) (hk : k = x.toNat + 1) (ho : o = dgS b (dgN b n) x.toNat) (hv : (d x.toNat * b + o) / 1000000000 = v) : v = dgS b (dgN b n) k := by
  have c := h x.toNat (by omega)
  rw [if_neg (by omega)] at c
  subst hk
  rw [← hv, ho, c]; rfl

set_option maxHeartbeats 4000000 in
set_option maxRecDepth 100000 in
theorem c_X2_power (l : Launch) (D : DG) (cyC cyI cyJ cyZ cyO : ClassId) (d0 : Nat) (d1 : Nat) (p0 : Int32) (p1 : Int32) (d_digits : Nat → Int64) (h_p1 : 0 ≤ (p1).toInt ∧ (p1).toInt ≤ 17) : KK l D (TY cyC cyI cyJ cyZ cyO) yX2_power cX2_power 9 none ({ frames := 1, cells := 0, slots := 0, locals := 24 } : Room) 0 0 [.ref d0, .int p0, .int p1] [(d0, .inr (2, [.ref d1])), (d1, .inl (cyJ, 4, .inr (.inl d_digits)))] (fun u => none) (fun u => (∀ i : Nat, i < 4 → (u.2.2.2 0) i = dgN (p0).toInt64 (p1).toInt.toNat i)) (fun u => [(d0, .inr (2, [.ref d1])), (d1, .inl (cyJ, 4, .inr (.inl (u.2.2.2 0))))]) := by
  refine KK.of (lv0 := [(0, .ref d0), (1, .int p0), (2, .int p1)]) (by decide) rfl (Nat.le_of_ble_eq_true rfl) ?_
  intro p e s m args below meth c A C hr hk hin
  refine j_aload_n (pc := 0) C dX2_power_0 rfl 0 rfl ?_
  refine j_get (pc := 1) (ci := 2) (v := .ref d1) C inw_2 0 rfl rfl 0 (by decide) wd_109 rfl rfl dX2_power_1 ?_
  refine j_lconst (pc := 4) (v := 0) C dX2_power_4 rfl ?_
  refine j_callS (pc := 5) (As := [.ref d1, .long 0]) (rest := []) (wr := [(d0, .inr (2, [.ref d1]))]) C (c_J7_fill_d0a16 l D cyC cyI cyJ cyZ cyO d1 0 d_digits) wd_110 wd_51 wd_111 wd_112 ⟨by decide, by decide, rfl⟩ rfl ⟨rfl, rfl, by decide, by decide⟩ ⟨by decide, by decide⟩ [1] [0] rfl rfl ⟨by decide, by decide, by decide⟩ rfl (Nat.le_of_ble_eq_true rfl) dX2_power_5 (fun u_1 hw_2 => ?_)
  refine j_eq (ws2 := [(d0, .inr (2, [.ref d1])), (d1, .inl (cyJ, 4, .inr (.inl (u_1.2.2.2 0))))]) (pc2 := 8) (lv2 := [(0, .ref d0), (1, .int p0), (2, .int p1)]) (st2 := []) rfl rfl rfl rfl ?_
  have hw_2_0 : ∀ i : Nat, i < 4 → (u_1.2.2.2 0) i = (0 : Int64) := hw_2
  refine j_aload_n (pc := 8) C dX2_power_8 rfl 0 rfl ?_
  refine j_get (pc := 9) (ci := 2) (v := .ref d1) C inw_2 0 rfl rfl 0 (by decide) wd_109 rfl rfl dX2_power_9 ?_
  refine j_iconst (pc := 12) (v := 0) C dX2_power_12 (by decide) ?_
  refine j_lconst (pc := 13) (v := 1) C dX2_power_13 rfl ?_
  obtain ⟨f_3, ef_3⟩ : ∃ z, z = vp_updL (u_1.2.2.2 0) 0 1 := ⟨_, rfl⟩
  refine j_last (pc := 14) (k := 0) (ws' := [(d0, .inr (2, [.ref d1])), (d1, .inl (cyJ, 4, .inr (.inl f_3)))]) C 1 2 rfl rfl (by decide) (by decide) (by decide) dX2_power_14 (by rw [ef_3]; rfl) ?_
  refine j_iconst (pc := 15) (v := 0) C dX2_power_15 (by decide) ?_
  refine j_istore_n (pc := 16) (lv' := [(3, .int 0), (0, .ref d0), (1, .int p0), (2, .int p1)]) C dX2_power_16 rfl (by decide) rfl ?_
  have loop_4 : ∀ (k_4 : Nat) (x4_3 : Int32) (g4_d1 : Nat → Int64), (0 ≤ (x4_3).toInt ∧ (x4_3).toInt ≤ 17) → (x4_3.toInt ≤ (p1).toInt ∨ x4_3.toInt = 0) → (∀ i : Nat, i < 4 → g4_d1 i = dgN (p0).toInt64 (x4_3.toInt).toNat i) → (17 - x4_3.toInt).toNat < k_4 → J p l e ({ frames := 1, cells := 0, slots := 0, locals := 24 } : Room) s m args below meth c D A 9 0 0 (QX below D (TY cyC cyI cyJ cyZ cyO) A (fun u => none) (fun u => (∀ i : Nat, i < 4 → (u.2.2.2 0) i = dgN (p0).toInt64 (p1).toInt.toNat i)) (fun u => [(d0, .inr (2, [.ref d1])), (d1, .inl (cyJ, 4, .inr (.inl (u.2.2.2 0))))]) args s 0 0) [(d0, .inr (2, [.ref d1])), (d1, .inl (cyJ, 4, .inr (.inl g4_d1)))] 17 [(3, .int x4_3), (0, .ref d0), (1, .int p0), (2, .int p1)] [] := by
    intro k_4
    induction k_4 with
    | zero =>
      intro x4_3 g4_d1 hi_4_0 hr_4 hq_4_0 hm_4
      exact absurd hm_4 (Nat.not_lt_zero _)
    | succ k_4 ih_4 =>
      intro x4_3 g4_d1 hi_4_0 hr_4 hq_4_0 hm_4
      refine j_iload_n (pc := 17) C dX2_power_17 rfl 0 rfl ?_
      refine j_iload_n (pc := 18) C dX2_power_18 rfl 3 rfl ?_
      refine j_icmp_ge (pc := 19) (tgt := 82) C dX2_power_19 (by decide) (fun c_5 => ?_) (fun c_5 => ?_)
      · skip
        rw [i_le] at c_5
        exact j_vret (pc := 82) C hr hk (fun i => [].getD i 0, fun i => [].getD i 0, fun i => [].getD i (fun _ => 0), fun i => [g4_d1].getD i (fun _ => 0)) rfl (show (∀ i : Nat, i < 4 → g4_d1 i = dgN (p0).toInt64 (p1).toInt.toNat i) from ((by rw [show (p1).toInt.toNat = (x4_3).toInt.toNat from (by omega)]; exact hq_4_0))) [0, 1] (by decide) rfl (by decide) (by decide) dX2_power_82
      · skip
        rw [i_le] at c_5
        refine j_lconst (pc := 22) (v := 0) C dX2_power_22 rfl ?_
        refine j_lstore (pc := 23) (lv' := [(4, .long 0), (3, .int x4_3), (0, .ref d0), (1, .int p0), (2, .int p1)]) C dX2_power_23 (by decide) rfl ?_
        refine j_iconst (pc := 25) (v := 0) C dX2_power_25 (by decide) ?_
        refine j_istore (pc := 26) (lv' := [(6, .int 0), (4, .long 0), (3, .int x4_3), (0, .ref d0), (1, .int p0), (2, .int p1)]) C dX2_power_26 (by decide) rfl ?_
        have loop_6 : ∀ (k_6 : Nat) (x6_6 : Int32) (x6_4 : Int64) (g6_d1 : Nat → Int64), (0 ≤ (x6_6).toInt ∧ (x6_6).toInt ≤ 4) → (DGI (p0).toInt64 (x4_3.toInt).toNat 4 g6_d1 x6_6.toInt) → (x6_4 = dgS (p0).toInt64 (dgN (p0).toInt64 (x4_3.toInt).toNat) (x6_6.toInt).toNat) → (4 - x6_6.toInt).toNat < k_6 → J p l e ({ frames := 1, cells := 0, slots := 0, locals := 24 } : Room) s m args below meth c D A 9 0 0 (QX below D (TY cyC cyI cyJ cyZ cyO) A (fun u => none) (fun u => (∀ i : Nat, i < 4 → (u.2.2.2 0) i = dgN (p0).toInt64 (p1).toInt.toNat i)) (fun u => [(d0, .inr (2, [.ref d1])), (d1, .inl (cyJ, 4, .inr (.inl (u.2.2.2 0))))]) args s 0 0) [(d0, .inr (2, [.ref d1])), (d1, .inl (cyJ, 4, .inr (.inl g6_d1)))] 28 [(6, .int x6_6), (4, .long x6_4), (3, .int x4_3), (0, .ref d0), (1, .int p0), (2, .int p1)] [] := by
          intro k_6
          induction k_6 with
          | zero =>
            intro x6_6 x6_4 g6_d1 hi_6_0 hq_6_0 hq_6_1 hm_6
            exact absurd hm_6 (Nat.not_lt_zero _)
          | succ k_6 ih_6 =>
            intro x6_6 x6_4 g6_d1 hi_6_0 hq_6_0 hq_6_1 hm_6
            refine j_iload (pc := 28) C dX2_power_28 0 rfl ?_
            refine j_iconst (pc := 30) (v := 4) C dX2_power_30 (by decide) ?_
            refine j_icmp_ge (pc := 31) (tgt := 76) C dX2_power_31 (by decide) (fun c_7 => ?_) (fun c_7 => ?_)
            · skip
              have el_4 : (4 : Int32).toInt = 4 := rfl
              rw [i_le] at c_7
              have k0c_7 : x6_6.toInt = 4 := by omega
              obtain ⟨v_8, ev_8⟩ : ∃ z : Int32, x4_3 + 1 = z := ⟨_, rfl⟩
              have el_1 : (1 : Int32).toInt = 1 := rfl
              have hv_8 : v_8.toInt = x4_3.toInt + (1 : Int32).toInt := by rw [← ev_8]; exact fb_addI (by omega) (by omega)
              refine j_iinc (pc := 76) (v := v_8) (lv' := [(3, .int v_8), (6, .int x6_6), (4, .long x6_4), (0, .ref d0), (1, .int p0), (2, .int p1)]) C dX2_power_76 2 rfl ev_8 (by decide) rfl ?_
              refine j_goto (pc := 79) (tgt := 17) C dX2_power_79 (by decide) ?_
              exact j_lv [0, 3, 4, 5] rfl (ih_4 v_8 g6_d1 (by omega) (by omega) (DGI.fin hq_6_0 (by omega) (by omega)) (by omega))
            · skip
              have el_4 : (4 : Int32).toInt = 4 := rfl
              rw [i_le] at c_7
              refine j_aload_n (pc := 34) C dX2_power_34 rfl 3 rfl ?_
              refine j_get (pc := 35) (ci := 2) (v := .ref d1) C inw_2 0 rfl rfl 0 (by decide) wd_109 rfl rfl dX2_power_35 ?_
              refine j_iload (pc := 38) C dX2_power_38 0 rfl ?_
              obtain ⟨v_9, ev_9⟩ : ∃ z, g6_d1 (x6_6).toInt.toNat = z := ⟨_, rfl⟩
              refine j_lald (pc := 40) (v := v_9) (k := (x6_6).toInt.toNat) C 1 2 rfl rfl (i_nn hi_6_0.1) rfl (i_lt_n hi_6_0.1 (by omega)) ev_9 dX2_power_40 ?_
              refine j_iload_n (pc := 41) C dX2_power_41 rfl 4 rfl ?_
              refine j_i2l (pc := 42) C dX2_power_42 rfl ?_
              refine j_lmul (pc := 43) C dX2_power_43 rfl ?_
              refine j_lload (pc := 44) C dX2_power_44 1 rfl ?_
              refine j_ladd (pc := 46) C dX2_power_46 rfl ?_
              refine j_lstore (pc := 47) (lv' := [(7, .long ((v_9 * (p0).toInt64) + x6_4)), (6, .int x6_6), (4, .long x6_4), (3, .int x4_3), (0, .ref d0), (1, .int p0), (2, .int p1)]) C dX2_power_47 (by decide) rfl ?_
              refine j_aload_n (pc := 49) C dX2_power_49 rfl 4 rfl ?_
              refine j_get (pc := 50) (ci := 2) (v := .ref d1) C inw_2 0 rfl rfl 0 (by decide) wd_109 rfl rfl dX2_power_50 ?_
              refine j_iload (pc := 53) C dX2_power_53 1 rfl ?_
              refine j_lload (pc := 55) C dX2_power_55 0 rfl ?_
              refine j_ldc2 (pc := 57) C wd_113 dX2_power_57 ?_
              obtain ⟨v_10, ev_10⟩ : ∃ z : Int64, ((v_9 * (p0).toInt64) + x6_4) - ((v_9 * (p0).toInt64) + x6_4) / 1000000000 * 1000000000 = z := ⟨_, rfl⟩
              refine j_lrem (pc := 60) (v := v_10) C dX2_power_60 (by decide) ev_10 ?_
              obtain ⟨f_11, ef_11⟩ : ∃ z, z = vp_updL g6_d1 (x6_6).toInt.toNat v_10 := ⟨_, rfl⟩
              refine j_last (pc := 61) (k := (x6_6).toInt.toNat) (ws' := [(d0, .inr (2, [.ref d1])), (d1, .inl (cyJ, 4, .inr (.inl f_11)))]) C 1 2 rfl rfl (i_nn hi_6_0.1) rfl (i_lt_n hi_6_0.1 (by omega)) dX2_power_61 (by rw [ef_11]; rfl) ?_
              refine j_lload (pc := 62) C dX2_power_62 0 rfl ?_
              refine j_ldc2 (pc := 64) C wd_113 dX2_power_64 ?_
              obtain ⟨v_12, ev_12⟩ : ∃ z : Int64, ((v_9 * (p0).toInt64) + x6_4) / 1000000000 = z := ⟨_, rfl⟩
              refine j_ldiv (pc := 67) (v := v_12) C dX2_power_67 (by decide) ev_12 ?_
              refine j_lstore (pc := 68) (lv' := [(4, .long v_12), (7, .long ((v_9 * (p0).toInt64) + x6_4)), (6, .int x6_6), (3, .int x4_3), (0, .ref d0), (1, .int p0), (2, .int p1)]) C dX2_power_68 (by decide) rfl ?_
              obtain ⟨v_13, ev_13⟩ : ∃ z : Int32, x6_6 + 1 = z := ⟨_, rfl⟩
              have el_1 : (1 : Int32).toInt = 1 := rfl
              have hv_13 : v_13.toInt = x6_6.toInt + (1 : Int32).toInt := by rw [← ev_13]; exact fb_addI (by omega) (by omega)
              refine j_iinc (pc := 70) (v := v_13) (lv' := [(6, .int v_13), (4, .long v_12), (7, .long ((v_9 * (p0).toInt64) + x6_4)), (3, .int x4_3), (0, .ref d0), (1, .int p0), (2, .int p1)]) C dX2_power_70 2 rfl ev_13 (by decide) rfl ?_
              refine j_goto (pc := 73) (tgt := 28) C dX2_power_73 (by decide) ?_
              exact j_lv [0, 1, 3, 4, 5, 6] rfl (ih_6 v_13 v_12 f_11 (by omega) (DGI.set hq_6_0 (by omega) (by omega) (by omega) hq_6_1 (by rw [ev_9]; exact ev_10) ef_11) (DGI.over hq_6_0 (by omega) (by omega) (by omega) hq_6_1 (by rw [ev_9]; exact ev_12)) (by omega))
        have el_0 : (0 : Int32).toInt = 0 := rfl
        have el_0 : (0 : Int32).toInt = 0 := rfl
        exact j_lv [0, 1, 2, 3, 4, 5] rfl (loop_6 4096 0 0 g4_d1 (by decide) (DGI.start hq_4_0 rfl) rfl (by omega))
  have el_0 : (0 : Int32).toInt = 0 := rfl
  exact j_lv [0, 1, 2, 3] rfl (loop_4 4096 0 f_3 (by decide) (by omega) (fun i hi => by rw [ef_3]; by_cases q : i = 0; (rw [show vp_updL (u_1.2.2.2 0) 0 1 i = 1 from if_pos q]; exact (if_pos q).symm); (rw [show vp_updL (u_1.2.2.2 0) 0 1 i = (u_1.2.2.2 0) i from if_neg q, hw_2_0 i hi]; exact (if_neg q).symm)) (by omega))
