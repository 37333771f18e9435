set_option maxHeartbeats 4000000 in
set_option maxRecDepth 100000 in
theorem c_X8_code_f (l : Launch) (D : DG) (cyC cyI cyJ cyZ cyO : ClassId) (t0 : Nat) (t1 : Nat) (t_length : Int32) (t_next : Int32) (t_kind : Int32) (t_place : Int32) (t_number : Int32) (t_text : Nat → Int32) (h_t_length : 0 ≤ (t_length).toInt ∧ (t_length).toInt ≤ 1000) (h_t_next : 0 ≤ (t_next).toInt ∧ (t_next).toInt ≤ 1000) (h_t_kind : 0 ≤ (t_kind).toInt ∧ (t_kind).toInt ≤ 4) (h_t_place : 0 ≤ (t_place).toInt ∧ (t_place).toInt ≤ 1000) (h_t_text : Iv 1000 (0) (126) t_text) (hk1 : (t_kind).toInt = 1) (hTH : TH t_text (t_length).toInt.toNat (t_next).toInt (t_kind).toInt (t_place).toInt (t_number).toInt) : KK l D (TY cyC cyI cyJ cyZ cyO) yX8_code cX8_code 4 (some .long) ({ frames := 0, cells := 0, slots := 0, locals := 0 } : Room) 0 0 [.ref t0] [(t0, .inr (8, [.ref t1, .int t_length, .int t_next, .int t_kind, .int t_place, .int t_number])), (t1, .inl (cyC, 1000, .inl t_text))] (fun u => some (.long (u.2.2.2 0 0))) (fun u => (NMR (u.2.2.2 0 0) ((TKS t_text (t_length).toInt.toNat) (t_place).toInt.toNat).2.1)) (fun u => [(t0, .inr (8, [.ref t1, .int t_length, .int t_next, .int t_kind, .int t_place, .int t_number])), (t1, .inl (cyC, 1000, .inl t_text))]) := by
  refine KK.of (lv0 := [(0, .ref t0)]) (by decide) rfl (Nat.le_of_ble_eq_true rfl) ?_
  intro p e s m args below meth c A C hr hk hin
  have hpn := (hTH.wval hk1).2.2
  refine j_lconst (pc := 0) (v := 0) C dX8_code_0 rfl ?_
  refine j_lstore_n (pc := 1) (lv' := [(1, .long 0), (0, .ref t0)]) C dX8_code_1 rfl (by decide) rfl ?_
  refine j_aload_n (pc := 2) C dX8_code_2 rfl 1 rfl ?_
  refine j_get (pc := 3) (ci := 8) (v := .int t_place) C inw_8 0 rfl rfl 4 (by decide) wd_262 rfl rfl dX8_code_3 ?_
  refine j_istore_n (pc := 6) (lv' := [(3, .int t_place), (1, .long 0), (0, .ref t0)]) C dX8_code_6 rfl (by decide) rfl ?_
  have loop_1 : ∀ (k_1 : Nat) (x1_3 : Int32) (x1_1 : Int64), (0 ≤ (x1_3).toInt ∧ (x1_3).toInt ≤ 1000) → ((t_place).toInt ≤ x1_3.toInt ∧ x1_3.toInt ≤ (t_next).toInt) → (x1_1 = e32 t_text (t_place).toInt.toNat (x1_3.toInt - (t_place).toInt).toNat) → (1000 - x1_3.toInt).toNat < k_1 → J p l e ({ frames := 0, cells := 0, slots := 0, locals := 0 } : Room) s m args below meth c D A 4 0 0 (QX below D (TY cyC cyI cyJ cyZ cyO) A (fun u => some (.long (u.2.2.2 0 0))) (fun u => (NMR (u.2.2.2 0 0) ((TKS t_text (t_length).toInt.toNat) (t_place).toInt.toNat).2.1)) (fun u => [(t0, .inr (8, [.ref t1, .int t_length, .int t_next, .int t_kind, .int t_place, .int t_number])), (t1, .inl (cyC, 1000, .inl t_text))]) args s 0 0) [(t0, .inr (8, [.ref t1, .int t_length, .int t_next, .int t_kind, .int t_place, .int t_number])), (t1, .inl (cyC, 1000, .inl t_text))] 7 [(3, .int x1_3), (1, .long x1_1), (0, .ref t0)] [] := by
    intro k_1
    induction k_1 with
    | zero =>
      intro x1_3 x1_1 hi_1_0 hr_1 hq_1_0 hm_1
      exact absurd hm_1 (Nat.not_lt_zero _)
    | succ k_1 ih_1 =>
      intro x1_3 x1_1 hi_1_0 hr_1 hq_1_0 hm_1
      refine j_iload_n (pc := 7) C dX8_code_7 rfl 0 rfl ?_
      refine j_aload_n (pc := 8) C dX8_code_8 rfl 2 rfl ?_
      refine j_get (pc := 9) (ci := 8) (v := .int t_next) C inw_8 0 rfl rfl 2 (by decide) wd_256 rfl rfl dX8_code_9 ?_
      refine j_icmp_ge (pc := 12) (tgt := 41) C dX8_code_12 (by decide) (fun c_2 => ?_) (fun c_2 => ?_)
      · skip
        rw [i_le] at c_2
        refine j_lload_n (pc := 41) C dX8_code_41 rfl 1 rfl ?_
        exact j_lret (pc := 42) C hr hk (fun i => [].getD i 0, fun i => [].getD i 0, fun i => [].getD i (fun _ => 0), fun i => [(fun _ => x1_1)].getD i (fun _ => 0)) rfl (show (NMR x1_1 ((TKS t_text (t_length).toInt.toNat) (t_place).toInt.toNat).2.1) from ((by have z8 := hTH.name hk1; rw [show (t_next).toInt.toNat - (t_place).toInt.toNat = ((x1_3).toInt - (t_place).toInt).toNat from (by omega), ← hq_1_0] at z8; exact z8))) [0, 1] (by decide) rfl (by decide) (by decide) dX8_code_42
      · skip
        rw [i_le] at c_2
        refine j_lload_n (pc := 15) C dX8_code_15 rfl 1 rfl ?_
        refine j_ldc2 (pc := 16) C wd_286 dX8_code_16 ?_
        refine j_lmul (pc := 19) C dX8_code_19 rfl ?_
        refine j_aload_n (pc := 20) C dX8_code_20 rfl 2 rfl ?_
        refine j_get (pc := 21) (ci := 8) (v := .ref t1) C inw_8 0 rfl rfl 0 (by decide) wd_255 rfl rfl dX8_code_21 ?_
        refine j_iload_n (pc := 24) C dX8_code_24 rfl 0 rfl ?_
        obtain ⟨v_3, ev_3⟩ : ∃ z, t_text (x1_3).toInt.toNat = z := ⟨_, rfl⟩
        have env_3 : (t_text (x1_3).toInt.toNat).toInt = v_3.toInt := by rw [ev_3]
        have hv_3 := h_t_text (x1_3).toInt.toNat (i_lt_n hi_1_0.1 (by omega)); rw [ev_3] at hv_3
        refine j_cald (pc := 25) (v := v_3) (k := (x1_3).toInt.toNat) C 1 0 rfl rfl (i_nn hi_1_0.1) rfl (i_lt_n hi_1_0.1 (by omega)) ev_3 dX8_code_25 ?_
        refine j_i2l (pc := 26) C dX8_code_26 rfl ?_
        refine j_ladd (pc := 27) C dX8_code_27 rfl ?_
        refine j_ldc2 (pc := 28) C wd_287 dX8_code_28 ?_
        refine j_lsub (pc := 31) C dX8_code_31 rfl ?_
        refine j_lconst (pc := 32) (v := 1) C dX8_code_32 rfl ?_
        refine j_ladd (pc := 33) C dX8_code_33 rfl ?_
        refine j_lstore_n (pc := 34) (lv' := [(1, .long ((((x1_1 * 32) + (v_3).toInt64) - 97) + 1)), (3, .int x1_3), (0, .ref t0)]) C dX8_code_34 rfl (by decide) rfl ?_
        obtain ⟨v_4, ev_4⟩ : ∃ z : Int32, x1_3 + 1 = z := ⟨_, rfl⟩
        have el_1 : (1 : Int32).toInt = 1 := rfl
        have hv_4 : v_4.toInt = x1_3.toInt + (1 : Int32).toInt := by rw [← ev_4]; exact fb_addI (by omega) (by omega)
        refine j_iinc (pc := 35) (v := v_4) (lv' := [(3, .int v_4), (1, .long ((((x1_1 * 32) + (v_3).toInt64) - 97) + 1)), (0, .ref t0)]) C dX8_code_35 1 rfl ev_4 (by decide) rfl ?_
        refine j_goto (pc := 38) (tgt := 7) C dX8_code_38 (by decide) ?_
        exact j_lv [0, 1, 2] rfl (ih_1 v_4 ((((x1_1 * 32) + (v_3).toInt64) - 97) + 1) (by omega) (by omega) (by rw [show ((v_4).toInt - (t_place).toInt).toNat = ((x1_3).toInt - (t_place).toInt).toNat + 1 from (by omega)]; show ((((x1_1 * 32) + (v_3).toInt64) - 97) + 1) = e32 t_text (t_place).toInt.toNat ((x1_3).toInt - (t_place).toInt).toNat * 32 + (t_text ((t_place).toInt.toNat + ((x1_3).toInt - (t_place).toInt).toNat)).toInt64 - 97 + 1; rw [← hq_1_0, show (t_place).toInt.toNat + ((x1_3).toInt - (t_place).toInt).toNat = (x1_3).toInt.toNat from (by omega), ev_3]) (by omega))
  have el_0 : (0 : Int32).toInt = 0 := rfl
  exact j_lv [0, 1, 2] rfl (loop_1 4096 t_place 0 h_t_place (by omega) (by rw [show ((t_place).toInt - (t_place).toInt).toNat = 0 from (by omega)]; rfl) (by omega))
/-- one of a stretch of words, or none of them -/
def NJ (x : Int) (T : Nat → Int × Int64 × Nat) (p lo hi : Nat) : Prop := (x = 0 → ∀ k, lo ≤ k → k < hi → wI T p (WN k) = 0) ∧ (x = 1 → ∃ k, lo ≤ k ∧ k < hi ∧ wI T p (WN k) = 1)
theorem NJ.yes {x : Int} {T : Nat → Int × Int64 × Nat} {p lo hi : Nat} (k : Nat) (hx : x = 1) (h : wI T p (WN k) = 1) (h1 : lo ≤ k ∧ k < hi) : NJ x T p lo hi := ⟨fun z => absurd (hx.symm.trans z) (by decide), fun _ => ⟨k, h1.1, h1.2, h⟩⟩
theorem nm_j1 {T : Nat → Int × Int64 × Nat} {p : Nat} {x1 x2 x3 : Int} (hk : (T p).1 = 1) (h1 : NJ x1 T p 0 6) (h2 : NJ x2 T p 6 14) (h3 : NJ x3 T p 14 17) (e1 : x1 = 0) (e2 : x2 = 0) (e3 : x3 = 0) : nmI T p = 1 := nmI_1.mpr (isNm_iff.mpr ⟨hk, fun k hk2 e => by
  have h4 : wI T p (WN k) = 1 := wI_1.mpr (decide_eq_true ⟨hk, e⟩)
  rcases Nat.lt_or_ge k 6 with q | q
  · have := h1.1 e1 k (by omega) q; omega
  · rcases Nat.lt_or_ge k 14 with q2 | q2
    · have := h2.1 e2 k q q2; omega
    · have := h3.1 e3 k q2 hk2; omega⟩)
theorem nm_j0 {T : Nat → Int × Int64 × Nat} {p lo hi : Nat} {x : Int} (h : NJ x T p lo hi) (hx : x = 1) (hh : hi ≤ 17) : nmI T p = 0 := by
  obtain ⟨k, _, h2, h3⟩ := h.2 hx
  exact nmI_0.mpr (fun q => (isNm_iff.mp q).2 k (by omega) (of_decide_eq_true (wI_1.mp h3)).2)
theorem nm_k {T : Nat → Int × Int64 × Nat} {p : Nat} (h : ¬ (T p).1 = 1) : nmI T p = 0 := nmI_0.mpr (fun q => h (isNm_iff.mp q).1)
set_option maxHeartbeats 4000000 in
set_option maxRecDepth 100000 in
theorem c_X8_isName_f (l : Launch) (D : DG) (cyC cyI cyJ cyZ cyO : ClassId) (t0 : Nat) (t1 : Nat) (t_length : Int32) (t_next : Int32) (t_kind : Int32) (t_place : Int32) (t_number : Int32) (t_text : Nat → Int32) (h_t_length : 0 ≤ (t_length).toInt ∧ (t_length).toInt ≤ 1000) (h_t_next : 0 ≤ (t_next).toInt ∧ (t_next).toInt ≤ 1000) (h_t_kind : 0 ≤ (t_kind).toInt ∧ (t_kind).toInt ≤ 4) (h_t_place : 0 ≤ (t_place).toInt ∧ (t_place).toInt ≤ 1000) (h_t_text : Iv 1000 (0) (126) t_text) (hTH : TH t_text (t_length).toInt.toNat (t_next).toInt (t_kind).toInt (t_place).toInt (t_number).toInt) : KK l D (TY cyC cyI cyJ cyZ cyO) yX8_isName cX8_isName 4 (some .boolean) ({ frames := 5, cells := 0, slots := 0, locals := 107 } : Room) 0 0 [.ref t0] [(t0, .inr (8, [.ref t1, .int t_length, .int t_next, .int t_kind, .int t_place, .int t_number])), (t1, .inl (cyC, 1000, .inl t_text))] (fun u => some (.int (u.2.1 0))) (fun u => (0 ≤ (u.2.1 0).toInt ∧ (u.2.1 0).toInt ≤ 1) ∧ ((u.2.1 0).toInt = nmI (TKS t_text (t_length).toInt.toNat) (t_place).toInt.toNat) ∧ ((u.2.1 0).toInt = 0 ∨ (t_kind).toInt = 1)) (fun u => [(t0, .inr (8, [.ref t1, .int t_length, .int t_next, .int t_kind, .int t_place, .int t_number])), (t1, .inl (cyC, 1000, .inl t_text))]) := by
  refine KK.of (lv0 := [(0, .ref t0)]) (by decide) rfl (Nat.le_of_ble_eq_true rfl) ?_
  intro p e s m args below meth c A C hr hk hin
  have join_1 : ∀ xj1 : Int32, 0 ≤ (xj1).toInt ∧ (xj1).toInt ≤ 1 → (NJ (xj1).toInt (TKS t_text (t_length).toInt.toNat) (t_place).toInt.toNat 0 6) → J p l e ({ frames := 5, cells := 0, slots := 0, locals := 107 } : Room) s m args below meth c D A 4 0 0 (QX below D (TY cyC cyI cyJ cyZ cyO) A (fun u => some (.int (u.2.1 0))) (fun u => (0 ≤ (u.2.1 0).toInt ∧ (u.2.1 0).toInt ≤ 1) ∧ ((u.2.1 0).toInt = nmI (TKS t_text (t_length).toInt.toNat) (t_place).toInt.toNat) ∧ ((u.2.1 0).toInt = 0 ∨ (t_kind).toInt = 1)) (fun u => [(t0, .inr (8, [.ref t1, .int t_length, .int t_next, .int t_kind, .int t_place, .int t_number])), (t1, .inl (cyC, 1000, .inl t_text))]) args s 0 0) [(t0, .inr (8, [.ref t1, .int t_length, .int t_next, .int t_kind, .int t_place, .int t_number])), (t1, .inl (cyC, 1000, .inl t_text))] 59 [(0, .ref t0)] [.int xj1] := by
    intro xj1 hj1 hjf1
    refine j_istore_n (pc := 59) (lv' := [(1, .int xj1), (0, .ref t0)]) C dX8_isName_59 rfl (by decide) rfl ?_
    have join_2 : ∀ xj2 : Int32, 0 ≤ (xj2).toInt ∧ (xj2).toInt ≤ 1 → (NJ (xj2).toInt (TKS t_text (t_length).toInt.toNat) (t_place).toInt.toNat 6 14) → J p l e ({ frames := 5, cells := 0, slots := 0, locals := 107 } : Room) s m args below meth c D A 4 0 0 (QX below D (TY cyC cyI cyJ cyZ cyO) A (fun u => some (.int (u.2.1 0))) (fun u => (0 ≤ (u.2.1 0).toInt ∧ (u.2.1 0).toInt ≤ 1) ∧ ((u.2.1 0).toInt = nmI (TKS t_text (t_length).toInt.toNat) (t_place).toInt.toNat) ∧ ((u.2.1 0).toInt = 0 ∨ (t_kind).toInt = 1)) (fun u => [(t0, .inr (8, [.ref t1, .int t_length, .int t_next, .int t_kind, .int t_place, .int t_number])), (t1, .inl (cyC, 1000, .inl t_text))]) args s 0 0) [(t0, .inr (8, [.ref t1, .int t_length, .int t_next, .int t_kind, .int t_place, .int t_number])), (t1, .inl (cyC, 1000, .inl t_text))] 137 [(1, .int xj1), (0, .ref t0)] [.int xj2] := by
      intro xj2 hj2 hjf2
      refine j_istore_n (pc := 137) (lv' := [(2, .int xj2), (1, .int xj1), (0, .ref t0)]) C dX8_isName_137 rfl (by decide) rfl ?_
      have join_3 : ∀ xj3 : Int32, 0 ≤ (xj3).toInt ∧ (xj3).toInt ≤ 1 → (NJ (xj3).toInt (TKS t_text (t_length).toInt.toNat) (t_place).toInt.toNat 14 17) → J p l e ({ frames := 5, cells := 0, slots := 0, locals := 107 } : Room) s m args below meth c D A 4 0 0 (QX below D (TY cyC cyI cyJ cyZ cyO) A (fun u => some (.int (u.2.1 0))) (fun u => (0 ≤ (u.2.1 0).toInt ∧ (u.2.1 0).toInt ≤ 1) ∧ ((u.2.1 0).toInt = nmI (TKS t_text (t_length).toInt.toNat) (t_place).toInt.toNat) ∧ ((u.2.1 0).toInt = 0 ∨ (t_kind).toInt = 1)) (fun u => [(t0, .inr (8, [.ref t1, .int t_length, .int t_next, .int t_kind, .int t_place, .int t_number])), (t1, .inl (cyC, 1000, .inl t_text))]) args s 0 0) [(t0, .inr (8, [.ref t1, .int t_length, .int t_next, .int t_kind, .int t_place, .int t_number])), (t1, .inl (cyC, 1000, .inl t_text))] 170 [(2, .int xj2), (1, .int xj1), (0, .ref t0)] [.int xj3] := by
        intro xj3 hj3 hjf3
        refine j_istore_n (pc := 170) (lv' := [(3, .int xj3), (2, .int xj2), (1, .int xj1), (0, .ref t0)]) C dX8_isName_170 rfl (by decide) rfl ?_
        refine j_aload_n (pc := 171) C dX8_isName_171 rfl 3 rfl ?_
        refine j_get (pc := 172) (ci := 8) (v := .int t_kind) C inw_8 0 rfl rfl 3 (by decide) wd_271 rfl rfl dX8_isName_172 ?_
        refine j_iconst (pc := 175) (v := 1) C dX8_isName_175 (by decide) ?_
        refine j_icmp_ne (pc := 176) (tgt := 195) C dX8_isName_176 (by decide) (fun c_4 => ?_) (fun c_4 => ?_)
        · skip
          have el_1 : (1 : Int32).toInt = 1 := rfl
          rw [i_eq] at c_4
          refine j_iconst (pc := 195) (v := 0) C dX8_isName_195 (by decide) ?_
          have el_0 : (0 : Int32).toInt = 0 := rfl
          have el_0 : (0 : Int32).toInt = 0 := rfl
          have el_0 : (0 : Int32).toInt = 0 := rfl
          exact j_zret (pc := 196) C hr rfl hk (fun i => [].getD i 0, fun i => [0].getD i 0, fun i => [].getD i (fun _ => 0), fun i => [].getD i (fun _ => 0)) rfl (show (0 ≤ ((0 : Int32)).toInt ∧ ((0 : Int32)).toInt ≤ 1) ∧ ((0 : Int32).toInt = nmI (TKS t_text (t_length).toInt.toNat) (t_place).toInt.toNat) ∧ ((0 : Int32).toInt = 0 ∨ (t_kind).toInt = 1) from ⟨by omega, (by have z9 := nm_k (T := (TKS t_text (t_length).toInt.toNat)) (p := (t_place).toInt.toNat) (by have hk9 := hTH.kind; omega); omega), by omega⟩) [0, 1] (by decide) rfl (by decide) (by decide) dX8_isName_196
        · skip
          have el_1 : (1 : Int32).toInt = 1 := rfl
          rw [i_eq] at c_4
          refine j_iload_n (pc := 179) C dX8_isName_179 rfl 2 rfl ?_
          refine j_if_ne (pc := 180) (tgt := 195) C dX8_isName_180 (by decide) (fun c_5 => ?_) (fun c_5 => ?_)
          · skip
            have el_0 : (0 : Int32).toInt = 0 := rfl
            rw [i_eq] at c_5
            have k0c_5 : xj1.toInt = 1 := by omega
            refine j_iconst (pc := 195) (v := 0) C dX8_isName_195 (by decide) ?_
            have el_0 : (0 : Int32).toInt = 0 := rfl
            have el_0 : (0 : Int32).toInt = 0 := rfl
            have el_0 : (0 : Int32).toInt = 0 := rfl
            exact j_zret (pc := 196) C hr rfl hk (fun i => [].getD i 0, fun i => [0].getD i 0, fun i => [].getD i (fun _ => 0), fun i => [].getD i (fun _ => 0)) rfl (show (0 ≤ ((0 : Int32)).toInt ∧ ((0 : Int32)).toInt ≤ 1) ∧ ((0 : Int32).toInt = nmI (TKS t_text (t_length).toInt.toNat) (t_place).toInt.toNat) ∧ ((0 : Int32).toInt = 0 ∨ (t_kind).toInt = 1) from ⟨by omega, (by have z9 := nm_j0 hjf1 (by omega) (by decide); omega), by omega⟩) [0, 1] (by decide) rfl (by decide) (by decide) dX8_isName_196
          · skip
            have el_0 : (0 : Int32).toInt = 0 := rfl
            rw [i_eq] at c_5
            refine j_iload_n (pc := 183) C dX8_isName_183 rfl 1 rfl ?_
            refine j_if_ne (pc := 184) (tgt := 195) C dX8_isName_184 (by decide) (fun c_6 => ?_) (fun c_6 => ?_)
            · skip
              have el_0 : (0 : Int32).toInt = 0 := rfl
              rw [i_eq] at c_6
              have k0c_6 : xj2.toInt = 1 := by omega
              refine j_iconst (pc := 195) (v := 0) C dX8_isName_195 (by decide) ?_
              have el_0 : (0 : Int32).toInt = 0 := rfl
              have el_0 : (0 : Int32).toInt = 0 := rfl
              have el_0 : (0 : Int32).toInt = 0 := rfl
              exact j_zret (pc := 196) C hr rfl hk (fun i => [].getD i 0, fun i => [0].getD i 0, fun i => [].getD i (fun _ => 0), fun i => [].getD i (fun _ => 0)) rfl (show (0 ≤ ((0 : Int32)).toInt ∧ ((0 : Int32)).toInt ≤ 1) ∧ ((0 : Int32).toInt = nmI (TKS t_text (t_length).toInt.toNat) (t_place).toInt.toNat) ∧ ((0 : Int32).toInt = 0 ∨ (t_kind).toInt = 1) from ⟨by omega, (by have z9 := nm_j0 hjf2 (by omega) (by decide); omega), by omega⟩) [0, 1] (by decide) rfl (by decide) (by decide) dX8_isName_196
            · skip
              have el_0 : (0 : Int32).toInt = 0 := rfl
              rw [i_eq] at c_6
              refine j_iload_n (pc := 187) C dX8_isName_187 rfl 0 rfl ?_
              refine j_if_ne (pc := 188) (tgt := 195) C dX8_isName_188 (by decide) (fun c_7 => ?_) (fun c_7 => ?_)
              · skip
                have el_0 : (0 : Int32).toInt = 0 := rfl
                rw [i_eq] at c_7
                have k0c_7 : xj3.toInt = 1 := by omega
                refine j_iconst (pc := 195) (v := 0) C dX8_isName_195 (by decide) ?_
                have el_0 : (0 : Int32).toInt = 0 := rfl
                have el_0 : (0 : Int32).toInt = 0 := rfl
                have el_0 : (0 : Int32).toInt = 0 := rfl
                exact j_zret (pc := 196) C hr rfl hk (fun i => [].getD i 0, fun i => [0].getD i 0, fun i => [].getD i (fun _ => 0), fun i => [].getD i (fun _ => 0)) rfl (show (0 ≤ ((0 : Int32)).toInt ∧ ((0 : Int32)).toInt ≤ 1) ∧ ((0 : Int32).toInt = nmI (TKS t_text (t_length).toInt.toNat) (t_place).toInt.toNat) ∧ ((0 : Int32).toInt = 0 ∨ (t_kind).toInt = 1) from ⟨by omega, (by have z9 := nm_j0 hjf3 (by omega) (by decide); omega), by omega⟩) [0, 1] (by decide) rfl (by decide) (by decide) dX8_isName_196
              · skip
                have el_0 : (0 : Int32).toInt = 0 := rfl
                rw [i_eq] at c_7
                refine j_iconst (pc := 191) (v := 1) C dX8_isName_191 (by decide) ?_
                refine j_goto (pc := 192) (tgt := 196) C dX8_isName_192 (by decide) ?_
                have el_1 : (1 : Int32).toInt = 1 := rfl
                have el_1 : (1 : Int32).toInt = 1 := rfl
                have el_1 : (1 : Int32).toInt = 1 := rfl
                exact j_zret (pc := 196) C hr rfl hk (fun i => [].getD i 0, fun i => [1].getD i 0, fun i => [].getD i (fun _ => 0), fun i => [].getD i (fun _ => 0)) rfl (show (0 ≤ ((1 : Int32)).toInt ∧ ((1 : Int32)).toInt ≤ 1) ∧ ((1 : Int32).toInt = nmI (TKS t_text (t_length).toInt.toNat) (t_place).toInt.toNat) ∧ ((1 : Int32).toInt = 0 ∨ (t_kind).toInt = 1) from ⟨by omega, (by have z9 := nm_j1 (hTH.kind.trans (by omega)) hjf1 hjf2 hjf3 (by omega) (by omega) (by omega); omega), by omega⟩) [0, 1] (by decide) rfl (by decide) (by decide) dX8_isName_196
      refine j_aload_n (pc := 138) C dX8_isName_138 rfl 2 rfl ?_
      refine j_ldcS (pc := 139) (i := 40) C (by decide) rfl dX8_isName_139 ?_
      refine j_callV (pc := 141) (As := [.ref (D.2.1 40)]) (rest := []) (wr := []) C (c_X8_isWord_f l D cyC cyI cyJ cyZ cyO t0 t1 40 t_length t_next t_kind t_place t_number t_text h_t_length h_t_next h_t_kind h_t_place h_t_text (by decide) ⟨by decide, by decide, by decide⟩ hTH) wd_288 wd_258 wd_289 wd_290 wd_291 ⟨by decide, by decide, rfl⟩ rfl ⟨rfl, rfl, by decide, by decide⟩ ⟨by decide, by decide⟩ [0, 1] [] rfl rfl ⟨by decide, by decide, by decide⟩ 0 rfl rfl rfl (Nat.le_of_ble_eq_true rfl) dX8_isName_141 (fun u_8 hw_9 => ?_)
      refine j_eq (ws2 := [(t0, .inr (8, [.ref t1, .int t_length, .int t_next, .int t_kind, .int t_place, .int t_number])), (t1, .inl (cyC, 1000, .inl t_text))]) (pc2 := 144) (lv2 := [(2, .int xj2), (1, .int xj1), (0, .ref t0)]) (st2 := [.int (u_8.2.1 0)]) rfl rfl rfl rfl ?_
      obtain ⟨hw_9_0, hw_9_1⟩ := hw_9
      have hW_u_8 : (u_8.2.1 0).toInt = wI (TKS t_text (t_length).toInt.toNat) (t_place).toInt.toNat (WN 14) := by rw [← wnE_40]; exact hw_9_1
      refine j_if_ne (pc := 144) (tgt := 165) C dX8_isName_144 (by decide) (fun c_10 => ?_) (fun c_10 => ?_)
      · skip
        have el_0 : (0 : Int32).toInt = 0 := rfl
        rw [i_eq] at c_10
        have k0c_10 : ((u_8.2.1 0)).toInt = 1 := by omega
        refine j_iconst (pc := 165) (v := 1) C dX8_isName_165 (by decide) ?_
        refine j_goto (pc := 166) (tgt := 170) C dX8_isName_166 (by decide) ?_
        have el_1 : (1 : Int32).toInt = 1 := rfl
        exact j_lv [0, 1, 2] rfl (join_3 (1) (by omega) (NJ.yes 14 (by omega) (by have z9 := hW_u_8; omega) (by decide)))
      · skip
        have el_0 : (0 : Int32).toInt = 0 := rfl
        rw [i_eq] at c_10
        refine j_aload_n (pc := 147) C dX8_isName_147 rfl 2 rfl ?_
        refine j_ldcS (pc := 148) (i := 41) C (by decide) rfl dX8_isName_148 ?_
        refine j_callV (pc := 150) (As := [.ref (D.2.1 41)]) (rest := []) (wr := []) C (c_X8_isWord_f l D cyC cyI cyJ cyZ cyO t0 t1 41 t_length t_next t_kind t_place t_number t_text h_t_length h_t_next h_t_kind h_t_place h_t_text (by decide) ⟨by decide, by decide, by decide⟩ hTH) wd_288 wd_258 wd_289 wd_290 wd_291 ⟨by decide, by decide, rfl⟩ rfl ⟨rfl, rfl, by decide, by decide⟩ ⟨by decide, by decide⟩ [0, 1] [] rfl rfl ⟨by decide, by decide, by decide⟩ 0 rfl rfl rfl (Nat.le_of_ble_eq_true rfl) dX8_isName_150 (fun u_11 hw_12 => ?_)
        refine j_eq (ws2 := [(t0, .inr (8, [.ref t1, .int t_length, .int t_next, .int t_kind, .int t_place, .int t_number])), (t1, .inl (cyC, 1000, .inl t_text))]) (pc2 := 153) (lv2 := [(2, .int xj2), (1, .int xj1), (0, .ref t0)]) (st2 := [.int (u_11.2.1 0)]) rfl rfl rfl rfl ?_
        obtain ⟨hw_12_0, hw_12_1⟩ := hw_12
        have hW_u_11 : (u_11.2.1 0).toInt = wI (TKS t_text (t_length).toInt.toNat) (t_place).toInt.toNat (WN 15) := by rw [← wnE_41]; exact hw_12_1
        refine j_if_ne (pc := 153) (tgt := 165) C dX8_isName_153 (by decide) (fun c_13 => ?_) (fun c_13 => ?_)
        · skip
          have el_0 : (0 : Int32).toInt = 0 := rfl
          rw [i_eq] at c_13
          have k0c_13 : ((u_11.2.1 0)).toInt = 1 := by omega
          refine j_iconst (pc := 165) (v := 1) C dX8_isName_165 (by decide) ?_
          refine j_goto (pc := 166) (tgt := 170) C dX8_isName_166 (by decide) ?_
          have el_1 : (1 : Int32).toInt = 1 := rfl
          exact j_lv [0, 1, 2] rfl (join_3 (1) (by omega) (NJ.yes 15 (by omega) (by have z9 := hW_u_11; omega) (by decide)))
        · skip
          have el_0 : (0 : Int32).toInt = 0 := rfl
          rw [i_eq] at c_13
          refine j_aload_n (pc := 156) C dX8_isName_156 rfl 2 rfl ?_
          refine j_ldcS (pc := 157) (i := 42) C (by decide) rfl dX8_isName_157 ?_
          refine j_callV (pc := 159) (As := [.ref (D.2.1 42)]) (rest := []) (wr := []) C (c_X8_isWord_f l D cyC cyI cyJ cyZ cyO t0 t1 42 t_length t_next t_kind t_place t_number t_text h_t_length h_t_next h_t_kind h_t_place h_t_text (by decide) ⟨by decide, by decide, by decide⟩ hTH) wd_288 wd_258 wd_289 wd_290 wd_291 ⟨by decide, by decide, rfl⟩ rfl ⟨rfl, rfl, by decide, by decide⟩ ⟨by decide, by decide⟩ [0, 1] [] rfl rfl ⟨by decide, by decide, by decide⟩ 0 rfl rfl rfl (Nat.le_of_ble_eq_true rfl) dX8_isName_159 (fun u_14 hw_15 => ?_)
          refine j_eq (ws2 := [(t0, .inr (8, [.ref t1, .int t_length, .int t_next, .int t_kind, .int t_place, .int t_number])), (t1, .inl (cyC, 1000, .inl t_text))]) (pc2 := 162) (lv2 := [(2, .int xj2), (1, .int xj1), (0, .ref t0)]) (st2 := [.int (u_14.2.1 0)]) rfl rfl rfl rfl ?_
          obtain ⟨hw_15_0, hw_15_1⟩ := hw_15
          have hW_u_14 : (u_14.2.1 0).toInt = wI (TKS t_text (t_length).toInt.toNat) (t_place).toInt.toNat (WN 16) := by rw [← wnE_42]; exact hw_15_1
          refine j_if_eq (pc := 162) (tgt := 169) C dX8_isName_162 (by decide) (fun c_16 => ?_) (fun c_16 => ?_)
          · skip
            have el_0 : (0 : Int32).toInt = 0 := rfl
            rw [i_eq] at c_16
            refine j_iconst (pc := 169) (v := 0) C dX8_isName_169 (by decide) ?_
            have el_0 : (0 : Int32).toInt = 0 := rfl
            exact j_lv [0, 1, 2] rfl (join_3 (0) (by omega) ⟨fun _ k h1 h2 => by rcases (by omega : k = 14 ∨ k = 15 ∨ k = 16) with h9 | h9 | h9; (rw [h9]; have z9 := hW_u_8; omega); (rw [h9]; have z9 := hW_u_11; omega); (rw [h9]; have z9 := hW_u_14; omega), fun z => absurd z (by decide)⟩)
          · skip
            have el_0 : (0 : Int32).toInt = 0 := rfl
            rw [i_eq] at c_16
            have k0c_16 : ((u_14.2.1 0)).toInt = 1 := by omega
            refine j_iconst (pc := 165) (v := 1) C dX8_isName_165 (by decide) ?_
            refine j_goto (pc := 166) (tgt := 170) C dX8_isName_166 (by decide) ?_
            have el_1 : (1 : Int32).toInt = 1 := rfl
            exact j_lv [0, 1, 2] rfl (join_3 (1) (by omega) (NJ.yes 16 (by omega) (by have z9 := hW_u_14; omega) (by decide)))
    refine j_aload_n (pc := 60) C dX8_isName_60 rfl 1 rfl ?_
    refine j_ldcS (pc := 61) (i := 32) C (by decide) rfl dX8_isName_61 ?_
    refine j_callV (pc := 63) (As := [.ref (D.2.1 32)]) (rest := []) (wr := []) C (c_X8_isWord_f l D cyC cyI cyJ cyZ cyO t0 t1 32 t_length t_next t_kind t_place t_number t_text h_t_length h_t_next h_t_kind h_t_place h_t_text (by decide) ⟨by decide, by decide, by decide⟩ hTH) wd_288 wd_258 wd_289 wd_290 wd_291 ⟨by decide, by decide, rfl⟩ rfl ⟨rfl, rfl, by decide, by decide⟩ ⟨by decide, by decide⟩ [0, 1] [] rfl rfl ⟨by decide, by decide, by decide⟩ 0 rfl rfl rfl (Nat.le_of_ble_eq_true rfl) dX8_isName_63 (fun u_17 hw_18 => ?_)
    refine j_eq (ws2 := [(t0, .inr (8, [.ref t1, .int t_length, .int t_next, .int t_kind, .int t_place, .int t_number])), (t1, .inl (cyC, 1000, .inl t_text))]) (pc2 := 66) (lv2 := [(1, .int xj1), (0, .ref t0)]) (st2 := [.int (u_17.2.1 0)]) rfl rfl rfl rfl ?_
    obtain ⟨hw_18_0, hw_18_1⟩ := hw_18
    have hW_u_17 : (u_17.2.1 0).toInt = wI (TKS t_text (t_length).toInt.toNat) (t_place).toInt.toNat (WN 6) := by rw [← wnE_32]; exact hw_18_1
    refine j_if_ne (pc := 66) (tgt := 132) C dX8_isName_66 (by decide) (fun c_19 => ?_) (fun c_19 => ?_)
    · skip
      have el_0 : (0 : Int32).toInt = 0 := rfl
      rw [i_eq] at c_19
      have k0c_19 : ((u_17.2.1 0)).toInt = 1 := by omega
      refine j_iconst (pc := 132) (v := 1) C dX8_isName_132 (by decide) ?_
      refine j_goto (pc := 133) (tgt := 137) C dX8_isName_133 (by decide) ?_
      have el_1 : (1 : Int32).toInt = 1 := rfl
      exact j_lv [0, 1] rfl (join_2 (1) (by omega) (NJ.yes 6 (by omega) (by have z9 := hW_u_17; omega) (by decide)))
    · skip
      have el_0 : (0 : Int32).toInt = 0 := rfl
      rw [i_eq] at c_19
      refine j_aload_n (pc := 69) C dX8_isName_69 rfl 1 rfl ?_
      refine j_ldcS (pc := 70) (i := 33) C (by decide) rfl dX8_isName_70 ?_
      refine j_callV (pc := 72) (As := [.ref (D.2.1 33)]) (rest := []) (wr := []) C (c_X8_isWord_f l D cyC cyI cyJ cyZ cyO t0 t1 33 t_length t_next t_kind t_place t_number t_text h_t_length h_t_next h_t_kind h_t_place h_t_text (by decide) ⟨by decide, by decide, by decide⟩ hTH) wd_288 wd_258 wd_289 wd_290 wd_291 ⟨by decide, by decide, rfl⟩ rfl ⟨rfl, rfl, by decide, by decide⟩ ⟨by decide, by decide⟩ [0, 1] [] rfl rfl ⟨by decide, by decide, by decide⟩ 0 rfl rfl rfl (Nat.le_of_ble_eq_true rfl) dX8_isName_72 (fun u_20 hw_21 => ?_)
      refine j_eq (ws2 := [(t0, .inr (8, [.ref t1, .int t_length, .int t_next, .int t_kind, .int t_place, .int t_number])), (t1, .inl (cyC, 1000, .inl t_text))]) (pc2 := 75) (lv2 := [(1, .int xj1), (0, .ref t0)]) (st2 := [.int (u_20.2.1 0)]) rfl rfl rfl rfl ?_
      obtain ⟨hw_21_0, hw_21_1⟩ := hw_21
      have hW_u_20 : (u_20.2.1 0).toInt = wI (TKS t_text (t_length).toInt.toNat) (t_place).toInt.toNat (WN 7) := by rw [← wnE_33]; exact hw_21_1
      refine j_if_ne (pc := 75) (tgt := 132) C dX8_isName_75 (by decide) (fun c_22 => ?_) (fun c_22 => ?_)
      · skip
        have el_0 : (0 : Int32).toInt = 0 := rfl
        rw [i_eq] at c_22
        have k0c_22 : ((u_20.2.1 0)).toInt = 1 := by omega
        refine j_iconst (pc := 132) (v := 1) C dX8_isName_132 (by decide) ?_
        refine j_goto (pc := 133) (tgt := 137) C dX8_isName_133 (by decide) ?_
        have el_1 : (1 : Int32).toInt = 1 := rfl
        exact j_lv [0, 1] rfl (join_2 (1) (by omega) (NJ.yes 7 (by omega) (by have z9 := hW_u_20; omega) (by decide)))
      · skip
        have el_0 : (0 : Int32).toInt = 0 := rfl
        rw [i_eq] at c_22
        refine j_aload_n (pc := 78) C dX8_isName_78 rfl 1 rfl ?_
        refine j_ldcS (pc := 79) (i := 34) C (by decide) rfl dX8_isName_79 ?_
        refine j_callV (pc := 81) (As := [.ref (D.2.1 34)]) (rest := []) (wr := []) C (c_X8_isWord_f l D cyC cyI cyJ cyZ cyO t0 t1 34 t_length t_next t_kind t_place t_number t_text h_t_length h_t_next h_t_kind h_t_place h_t_text (by decide) ⟨by decide, by decide, by decide⟩ hTH) wd_288 wd_258 wd_289 wd_290 wd_291 ⟨by decide, by decide, rfl⟩ rfl ⟨rfl, rfl, by decide, by decide⟩ ⟨by decide, by decide⟩ [0, 1] [] rfl rfl ⟨by decide, by decide, by decide⟩ 0 rfl rfl rfl (Nat.le_of_ble_eq_true rfl) dX8_isName_81 (fun u_23 hw_24 => ?_)
        refine j_eq (ws2 := [(t0, .inr (8, [.ref t1, .int t_length, .int t_next, .int t_kind, .int t_place, .int t_number])), (t1, .inl (cyC, 1000, .inl t_text))]) (pc2 := 84) (lv2 := [(1, .int xj1), (0, .ref t0)]) (st2 := [.int (u_23.2.1 0)]) rfl rfl rfl rfl ?_
        obtain ⟨hw_24_0, hw_24_1⟩ := hw_24
        have hW_u_23 : (u_23.2.1 0).toInt = wI (TKS t_text (t_length).toInt.toNat) (t_place).toInt.toNat (WN 8) := by rw [← wnE_34]; exact hw_24_1
        refine j_if_ne (pc := 84) (tgt := 132) C dX8_isName_84 (by decide) (fun c_25 => ?_) (fun c_25 => ?_)
        · skip
          have el_0 : (0 : Int32).toInt = 0 := rfl
          rw [i_eq] at c_25
          have k0c_25 : ((u_23.2.1 0)).toInt = 1 := by omega
          refine j_iconst (pc := 132) (v := 1) C dX8_isName_132 (by decide) ?_
          refine j_goto (pc := 133) (tgt := 137) C dX8_isName_133 (by decide) ?_
          have el_1 : (1 : Int32).toInt = 1 := rfl
          exact j_lv [0, 1] rfl (join_2 (1) (by omega) (NJ.yes 8 (by omega) (by have z9 := hW_u_23; omega) (by decide)))
        · skip
          have el_0 : (0 : Int32).toInt = 0 := rfl
          rw [i_eq] at c_25
          refine j_aload_n (pc := 87) C dX8_isName_87 rfl 1 rfl ?_
          refine j_ldcS (pc := 88) (i := 35) C (by decide) rfl dX8_isName_88 ?_
          refine j_callV (pc := 90) (As := [.ref (D.2.1 35)]) (rest := []) (wr := []) C (c_X8_isWord_f l D cyC cyI cyJ cyZ cyO t0 t1 35 t_length t_next t_kind t_place t_number t_text h_t_length h_t_next h_t_kind h_t_place h_t_text (by decide) ⟨by decide, by decide, by decide⟩ hTH) wd_288 wd_258 wd_289 wd_290 wd_291 ⟨by decide, by decide, rfl⟩ rfl ⟨rfl, rfl, by decide, by decide⟩ ⟨by decide, by decide⟩ [0, 1] [] rfl rfl ⟨by decide, by decide, by decide⟩ 0 rfl rfl rfl (Nat.le_of_ble_eq_true rfl) dX8_isName_90 (fun u_26 hw_27 => ?_)
          refine j_eq (ws2 := [(t0, .inr (8, [.ref t1, .int t_length, .int t_next, .int t_kind, .int t_place, .int t_number])), (t1, .inl (cyC, 1000, .inl t_text))]) (pc2 := 93) (lv2 := [(1, .int xj1), (0, .ref t0)]) (st2 := [.int (u_26.2.1 0)]) rfl rfl rfl rfl ?_
          obtain ⟨hw_27_0, hw_27_1⟩ := hw_27
          have hW_u_26 : (u_26.2.1 0).toInt = wI (TKS t_text (t_length).toInt.toNat) (t_place).toInt.toNat (WN 9) := by rw [← wnE_35]; exact hw_27_1
          refine j_if_ne (pc := 93) (tgt := 132) C dX8_isName_93 (by decide) (fun c_28 => ?_) (fun c_28 => ?_)
          · skip
            have el_0 : (0 : Int32).toInt = 0 := rfl
            rw [i_eq] at c_28
            have k0c_28 : ((u_26.2.1 0)).toInt = 1 := by omega
            refine j_iconst (pc := 132) (v := 1) C dX8_isName_132 (by decide) ?_
            refine j_goto (pc := 133) (tgt := 137) C dX8_isName_133 (by decide) ?_
            have el_1 : (1 : Int32).toInt = 1 := rfl
            exact j_lv [0, 1] rfl (join_2 (1) (by omega) (NJ.yes 9 (by omega) (by have z9 := hW_u_26; omega) (by decide)))
          · skip
            have el_0 : (0 : Int32).toInt = 0 := rfl
            rw [i_eq] at c_28
            refine j_aload_n (pc := 96) C dX8_isName_96 rfl 1 rfl ?_
            refine j_ldcS (pc := 97) (i := 36) C (by decide) rfl dX8_isName_97 ?_
            refine j_callV (pc := 99) (As := [.ref (D.2.1 36)]) (rest := []) (wr := []) C (c_X8_isWord_f l D cyC cyI cyJ cyZ cyO t0 t1 36 t_length t_next t_kind t_place t_number t_text h_t_length h_t_next h_t_kind h_t_place h_t_text (by decide) ⟨by decide, by decide, by decide⟩ hTH) wd_288 wd_258 wd_289 wd_290 wd_291 ⟨by decide, by decide, rfl⟩ rfl ⟨rfl, rfl, by decide, by decide⟩ ⟨by decide, by decide⟩ [0, 1] [] rfl rfl ⟨by decide, by decide, by decide⟩ 0 rfl rfl rfl (Nat.le_of_ble_eq_true rfl) dX8_isName_99 (fun u_29 hw_30 => ?_)
            refine j_eq (ws2 := [(t0, .inr (8, [.ref t1, .int t_length, .int t_next, .int t_kind, .int t_place, .int t_number])), (t1, .inl (cyC, 1000, .inl t_text))]) (pc2 := 102) (lv2 := [(1, .int xj1), (0, .ref t0)]) (st2 := [.int (u_29.2.1 0)]) rfl rfl rfl rfl ?_
            obtain ⟨hw_30_0, hw_30_1⟩ := hw_30
            have hW_u_29 : (u_29.2.1 0).toInt = wI (TKS t_text (t_length).toInt.toNat) (t_place).toInt.toNat (WN 10) := by rw [← wnE_36]; exact hw_30_1
            refine j_if_ne (pc := 102) (tgt := 132) C dX8_isName_102 (by decide) (fun c_31 => ?_) (fun c_31 => ?_)
            · skip
              have el_0 : (0 : Int32).toInt = 0 := rfl
              rw [i_eq] at c_31
              have k0c_31 : ((u_29.2.1 0)).toInt = 1 := by omega
              refine j_iconst (pc := 132) (v := 1) C dX8_isName_132 (by decide) ?_
              refine j_goto (pc := 133) (tgt := 137) C dX8_isName_133 (by decide) ?_
              have el_1 : (1 : Int32).toInt = 1 := rfl
              exact j_lv [0, 1] rfl (join_2 (1) (by omega) (NJ.yes 10 (by omega) (by have z9 := hW_u_29; omega) (by decide)))
            · skip
              have el_0 : (0 : Int32).toInt = 0 := rfl
              rw [i_eq] at c_31
              refine j_aload_n (pc := 105) C dX8_isName_105 rfl 1 rfl ?_
              refine j_ldcS (pc := 106) (i := 37) C (by decide) rfl dX8_isName_106 ?_
              refine j_callV (pc := 108) (As := [.ref (D.2.1 37)]) (rest := []) (wr := []) C (c_X8_isWord_f l D cyC cyI cyJ cyZ cyO t0 t1 37 t_length t_next t_kind t_place t_number t_text h_t_length h_t_next h_t_kind h_t_place h_t_text (by decide) ⟨by decide, by decide, by decide⟩ hTH) wd_288 wd_258 wd_289 wd_290 wd_291 ⟨by decide, by decide, rfl⟩ rfl ⟨rfl, rfl, by decide, by decide⟩ ⟨by decide, by decide⟩ [0, 1] [] rfl rfl ⟨by decide, by decide, by decide⟩ 0 rfl rfl rfl (Nat.le_of_ble_eq_true rfl) dX8_isName_108 (fun u_32 hw_33 => ?_)
              refine j_eq (ws2 := [(t0, .inr (8, [.ref t1, .int t_length, .int t_next, .int t_kind, .int t_place, .int t_number])), (t1, .inl (cyC, 1000, .inl t_text))]) (pc2 := 111) (lv2 := [(1, .int xj1), (0, .ref t0)]) (st2 := [.int (u_32.2.1 0)]) rfl rfl rfl rfl ?_
              obtain ⟨hw_33_0, hw_33_1⟩ := hw_33
              have hW_u_32 : (u_32.2.1 0).toInt = wI (TKS t_text (t_length).toInt.toNat) (t_place).toInt.toNat (WN 11) := by rw [← wnE_37]; exact hw_33_1
              refine j_if_ne (pc := 111) (tgt := 132) C dX8_isName_111 (by decide) (fun c_34 => ?_) (fun c_34 => ?_)
              · skip
                have el_0 : (0 : Int32).toInt = 0 := rfl
                rw [i_eq] at c_34
                have k0c_34 : ((u_32.2.1 0)).toInt = 1 := by omega
                refine j_iconst (pc := 132) (v := 1) C dX8_isName_132 (by decide) ?_
                refine j_goto (pc := 133) (tgt := 137) C dX8_isName_133 (by decide) ?_
                have el_1 : (1 : Int32).toInt = 1 := rfl
                exact j_lv [0, 1] rfl (join_2 (1) (by omega) (NJ.yes 11 (by omega) (by have z9 := hW_u_32; omega) (by decide)))
              · skip
                have el_0 : (0 : Int32).toInt = 0 := rfl
                rw [i_eq] at c_34
                refine j_aload_n (pc := 114) C dX8_isName_114 rfl 1 rfl ?_
                refine j_ldcS (pc := 115) (i := 38) C (by decide) rfl dX8_isName_115 ?_
                refine j_callV (pc := 117) (As := [.ref (D.2.1 38)]) (rest := []) (wr := []) C (c_X8_isWord_f l D cyC cyI cyJ cyZ cyO t0 t1 38 t_length t_next t_kind t_place t_number t_text h_t_length h_t_next h_t_kind h_t_place h_t_text (by decide) ⟨by decide, by decide, by decide⟩ hTH) wd_288 wd_258 wd_289 wd_290 wd_291 ⟨by decide, by decide, rfl⟩ rfl ⟨rfl, rfl, by decide, by decide⟩ ⟨by decide, by decide⟩ [0, 1] [] rfl rfl ⟨by decide, by decide, by decide⟩ 0 rfl rfl rfl (Nat.le_of_ble_eq_true rfl) dX8_isName_117 (fun u_35 hw_36 => ?_)
                refine j_eq (ws2 := [(t0, .inr (8, [.ref t1, .int t_length, .int t_next, .int t_kind, .int t_place, .int t_number])), (t1, .inl (cyC, 1000, .inl t_text))]) (pc2 := 120) (lv2 := [(1, .int xj1), (0, .ref t0)]) (st2 := [.int (u_35.2.1 0)]) rfl rfl rfl rfl ?_
                obtain ⟨hw_36_0, hw_36_1⟩ := hw_36
                have hW_u_35 : (u_35.2.1 0).toInt = wI (TKS t_text (t_length).toInt.toNat) (t_place).toInt.toNat (WN 12) := by rw [← wnE_38]; exact hw_36_1
                refine j_if_ne (pc := 120) (tgt := 132) C dX8_isName_120 (by decide) (fun c_37 => ?_) (fun c_37 => ?_)
                · skip
                  have el_0 : (0 : Int32).toInt = 0 := rfl
                  rw [i_eq] at c_37
                  have k0c_37 : ((u_35.2.1 0)).toInt = 1 := by omega
                  refine j_iconst (pc := 132) (v := 1) C dX8_isName_132 (by decide) ?_
                  refine j_goto (pc := 133) (tgt := 137) C dX8_isName_133 (by decide) ?_
                  have el_1 : (1 : Int32).toInt = 1 := rfl
                  exact j_lv [0, 1] rfl (join_2 (1) (by omega) (NJ.yes 12 (by omega) (by have z9 := hW_u_35; omega) (by decide)))
                · skip
                  have el_0 : (0 : Int32).toInt = 0 := rfl
                  rw [i_eq] at c_37
                  refine j_aload_n (pc := 123) C dX8_isName_123 rfl 1 rfl ?_
                  refine j_ldcS (pc := 124) (i := 39) C (by decide) rfl dX8_isName_124 ?_
                  refine j_callV (pc := 126) (As := [.ref (D.2.1 39)]) (rest := []) (wr := []) C (c_X8_isWord_f l D cyC cyI cyJ cyZ cyO t0 t1 39 t_length t_next t_kind t_place t_number t_text h_t_length h_t_next h_t_kind h_t_place h_t_text (by decide) ⟨by decide, by decide, by decide⟩ hTH) wd_288 wd_258 wd_289 wd_290 wd_291 ⟨by decide, by decide, rfl⟩ rfl ⟨rfl, rfl, by decide, by decide⟩ ⟨by decide, by decide⟩ [0, 1] [] rfl rfl ⟨by decide, by decide, by decide⟩ 0 rfl rfl rfl (Nat.le_of_ble_eq_true rfl) dX8_isName_126 (fun u_38 hw_39 => ?_)
                  refine j_eq (ws2 := [(t0, .inr (8, [.ref t1, .int t_length, .int t_next, .int t_kind, .int t_place, .int t_number])), (t1, .inl (cyC, 1000, .inl t_text))]) (pc2 := 129) (lv2 := [(1, .int xj1), (0, .ref t0)]) (st2 := [.int (u_38.2.1 0)]) rfl rfl rfl rfl ?_
                  obtain ⟨hw_39_0, hw_39_1⟩ := hw_39
                  have hW_u_38 : (u_38.2.1 0).toInt = wI (TKS t_text (t_length).toInt.toNat) (t_place).toInt.toNat (WN 13) := by rw [← wnE_39]; exact hw_39_1
                  refine j_if_eq (pc := 129) (tgt := 136) C dX8_isName_129 (by decide) (fun c_40 => ?_) (fun c_40 => ?_)
                  · skip
                    have el_0 : (0 : Int32).toInt = 0 := rfl
                    rw [i_eq] at c_40
                    refine j_iconst (pc := 136) (v := 0) C dX8_isName_136 (by decide) ?_
                    have el_0 : (0 : Int32).toInt = 0 := rfl
                    exact j_lv [0, 1] rfl (join_2 (0) (by omega) ⟨fun _ k h1 h2 => by rcases (by omega : k = 6 ∨ k = 7 ∨ k = 8 ∨ k = 9 ∨ k = 10 ∨ k = 11 ∨ k = 12 ∨ k = 13) with h9 | h9 | h9 | h9 | h9 | h9 | h9 | h9; (rw [h9]; have z9 := hW_u_17; omega); (rw [h9]; have z9 := hW_u_20; omega); (rw [h9]; have z9 := hW_u_23; omega); (rw [h9]; have z9 := hW_u_26; omega); (rw [h9]; have z9 := hW_u_29; omega); (rw [h9]; have z9 := hW_u_32; omega); (rw [h9]; have z9 := hW_u_35; omega); (rw [h9]; have z9 := hW_u_38; omega), fun z => absurd z (by decide)⟩)
                  · skip
                    have el_0 : (0 : Int32).toInt = 0 := rfl
                    rw [i_eq] at c_40
                    have k0c_40 : ((u_38.2.1 0)).toInt = 1 := by omega
                    refine j_iconst (pc := 132) (v := 1) C dX8_isName_132 (by decide) ?_
                    refine j_goto (pc := 133) (tgt := 137) C dX8_isName_133 (by decide) ?_
                    have el_1 : (1 : Int32).toInt = 1 := rfl
                    exact j_lv [0, 1] rfl (join_2 (1) (by omega) (NJ.yes 13 (by omega) (by have z9 := hW_u_38; omega) (by decide)))
  refine j_aload_n (pc := 0) C dX8_isName_0 rfl 0 rfl ?_
  refine j_ldcS (pc := 1) (i := 26) C (by decide) rfl dX8_isName_1 ?_
  refine j_callV (pc := 3) (As := [.ref (D.2.1 26)]) (rest := []) (wr := []) C (c_X8_isWord_f l D cyC cyI cyJ cyZ cyO t0 t1 26 t_length t_next t_kind t_place t_number t_text h_t_length h_t_next h_t_kind h_t_place h_t_text (by decide) ⟨by decide, by decide, by decide⟩ hTH) wd_288 wd_258 wd_289 wd_290 wd_291 ⟨by decide, by decide, rfl⟩ rfl ⟨rfl, rfl, by decide, by decide⟩ ⟨by decide, by decide⟩ [0, 1] [] rfl rfl ⟨by decide, by decide, by decide⟩ 0 rfl rfl rfl (Nat.le_of_ble_eq_true rfl) dX8_isName_3 (fun u_41 hw_42 => ?_)
  refine j_eq (ws2 := [(t0, .inr (8, [.ref t1, .int t_length, .int t_next, .int t_kind, .int t_place, .int t_number])), (t1, .inl (cyC, 1000, .inl t_text))]) (pc2 := 6) (lv2 := [(0, .ref t0)]) (st2 := [.int (u_41.2.1 0)]) rfl rfl rfl rfl ?_
  obtain ⟨hw_42_0, hw_42_1⟩ := hw_42
  have hW_u_41 : (u_41.2.1 0).toInt = wI (TKS t_text (t_length).toInt.toNat) (t_place).toInt.toNat (WN 0) := by rw [← wnE_26]; exact hw_42_1
  refine j_if_ne (pc := 6) (tgt := 54) C dX8_isName_6 (by decide) (fun c_43 => ?_) (fun c_43 => ?_)
  · skip
    have el_0 : (0 : Int32).toInt = 0 := rfl
    rw [i_eq] at c_43
    have k0c_43 : ((u_41.2.1 0)).toInt = 1 := by omega
    refine j_iconst (pc := 54) (v := 1) C dX8_isName_54 (by decide) ?_
    refine j_goto (pc := 55) (tgt := 59) C dX8_isName_55 (by decide) ?_
    have el_1 : (1 : Int32).toInt = 1 := rfl
    exact j_lv [0] rfl (join_1 (1) (by omega) (NJ.yes 0 (by omega) (by have z9 := hW_u_41; omega) (by decide)))
  · skip
    have el_0 : (0 : Int32).toInt = 0 := rfl
    rw [i_eq] at c_43
    refine j_aload_n (pc := 9) C dX8_isName_9 rfl 0 rfl ?_
    refine j_ldcS (pc := 10) (i := 27) C (by decide) rfl dX8_isName_10 ?_
    refine j_callV (pc := 12) (As := [.ref (D.2.1 27)]) (rest := []) (wr := []) C (c_X8_isWord_f l D cyC cyI cyJ cyZ cyO t0 t1 27 t_length t_next t_kind t_place t_number t_text h_t_length h_t_next h_t_kind h_t_place h_t_text (by decide) ⟨by decide, by decide, by decide⟩ hTH) wd_288 wd_258 wd_289 wd_290 wd_291 ⟨by decide, by decide, rfl⟩ rfl ⟨rfl, rfl, by decide, by decide⟩ ⟨by decide, by decide⟩ [0, 1] [] rfl rfl ⟨by decide, by decide, by decide⟩ 0 rfl rfl rfl (Nat.le_of_ble_eq_true rfl) dX8_isName_12 (fun u_44 hw_45 => ?_)
    refine j_eq (ws2 := [(t0, .inr (8, [.ref t1, .int t_length, .int t_next, .int t_kind, .int t_place, .int t_number])), (t1, .inl (cyC, 1000, .inl t_text))]) (pc2 := 15) (lv2 := [(0, .ref t0)]) (st2 := [.int (u_44.2.1 0)]) rfl rfl rfl rfl ?_
    obtain ⟨hw_45_0, hw_45_1⟩ := hw_45
    have hW_u_44 : (u_44.2.1 0).toInt = wI (TKS t_text (t_length).toInt.toNat) (t_place).toInt.toNat (WN 1) := by rw [← wnE_27]; exact hw_45_1
    refine j_if_ne (pc := 15) (tgt := 54) C dX8_isName_15 (by decide) (fun c_46 => ?_) (fun c_46 => ?_)
    · skip
      have el_0 : (0 : Int32).toInt = 0 := rfl
      rw [i_eq] at c_46
      have k0c_46 : ((u_44.2.1 0)).toInt = 1 := by omega
      refine j_iconst (pc := 54) (v := 1) C dX8_isName_54 (by decide) ?_
      refine j_goto (pc := 55) (tgt := 59) C dX8_isName_55 (by decide) ?_
      have el_1 : (1 : Int32).toInt = 1 := rfl
      exact j_lv [0] rfl (join_1 (1) (by omega) (NJ.yes 1 (by omega) (by have z9 := hW_u_44; omega) (by decide)))
    · skip
      have el_0 : (0 : Int32).toInt = 0 := rfl
      rw [i_eq] at c_46
      refine j_aload_n (pc := 18) C dX8_isName_18 rfl 0 rfl ?_
      refine j_ldcS (pc := 19) (i := 28) C (by decide) rfl dX8_isName_19 ?_
      refine j_callV (pc := 21) (As := [.ref (D.2.1 28)]) (rest := []) (wr := []) C (c_X8_isWord_f l D cyC cyI cyJ cyZ cyO t0 t1 28 t_length t_next t_kind t_place t_number t_text h_t_length h_t_next h_t_kind h_t_place h_t_text (by decide) ⟨by decide, by decide, by decide⟩ hTH) wd_288 wd_258 wd_289 wd_290 wd_291 ⟨by decide, by decide, rfl⟩ rfl ⟨rfl, rfl, by decide, by decide⟩ ⟨by decide, by decide⟩ [0, 1] [] rfl rfl ⟨by decide, by decide, by decide⟩ 0 rfl rfl rfl (Nat.le_of_ble_eq_true rfl) dX8_isName_21 (fun u_47 hw_48 => ?_)
      refine j_eq (ws2 := [(t0, .inr (8, [.ref t1, .int t_length, .int t_next, .int t_kind, .int t_place, .int t_number])), (t1, .inl (cyC, 1000, .inl t_text))]) (pc2 := 24) (lv2 := [(0, .ref t0)]) (st2 := [.int (u_47.2.1 0)]) rfl rfl rfl rfl ?_
      obtain ⟨hw_48_0, hw_48_1⟩ := hw_48
      have hW_u_47 : (u_47.2.1 0).toInt = wI (TKS t_text (t_length).toInt.toNat) (t_place).toInt.toNat (WN 2) := by rw [← wnE_28]; exact hw_48_1
      refine j_if_ne (pc := 24) (tgt := 54) C dX8_isName_24 (by decide) (fun c_49 => ?_) (fun c_49 => ?_)
      · skip
        have el_0 : (0 : Int32).toInt = 0 := rfl
        rw [i_eq] at c_49
        have k0c_49 : ((u_47.2.1 0)).toInt = 1 := by omega
        refine j_iconst (pc := 54) (v := 1) C dX8_isName_54 (by decide) ?_
        refine j_goto (pc := 55) (tgt := 59) C dX8_isName_55 (by decide) ?_
        have el_1 : (1 : Int32).toInt = 1 := rfl
        exact j_lv [0] rfl (join_1 (1) (by omega) (NJ.yes 2 (by omega) (by have z9 := hW_u_47; omega) (by decide)))
      · skip
        have el_0 : (0 : Int32).toInt = 0 := rfl
        rw [i_eq] at c_49
        refine j_aload_n (pc := 27) C dX8_isName_27 rfl 0 rfl ?_
        refine j_ldcS (pc := 28) (i := 29) C (by decide) rfl dX8_isName_28 ?_
        refine j_callV (pc := 30) (As := [.ref (D.2.1 29)]) (rest := []) (wr := []) C (c_X8_isWord_f l D cyC cyI cyJ cyZ cyO t0 t1 29 t_length t_next t_kind t_place t_number t_text h_t_length h_t_next h_t_kind h_t_place h_t_text (by decide) ⟨by decide, by decide, by decide⟩ hTH) wd_288 wd_258 wd_289 wd_290 wd_291 ⟨by decide, by decide, rfl⟩ rfl ⟨rfl, rfl, by decide, by decide⟩ ⟨by decide, by decide⟩ [0, 1] [] rfl rfl ⟨by decide, by decide, by decide⟩ 0 rfl rfl rfl (Nat.le_of_ble_eq_true rfl) dX8_isName_30 (fun u_50 hw_51 => ?_)
        refine j_eq (ws2 := [(t0, .inr (8, [.ref t1, .int t_length, .int t_next, .int t_kind, .int t_place, .int t_number])), (t1, .inl (cyC, 1000, .inl t_text))]) (pc2 := 33) (lv2 := [(0, .ref t0)]) (st2 := [.int (u_50.2.1 0)]) rfl rfl rfl rfl ?_
        obtain ⟨hw_51_0, hw_51_1⟩ := hw_51
        have hW_u_50 : (u_50.2.1 0).toInt = wI (TKS t_text (t_length).toInt.toNat) (t_place).toInt.toNat (WN 3) := by rw [← wnE_29]; exact hw_51_1
        refine j_if_ne (pc := 33) (tgt := 54) C dX8_isName_33 (by decide) (fun c_52 => ?_) (fun c_52 => ?_)
        · skip
          have el_0 : (0 : Int32).toInt = 0 := rfl
          rw [i_eq] at c_52
          have k0c_52 : ((u_50.2.1 0)).toInt = 1 := by omega
          refine j_iconst (pc := 54) (v := 1) C dX8_isName_54 (by decide) ?_
          refine j_goto (pc := 55) (tgt := 59) C dX8_isName_55 (by decide) ?_
          have el_1 : (1 : Int32).toInt = 1 := rfl
          exact j_lv [0] rfl (join_1 (1) (by omega) (NJ.yes 3 (by omega) (by have z9 := hW_u_50; omega) (by decide)))
        · skip
          have el_0 : (0 : Int32).toInt = 0 := rfl
          rw [i_eq] at c_52
          refine j_aload_n (pc := 36) C dX8_isName_36 rfl 0 rfl ?_
          refine j_ldcS (pc := 37) (i := 30) C (by decide) rfl dX8_isName_37 ?_
          refine j_callV (pc := 39) (As := [.ref (D.2.1 30)]) (rest := []) (wr := []) C (c_X8_isWord_f l D cyC cyI cyJ cyZ cyO t0 t1 30 t_length t_next t_kind t_place t_number t_text h_t_length h_t_next h_t_kind h_t_place h_t_text (by decide) ⟨by decide, by decide, by decide⟩ hTH) wd_288 wd_258 wd_289 wd_290 wd_291 ⟨by decide, by decide, rfl⟩ rfl ⟨rfl, rfl, by decide, by decide⟩ ⟨by decide, by decide⟩ [0, 1] [] rfl rfl ⟨by decide, by decide, by decide⟩ 0 rfl rfl rfl (Nat.le_of_ble_eq_true rfl) dX8_isName_39 (fun u_53 hw_54 => ?_)
          refine j_eq (ws2 := [(t0, .inr (8, [.ref t1, .int t_length, .int t_next, .int t_kind, .int t_place, .int t_number])), (t1, .inl (cyC, 1000, .inl t_text))]) (pc2 := 42) (lv2 := [(0, .ref t0)]) (st2 := [.int (u_53.2.1 0)]) rfl rfl rfl rfl ?_
          obtain ⟨hw_54_0, hw_54_1⟩ := hw_54
          have hW_u_53 : (u_53.2.1 0).toInt = wI (TKS t_text (t_length).toInt.toNat) (t_place).toInt.toNat (WN 4) := by rw [← wnE_30]; exact hw_54_1
          refine j_if_ne (pc := 42) (tgt := 54) C dX8_isName_42 (by decide) (fun c_55 => ?_) (fun c_55 => ?_)
          · skip
            have el_0 : (0 : Int32).toInt = 0 := rfl
            rw [i_eq] at c_55
            have k0c_55 : ((u_53.2.1 0)).toInt = 1 := by omega
            refine j_iconst (pc := 54) (v := 1) C dX8_isName_54 (by decide) ?_
            refine j_goto (pc := 55) (tgt := 59) C dX8_isName_55 (by decide) ?_
            have el_1 : (1 : Int32).toInt = 1 := rfl
            exact j_lv [0] rfl (join_1 (1) (by omega) (NJ.yes 4 (by omega) (by have z9 := hW_u_53; omega) (by decide)))
          · skip
            have el_0 : (0 : Int32).toInt = 0 := rfl
            rw [i_eq] at c_55
            refine j_aload_n (pc := 45) C dX8_isName_45 rfl 0 rfl ?_
            refine j_ldcS (pc := 46) (i := 31) C (by decide) rfl dX8_isName_46 ?_
            refine j_callV (pc := 48) (As := [.ref (D.2.1 31)]) (rest := []) (wr := []) C (c_X8_isWord_f l D cyC cyI cyJ cyZ cyO t0 t1 31 t_length t_next t_kind t_place t_number t_text h_t_length h_t_next h_t_kind h_t_place h_t_text (by decide) ⟨by decide, by decide, by decide⟩ hTH) wd_288 wd_258 wd_289 wd_290 wd_291 ⟨by decide, by decide, rfl⟩ rfl ⟨rfl, rfl, by decide, by decide⟩ ⟨by decide, by decide⟩ [0, 1] [] rfl rfl ⟨by decide, by decide, by decide⟩ 0 rfl rfl rfl (Nat.le_of_ble_eq_true rfl) dX8_isName_48 (fun u_56 hw_57 => ?_)
            refine j_eq (ws2 := [(t0, .inr (8, [.ref t1, .int t_length, .int t_next, .int t_kind, .int t_place, .int t_number])), (t1, .inl (cyC, 1000, .inl t_text))]) (pc2 := 51) (lv2 := [(0, .ref t0)]) (st2 := [.int (u_56.2.1 0)]) rfl rfl rfl rfl ?_
            obtain ⟨hw_57_0, hw_57_1⟩ := hw_57
            have hW_u_56 : (u_56.2.1 0).toInt = wI (TKS t_text (t_length).toInt.toNat) (t_place).toInt.toNat (WN 5) := by rw [← wnE_31]; exact hw_57_1
            refine j_if_eq (pc := 51) (tgt := 58) C dX8_isName_51 (by decide) (fun c_58 => ?_) (fun c_58 => ?_)
            · skip
              have el_0 : (0 : Int32).toInt = 0 := rfl
              rw [i_eq] at c_58
              refine j_iconst (pc := 58) (v := 0) C dX8_isName_58 (by decide) ?_
              have el_0 : (0 : Int32).toInt = 0 := rfl
              exact j_lv [0] rfl (join_1 (0) (by omega) ⟨fun _ k h1 h2 => by rcases (by omega : k = 0 ∨ k = 1 ∨ k = 2 ∨ k = 3 ∨ k = 4 ∨ k = 5) with h9 | h9 | h9 | h9 | h9 | h9; (rw [h9]; have z9 := hW_u_41; omega); (rw [h9]; have z9 := hW_u_44; omega); (rw [h9]; have z9 := hW_u_47; omega); (rw [h9]; have z9 := hW_u_50; omega); (rw [h9]; have z9 := hW_u_53; omega); (rw [h9]; have z9 := hW_u_56; omega), fun z => absurd z (by decide)⟩)
            · skip
              have el_0 : (0 : Int32).toInt = 0 := rfl
              rw [i_eq] at c_58
              have k0c_58 : ((u_56.2.1 0)).toInt = 1 := by omega
              refine j_iconst (pc := 54) (v := 1) C dX8_isName_54 (by decide) ?_
              refine j_goto (pc := 55) (tgt := 59) C dX8_isName_55 (by decide) ?_
              have el_1 : (1 : Int32).toInt = 1 := rfl
              exact j_lv [0] rfl (join_1 (1) (by omega) (NJ.yes 5 (by omega) (by have z9 := hW_u_56; omega) (by decide)))
