theorem wd_603 : Cond.classLink RX10 302 "java/util/NoSuchElementException" ∈ WALL := wl_in (by decide +kernel) (by decide +kernel)
theorem wd_604 : Cond.initialized "java/util/NoSuchElementException" ∈ WALL := wl_in (by decide +kernel) (by decide +kernel)
theorem dX10_whole_0 : decode cX10_whole 0 = .ok (.aload_n 0, 1) := by decide +kernel
theorem dX10_whole_1 : decode cX10_whole 1 = .ok (.getfield 19, 3) := by decide +kernel
theorem dX10_whole_4 : decode cX10_whole 4 = .ok (.iload_n 1, 1) := by decide +kernel
theorem dX10_whole_5 : decode cX10_whole 5 = .ok (.invokevirtual 112, 3) := by decide +kernel
theorem dX10_whole_8 : decode cX10_whole 8 = .ok (.ifCond .eq 12, 3) := by decide +kernel
theorem dX10_whole_20 : decode cX10_whole 20 = .ok (.new 302, 3) := by decide +kernel
theorem dX10_whole_23 : decode cX10_whole 23 = .ok (.dup, 1) := by decide +kernel
theorem dX10_whole_24 : decode cX10_whole 24 = .ok (.ldc_w 304, 3) := by decide +kernel
theorem dX10_whole_27 : decode cX10_whole 27 = .ok (.invokespecial 306, 3) := by decide +kernel
theorem dX10_whole_30 : decode cX10_whole 30 = .ok (.athrow, 1) := by decide +kernel
abbrev XN : String := "java/util/NoSuchElementException"
theorem xw_good : ∀ w ∈ ((ownX RX10 306 "java/util/NoSuchElementException" ["java/lang/RuntimeException", "java/lang/Exception"] 13 prog_30_method_4_code).filter vx_no).filter goodWord, w ∈ lw_tbl := by decide +kernel
theorem xw_ng : ∀ w ∈ ((ownX RX10 306 "java/util/NoSuchElementException" ["java/lang/RuntimeException", "java/lang/Exception"] 13 prog_30_method_4_code).filter vx_no).filter (fun w => !goodWord w), w ∈ ([.declares (Bundle.initS "java/lang/RuntimeException"), .declares (Bundle.initS "java/lang/Exception"), .declares (Bundle.initS Bundle.tN), .castable XN XN] : List Cond) := by decide +kernel
theorem xw_ot : ∀ w ∈ Cond.classLink RX10 302 XN :: Cond.initialized XN :: (ownX RX10 306 "java/util/NoSuchElementException" ["java/lang/RuntimeException", "java/lang/Exception"] 13 prog_30_method_4_code).filter vx_no, vx_ot w = true := by decide +kernel
theorem xw_0 : decode prog_30_method_4_code 0 = .ok (.aload_n 0, 1) := by decide +kernel
theorem xw_1 : decode prog_30_method_4_code 1 = .ok (.aload_n 1, 1) := by decide +kernel
theorem xw_2 : decode prog_30_method_4_code 2 = .ok (.invokespecial 13, 3) := by decide +kernel
theorem xw_5 : decode prog_30_method_4_code 5 = .ok (.return_, 1) := by decide +kernel
/-- what the throw needs of a state: the text's constant, words that aren't good, the statics of Throwable -/
def EX (sa : Nat) (A : Nat → Prop) (U : State) : Prop := vk_R RX10 304 "no such ware or part" sa U ∧ va_Nw (.declares (Bundle.initS "java/lang/RuntimeException")) U ∧ va_Nw (.declares (Bundle.initS "java/lang/Exception")) U ∧ va_Nw (.declares (Bundle.initS Bundle.tN)) U ∧ va_Nw (.castable XN XN) U ∧ vx_Zq Bundle.tN "UNASSIGNED_STACK" Bundle.steD A U U.heap ∧ vx_Zq Bundle.tN "SUPPRESSED_SENTINEL" Bundle.listD A U U.heap
theorem EX.down {sa : Nat} {A B : Nat → Prop} {s U : State} {H : Heap} {locs : List Loc} (h : EX sa A s) (hS : va_S A s.heap H locs) (hU : U.heap = H) (hW : s.WarmedH U.vm) (hB : ∀ q, B q → A q) : EX sa B U := by
  obtain ⟨h1, h2, h3, h4, h5, h6, h7⟩ := h
  refine ⟨vk_R.warm hW h1, va_Nw.warmD hW h2, va_Nw.warmD hW h3, va_Nw.warmD hW h4, va_Nw.warmC hW h5, ?_, ?_⟩
  · rw [hU]; exact ((h6.kept hS.2.1).moved hW.alike).narrow hB
  · rw [hU]; exact ((h7.kept hS.2.1).moved hW.alike).narrow hB
theorem EX.blind {sa : Nat} {A : Nat → Prop} {U V : State} (hv : V.vm = U.vm) (hh : V.heap = U.heap) (h : EX sa A U) : EX sa A V := by
  obtain ⟨h1, h2, h3, h4, h5, h6, h7⟩ := h
  have al : U.vm.Alike V.vm := by rw [hv]; exact Vm.Alike.refl _
  exact ⟨vk_R.same hv h1, va_Nw.same rfl hv.symm h2, va_Nw.same rfl hv.symm h3, va_Nw.same rfl hv.symm h4, va_Nw.same rfl hv.symm h5, by rw [hh]; exact h6.moved al, by rw [hh]; exact h7.moved al⟩
theorem EX.words {sa : Nat} {A : Nat → Prop} {s : State} {args : Array Value} (h : EX sa A s) (hw : ∀ w ∈ WALL, w.before args s = true) : ∀ w ∈ (ownX RX10 306 "java/util/NoSuchElementException" ["java/lang/RuntimeException", "java/lang/Exception"] 13 prog_30_method_4_code).filter vx_no, w.before args s = true :=
  vx_hat (fun w h => hw w (wl_in (xw_good w h) (List.mem_filter.mp h).2)) xw_ng (vx_c (va_Nw.use rfl h.2.1) (vx_c (va_Nw.use rfl h.2.2.1) (vx_c (va_Nw.use rfl h.2.2.2.1) (vx_c (va_Nw.use rfl h.2.2.2.2.1) vx_n))))
def PreX (D : va_G) (tys : List (ClassId × FieldType)) (As : List Value) (wc : va_W) (sz sa : Nat) : Array Value → State → Prop := fun a U => PreK D tys As wc sz a U ∧ EX sa (va_A wc sz) U
theorem preX_blind {D : va_G} {tys : List (ClassId × FieldType)} (As : List Value) (wc : va_W) (sz sa : Nat) : FrameBlind (PreX D tys As wc sz sa) := fun a U g mk q => ⟨preK_blind As wc sz a U g mk q.1, EX.blind (V := U.calling g mk a) (U := U) rfl rfl q.2⟩

set_option maxHeartbeats 4000000 in
set_option maxRecDepth 100000 in
theorem cx_whole (l : Launch) (htr : l.stackTraces = false) (D : va_G) (cyC cyI cyJ cyZ cyO : ClassId) (sa sz : Nat) (p0 p1 : Int32) (t0 : Nat) (t1 : Nat) (t21 : Nat) (t32 : Nat) (t37 : Nat) (t42 : Nat) (t43 : Nat) (t45 : Nat) (t50 : Nat) (t54 : Nat) (t58 : Nat) (t22 : Nat) (t23 : Nat) (t24 : Nat) (t25 : Nat) (t26 : Nat) (t27 : Nat) (t28 : Nat) (t29 : Nat) (t30 : Nat) (t31 : Nat) : vx_Met l yX10_whole (Cond.code yX10_whole cX10_whole 4 (some .long) :: WALL) ({ frames := 6, cells := 1, slots := 6, locals := 90 } : Room) (PreX D (TY cyC cyI cyJ cyZ cyO) [.ref t0, .int p0, .int p1] [(t0, .inr (10, [.ref t1, .ref t21, .ref t32, .ref t37, .ref t42, .ref t43, .ref t45, .ref t50, .ref t54, .ref t58])), (t21, .inr (9, [.int 0, .int 0, .int 0, .ref t22, .ref t23, .ref t24, .ref t25, .ref t26, .ref t27, .int 0, .int 0, .ref t28, .ref t29, .ref t30, .ref t31]))] sz sa) (fun _ _ _ _ => False) (fun E st t => E = XN ∧ va_F (va_A [(t0, .inr (10, [.ref t1, .ref t21, .ref t32, .ref t37, .ref t42, .ref t43, .ref t45, .ref t50, .ref t54, .ref t58])), (t21, .inr (9, [.int 0, .int 0, .int 0, .ref t22, .ref t23, .ref t24, .ref t25, .ref t26, .ref t27, .int 0, .int 0, .ref t28, .ref t29, .ref t30, .ref t31]))] sz) st t) 1 6 (va_A [(t0, .inr (10, [.ref t1, .ref t21, .ref t32, .ref t37, .ref t42, .ref t43, .ref t45, .ref t50, .ref t54, .ref t58])), (t21, .inr (9, [.int 0, .int 0, .int 0, .ref t22, .ref t23, .ref t24, .ref t25, .ref t26, .ref t27, .int 0, .int 0, .ref t28, .ref t29, .ref t30, .ref t31]))] sz) := by
  refine vx_ofW (cc := cX10_whole) (maxL := 4) (ret := some .long) (by decide) rfl ?_
  intro p e s m args below meth c s₁ B hml htab hv
  obtain ⟨⟨rfl, hsz, hP, hK, hD0, hN⟩, hE⟩ := hv
  have hts := atoms_spec (ws := Cond.code yX10_whole cX10_whole 4 (some .long) :: WALL) B.pre
  subst hsz
  have hl := lv_entry [.ref t0, .int p0, .int p1] (n := 4) (Nat.le_of_ble_eq_true rfl)
  rw [lg_entry_eq]
  have hk := B.notSynchronized
  generalize hAe : va_A [(t0, .inr (10, [.ref t1, .ref t21, .ref t32, .ref t37, .ref t42, .ref t43, .ref t45, .ref t50, .ref t54, .ref t58])), (t21, .inr (9, [.int 0, .int 0, .int 0, .ref t22, .ref t23, .ref t24, .ref t25, .ref t26, .ref t27, .int 0, .int 0, .ref t28, .ref t29, .ref t30, .ref t31]))] s.heap.size = A at hE ⊢
  have C : CX p ({ frames := 6, cells := 1, slots := 6, locals := 90 } : Room) s m _ meth c cX10_whole yX10_whole.cls 4 D (TY cyC cyI cyJ cyZ cyO) A := ⟨B.exec, B.bytes, hml, findClass_of_methodNamed B.named, fun w h => hts w (List.mem_cons_of_mem _ h), hK, hN, fun q h => by rw [← hAe]; exact Or.inr h⟩
  have hD : va_D A [(t0, .inr (10, [.ref t1, .ref t21, .ref t32, .ref t37, .ref t42, .ref t43, .ref t45, .ref t50, .ref t54, .ref t58])), (t21, .inr (9, [.int 0, .int 0, .int 0, .ref t22, .ref t23, .ref t24, .ref t25, .ref t26, .ref t27, .int 0, .int 0, .ref t28, .ref t29, .ref t30, .ref t31]))] := by rw [← hAe]; exact hD0.self
  refine (?_ : J p l e ({ frames := 6, cells := 1, slots := 6, locals := 90 } : Room) s m _ below meth c D A 4 0 0 _ [(t0, .inr (10, [.ref t1, .ref t21, .ref t32, .ref t37, .ref t42, .ref t43, .ref t45, .ref t50, .ref t54, .ref t58])), (t21, .inr (9, [.int 0, .int 0, .int 0, .ref t22, .ref t23, .ref t24, .ref t25, .ref t26, .ref t27, .int 0, .int 0, .ref t28, .ref t29, .ref t30, .ref t31]))] 0 [(0, .ref t0), (1, .int p0), (2, .int p1)] []) s.heap [] _ hP hD va_S.rf hl
  refine j_aload_n (pc := 0) C dX10_whole_0 rfl 0 rfl ?_
  refine j_get (pc := 1) (ci := 10) (v := .ref t21) C inw_10 0 rfl rfl 1 (by decide) wd_77 rfl rfl dX10_whole_1 ?_
  refine j_iload_n (pc := 4) C dX10_whole_4 rfl 1 rfl ?_
  refine j_callV (pc := 5) (As := [.int p0]) (rest := []) (wr := [(t0, .inr (10, [.ref t1, .ref t21, .ref t32, .ref t37, .ref t42, .ref t43, .ref t45, .ref t50, .ref t54, .ref t58]))]) C (c_X9_isWare l D cyC cyI cyJ cyZ cyO p0 t21 t22 t23 t24 t25 t26 t27 t28 t29 t30 t31) wd_175 wd_39 wd_176 wd_177 wd_178 ⟨by decide, by decide, rfl⟩ rfl ⟨rfl, rfl, by decide, by decide⟩ ⟨by decide, by decide⟩ [1] [0] rfl rfl ⟨by decide, by decide, by decide⟩ 1 rfl rfl rfl (Nat.le_of_ble_eq_true rfl) dX10_whole_5 (fun u_1 hw_2 => ?_)
  refine j_eq (ws2 := [(t0, .inr (10, [.ref t1, .ref t21, .ref t32, .ref t37, .ref t42, .ref t43, .ref t45, .ref t50, .ref t54, .ref t58])), (t21, .inr (9, [.int 0, .int 0, .int 0, .ref t22, .ref t23, .ref t24, .ref t25, .ref t26, .ref t27, .int 0, .int 0, .ref t28, .ref t29, .ref t30, .ref t31]))]) (pc2 := 8) (lv2 := [(0, .ref t0), (1, .int p0), (2, .int p1)]) (st2 := [.int 0]) rfl rfl rfl rfl ?_
  refine j_if_eq_t (pc := 8) (tgt := 20) C dX10_whole_8 (by decide) (by decide) ?_
  intro H locs ls hP hD hS hl
  exact vx_throwX (own := RX10) (cls := XN) (text := "no such ware or part") (names := ["java/lang/RuntimeException", "java/lang/Exception"]) (ik := 302) (is := 304) (ic := 306) (ix := 13) (rx := prog_30_method_4_code) (sa := sa) (A := A) (pc := 20) C.1 C.2.1 htr xw_0 xw_1 xw_2 xw_5 C.2.2.2.1 (by decide) (by decide) (C.2.2.2.2.1 _ wd_603) (C.2.2.2.2.1 _ wd_604) hE.1 (hE.words C.2.2.2.2.1) xw_ot hE.2.2.2.2.2.1 hE.2.2.2.2.2.2 hS (hl.1.trans C.2.2.1.symm) dX10_whole_20 dX10_whole_23 dX10_whole_24 dX10_whole_27 dX10_whole_30 (fun x hx => (htab x hx).elim) (by decide) (Nat.le_of_ble_eq_true rfl) (by decide) (by decide) hk (fun t hal hsz hkk => ⟨rfl, Nat.le_trans hS.1 hsz, fun q h1 h2 => (hkk q (Nat.lt_of_lt_of_le h1 hS.1)).trans (hS.2.1 q h1 h2)⟩) (fun z hz => hS.2.2 z hz) (by decide) (by decide)
