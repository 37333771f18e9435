theorem wd_605 : Cond.code yX10_whole cX10_whole 4 (some .long) ∈ WALL := wl_in (by decide +kernel) (by decide +kernel)
theorem wd_606 : Cond.codeWith yL_whole cL_whole 5 (some .int) [(0, 9, 12, 13)] ∈ WALL := wl_in (by decide +kernel) (by decide +kernel)
theorem wd_607 : Cond.methodLink RL 7 yX10_whole ∈ WALL := wl_in (by decide +kernel) (by decide +kernel)
theorem wd_608 : Cond.instanceMethod yX10_whole ∈ WALL := wl_in (by decide +kernel) (by decide +kernel)
theorem wd_609 : Cond.selects RX10 yX10_whole yX10_whole ∈ WALL := wl_in (by decide +kernel) (by decide +kernel)
theorem wd_610 : Cond.classLink RL 13 "java/util/NoSuchElementException" ∈ WALL := wl_in (by decide +kernel) (by decide +kernel)
theorem dL_whole_0 : decode cL_whole 0 = .ok (.aload_n 3, 1) := by decide +kernel
theorem dL_whole_1 : decode cL_whole 1 = .ok (.iconst 0, 1) := by decide +kernel
theorem dL_whole_2 : decode cL_whole 2 = .ok (.aload_n 0, 1) := by decide +kernel
theorem dL_whole_3 : decode cL_whole 3 = .ok (.iload_n 1, 1) := by decide +kernel
theorem dL_whole_4 : decode cL_whole 4 = .ok (.iload_n 2, 1) := by decide +kernel
theorem dL_whole_5 : decode cL_whole 5 = .ok (.invokevirtual 7, 3) := by decide +kernel
theorem dL_whole_12 : decode cL_whole 12 = .ok (.astore 4, 2) := by decide +kernel
theorem dL_whole_14 : decode cL_whole 14 = .ok (.iconst 1, 1) := by decide +kernel
theorem dL_whole_15 : decode cL_whole 15 = .ok (.ireturn, 1) := by decide +kernel
theorem dX11_whole_0 : decode cX11_whole 0 = .ok (.aload_n 0, 1) := by decide +kernel
theorem dX11_whole_1 : decode cX11_whole 1 = .ok (.aload_n 0, 1) := by decide +kernel
theorem dX11_whole_2 : decode cX11_whole 2 = .ok (.iload_n 1, 1) := by decide +kernel
theorem dX11_whole_3 : decode cX11_whole 3 = .ok (.invokevirtual 277, 3) := by decide +kernel
theorem dX11_whole_6 : decode cX11_whole 6 = .ok (.ifCond .eq 26, 3) := by decide +kernel
theorem dX11_whole_32 : decode cX11_whole 32 = .ok (.iconst 1, 1) := by decide +kernel
theorem dX11_whole_33 : decode cX11_whole 33 = .ok (.putfield 1, 3) := by decide +kernel
theorem dX11_whole_36 : decode cX11_whole 36 = .ok (.aload_n 0, 1) := by decide +kernel
theorem dX11_whole_37 : decode cX11_whole 37 = .ok (.getfield 1, 3) := by decide +kernel
theorem dX11_whole_40 : decode cX11_whole 40 = .ok (.ifCond .le 5, 3) := by decide +kernel
theorem dX11_whole_43 : decode cX11_whole 43 = .ok (.lconst 0, 1) := by decide +kernel
theorem dX11_whole_44 : decode cX11_whole 44 = .ok (.lreturn, 1) := by decide +kernel
theorem dX11_thrown_0 : decode cX11_thrown 0 = .ok (.aload_n 0, 1) := by decide +kernel
theorem dX11_thrown_1 : decode cX11_thrown 1 = .ok (.getfield 1, 3) := by decide +kernel
theorem dX11_thrown_4 : decode cX11_thrown 4 = .ok (.ireturn, 1) := by decide +kernel
/-- a static method with a table of handlers, that needs what a throw needs -/
def KX (l : Launch) (D : va_G) (tys : List (ClassId × FieldType)) (y : MethodName) (bytes : ByteArray) (maxL : Nat) (rt : Option FieldType) (hh : List (Nat × Nat × Nat × Nat)) (rm : Room) (mc ms sa : Nat) (As : List Value) (wc : va_W) (ret : SU → Option Value) (post : SU → Prop) (w1 : SU → va_W) : Prop :=
  ∀ sz : Nat, Met l y (Cond.codeWith y bytes maxL rt hh :: WALL) rm (PreX D tys As wc sz sa) (Qx ret post (fun u t => EndK D tys (va_A wc sz) (w1 u) t) (va_A wc sz)) mc ms (va_A wc sz)
theorem j_callX {p : Program} {l : Launch} {e : Env} {R : Room} {s : State} {m : MethodId} {args : Array Value} {below : List Frame} {meth : Method} {c : Code} {cc : ByteArray} {own : String} {nL : Nat} {D : va_G} {tys : List (ClassId × FieldType)} {A : Nat → Prop} {cells slots : Nat} {Q : State → Prop} {ws : va_W} {pc : Nat} {lv : List (Nat × Value)} {rest st0 : List Value}
    (C : CX p R s m args meth c cc own nL D tys A) {y : MethodName} {bytes : ByteArray} {maxL ix n mc ms sa : Nat} {rt : Option FieldType} {hh : List (Nat × Nat × Nat × Nat)} {rm : Room} {As : List Value} {wc wr : va_W} {ret : SU → Option Value} {post : SU → Prop} {w1 : SU → va_W}
    (K : KX l D tys y bytes maxL rt hh rm mc ms sa As wc ret post w1) (hE : EX sa A s)
    (hcd : Cond.codeWith y bytes maxL rt hh ∈ WALL) (hini : Cond.initialized y.cls ∈ WALL) (hlk : Cond.methodLink own ix y ∈ WALL) (hsc : Cond.static y ∈ WALL)
    (hy : y.cls ≠ "java/lang/invoke/MethodHandle" ∧ y.cls ≠ "java/lang/invoke/VarHandle" ∧ (parseMethodDescriptor y.desc).map (fun d => d.parameters.length) = some n) (hnA : As.length = n)
    (hR : rm.cells = mc ∧ rm.slots = ms ∧ rm.frames + 1 ≤ R.frames ∧ 8 + (maxL + 11) + rm.locals ≤ R.locals) (hf : cells + mc ≤ R.cells ∧ slots + ms ≤ R.slots)
    (isC isR : List Nat) (hC : isC.map (fun i => ws[i]?) = wc.map some) (hRr : isR.map (fun i => ws[i]?) = wr.map some) (hnd : va_nd isC = true ∧ va_nd isR = true ∧ ∀ i ∈ isR, i ∉ isC)
    (hst : st0 = As.reverse ++ rest) (hrs : (rest.map fun v => v.category).sum ≤ 8) (hd : decode cc pc = .ok (.invokestatic ix, 3))
    (kk : ∀ u : SU, post u → J p l e R s m args below meth c D A nL (cells + mc) (slots + ms) Q (wr ++ w1 u) (pc + 3) lv ((ret u).toList ++ rest)) : J p l e R s m args below meth c D A nL cells slots Q ws pc lv st0 := fun H locs ls hP hD hS hl => by
  have hPc := hP.sub (ws' := wc) isC (fm_of hC)
  have hDc := hD.sub isC hnd.1 hC
  have hFc := va_free (wc := wc) hD hS C.2.2.2.2.2.2.2 isC hC
  have hts := C.2.2.2.2.1
  have hK := C.2.2.2.2.2.1
  have hG := wq_G hcd
  subst hst
  have cw : vx_CSW R s args own ix y bytes maxL rt hh (Cond.codeWith y bytes maxL rt hh :: WALL) rm mc ms n := by
    refine ⟨⟨hR.1, hR.2.1, hR.2.2.1, hR.2.2.2, pay_in hts hG, List.mem_cons_self⟩, hts _ hcd, hts _ hini, ⟨hy.1, hy.2.1⟩, fun sig h => ?_, hts _ hlk, hts _ hsc⟩
    have h2 := hy.2.2
    rw [h] at h2
    exact (Option.some.inj h2).symm
  refine call_x (vx_runSW (As := As) (rest := rest) ⟨C.1, C.2.1, C.2.2.1, C.2.2.2.1, hts⟩ (K H.size) cw ⟨preX_blind _ wc H.size sa, fun U hU hW => ⟨⟨rfl, by rw [hU], by rw [hU]; exact hPc, va_K.moved hW.alike hK, hDc.weaken (fun _ _ _ _ => trivial), NX.warm hW C.2.2.2.2.2.2.1⟩, hE.down hS hU hW hFc⟩⟩ rfl hnA hl.1 rfl (lv_room hrs) hd hf) hS (fun q _ h => hFc q h) hFc (fun u t H1 locs1 ht hvm hw hB hz1 hk1 hS1 => ?_)
  obtain ⟨hP1, hK1, hD1⟩ := hB
  rw [ht] at hP1
  obtain ⟨hP2, hD2⟩ := va_join hP hD isC isR hC hRr hnd.2.1 hnd.2.2 hk1 hFc hP1 hD1
  exact kk u hw H1 locs1 ls hP2 hD2 hS1 hl
set_option maxHeartbeats 4000000 in
set_option maxRecDepth 100000 in
theorem c_L_whole (l : Launch) (htr : l.stackTraces = false) (D : va_G) (cyC cyI cyJ cyZ cyO : ClassId) (sa : Nat) (p0 p1 : Int32) (o0 : Nat) (t0 : Nat) (t1 : Nat) (t21 : Nat) (t32 : Nat) (t37 : Nat) (t42 : Nat) (t43 : Nat) (t45 : Nat) (t50 : Nat) (t54 : Nat) (t58 : Nat) (t22 : Nat) (t23 : Nat) (t24 : Nat) (t25 : Nat) (t26 : Nat) (t27 : Nat) (t28 : Nat) (t29 : Nat) (t30 : Nat) (t31 : Nat) : KX l D (TY cyC cyI cyJ cyZ cyO) yL_whole cL_whole 5 (some .int) [(0, 9, 12, 13)] ({ frames := 7, cells := 1, slots := 6, locals := 113 } : Room) 1 6 sa [.ref t0, .int p0, .int p1, .ref o0] [(t0, .inr (10, [.ref t1, .ref t21, .ref t32, .ref t37, .ref t42, .ref t43, .ref t45, .ref t50, .ref t54, .ref t58])), (t21, .inr (9, [.int 0, .int 0, .int 0, .ref t22, .ref t23, .ref t24, .ref t25, .ref t26, .ref t27, .int 0, .int 0, .ref t28, .ref t29, .ref t30, .ref t31]))] (fun u => some (.int 1)) (fun u => True) (fun u => []) := by
  intro sz
  refine va_MetW (cc := cL_whole) (maxL := 5) (ret := some .int) (hh := [(0, 9, 12, 13)]) (by decide) rfl ?_
  intro p e s m args below meth c s₁ B hml hv
  obtain ⟨⟨rfl, hsz, hP, hK, hD0, hN⟩, hE⟩ := hv
  have hts := atoms_spec (ws := Cond.codeWith yL_whole cL_whole 5 (some .int) [(0, 9, 12, 13)] :: WALL) B.pre
  have htab := vx_table (x := yL_whole) B (hts _ List.mem_cons_self)
  subst hsz
  have hl := lv_entry [.ref t0, .int p0, .int p1, .ref o0] (n := 5) (Nat.le_of_ble_eq_true rfl)
  rw [lg_entry_eq]
  have hk := B.notSynchronized
  have hr := B.returns
  generalize hAe : va_A [(t0, .inr (10, [.ref t1, .ref t21, .ref t32, .ref t37, .ref t42, .ref t43, .ref t45, .ref t50, .ref t54, .ref t58])), (t21, .inr (9, [.int 0, .int 0, .int 0, .ref t22, .ref t23, .ref t24, .ref t25, .ref t26, .ref t27, .int 0, .int 0, .ref t28, .ref t29, .ref t30, .ref t31]))] s.heap.size = A at hE ⊢
  have C : CX p ({ frames := 7, cells := 1, slots := 6, locals := 113 } : Room) s m _ meth c cL_whole yL_whole.cls 5 D (TY cyC cyI cyJ cyZ cyO) A := ⟨B.exec, B.bytes, hml, findClass_of_methodNamed B.named, fun w h => hts w (List.mem_cons_of_mem _ h), hK, hN, fun q h => by rw [← hAe]; exact Or.inr h⟩
  have hD : va_D A [(t0, .inr (10, [.ref t1, .ref t21, .ref t32, .ref t37, .ref t42, .ref t43, .ref t45, .ref t50, .ref t54, .ref t58])), (t21, .inr (9, [.int 0, .int 0, .int 0, .ref t22, .ref t23, .ref t24, .ref t25, .ref t26, .ref t27, .int 0, .int 0, .ref t28, .ref t29, .ref t30, .ref t31]))] := by rw [← hAe]; exact hD0.self
  refine (?_ : J p l e ({ frames := 7, cells := 1, slots := 6, locals := 113 } : Room) s m _ below meth c D A 5 0 0 (QX below D (TY cyC cyI cyJ cyZ cyO) A (fun u => some (.int 1)) (fun u => True) (fun u => []) _ s 1 6) [(t0, .inr (10, [.ref t1, .ref t21, .ref t32, .ref t37, .ref t42, .ref t43, .ref t45, .ref t50, .ref t54, .ref t58])), (t21, .inr (9, [.int 0, .int 0, .int 0, .ref t22, .ref t23, .ref t24, .ref t25, .ref t26, .ref t27, .int 0, .int 0, .ref t28, .ref t29, .ref t30, .ref t31]))] 0 [(0, .ref t0), (1, .int p0), (2, .int p1), (3, .ref o0)] []) s.heap [] _ hP hD va_S.rf hl
  refine j_aload_n (pc := 0) C dL_whole_0 rfl 3 rfl ?_
  refine j_iconst (pc := 1) (v := 0) C dL_whole_1 (by decide) ?_
  refine j_aload_n (pc := 2) C dL_whole_2 rfl 0 rfl ?_
  refine j_iload_n (pc := 3) C dL_whole_3 rfl 1 rfl ?_
  refine j_iload_n (pc := 4) C dL_whole_4 rfl 2 rfl ?_
  intro H locs ls hP hD hS hl
  intro T hT X0
  have hts := C.2.2.2.2.1
  have hFc := va_free (wc := [(t0, .inr (10, [.ref t1, .ref t21, .ref t32, .ref t37, .ref t42, .ref t43, .ref t45, .ref t50, .ref t54, .ref t58])), (t21, .inr (9, [.int 0, .int 0, .int 0, .ref t22, .ref t23, .ref t24, .ref t25, .ref t26, .ref t27, .int 0, .int 0, .ref t28, .ref t29, .ref t30, .ref t31]))]) hD hS C.2.2.2.2.2.2.2 [0, 1] rfl
  rcases (vx_runV (As := [.int p0, .int p1]) (rest := [.int 0, .ref o0]) ⟨C.1, C.2.1, C.2.2.1, C.2.2.2.1, hts⟩ (cx_whole l htr D cyC cyI cyJ cyZ cyO sa H.size p0 p1 t0 t1 t21 t32 t37 t42 t43 t45 t50 t54 t58 t22 t23 t24 t25 t26 t27 t28 t29 t30 t31) ⟨callB_of 2 hts (wq_G wd_605) rfl rfl rfl (hts _ wd_180) (hts _ wd_607) ⟨by decide, by decide, rfl⟩ ⟨by decide, by decide⟩, hts _ wd_608, hts _ wd_609⟩ ⟨preX_blind _ _ _ _, va_recv C.2.2.2.2.2.1 hP (ci := 10) (q0 := 0) rfl rfl, fun U hU hW => ⟨⟨rfl, by rw [hU], by rw [hU]; exact hP, va_K.moved hW.alike C.2.2.2.2.2.1, hD.weaken (fun _ _ _ _ => trivial), NX.warm hW C.2.2.2.2.2.2.1⟩, hE.down hS hU hW hFc⟩⟩ rfl rfl hl.1 rfl (lv_room (Nat.le_of_ble_eq_true rfl)) dL_whole_5 ⟨by decide, by decide⟩) T hT X0 with ⟨v, st0, t, T', L, -, -, -, -, -, hno, -⟩ | ⟨q, st0, t, T', L, E, ce, h0, X', hL, e1, e2, ⟨rfl, hF⟩, hce, hcv, hcl, st⟩
  · exact hno.elim
  · obtain ⟨k1, k2, k3⟩ := vx_keep h0 e1 hS (fun q _ h => hFc q h) hFc hL hF
    have hJ : J p l e ({ frames := 7, cells := 1, slots := 6, locals := 113 } : Room) s m ([.ref t0, .int p0, .int p1, .ref o0] : List Value).toArray below meth c D A 5 (0 + 1) (0 + 6) (QX below D (TY cyC cyI cyJ cyZ cyO) A (fun u => some (.int 1)) (fun u => True) (fun u => []) ([.ref t0, .int p0, .int p1, .ref o0] : List Value).toArray s 1 6) [] 12 [(0, .ref t0), (1, .int p0), (2, .int p1), (3, .ref o0)] [.ref q] := by
      refine j_astore (pc := 12) (lv' := [(4, .ref q), (0, .ref t0), (1, .int p0), (2, .int p1), (3, .ref o0)]) C dL_whole_12 (by decide) rfl ?_
      refine j_iconst (pc := 14) (v := 1) C dL_whole_14 (by decide) ?_
      exact j_iret (pc := 15) C hr hk (fun _ => 0, fun _ => 0, fun _ _ => 0) rfl trivial [] (by decide) rfl (by decide) (by decide) dL_whole_15
    obtain ⟨t2, a1, b1⟩ := vx_catch (own := RL) (name := XN) (E := XN) (pc := 5) (ls := ls) (rest := [.int 0, .ref o0]) C.2.2.2.1 [] ⟨0, 9, 12, 13⟩ [] htab (fun z hz => by cases hz) (by decide) (by decide) (hts _ wd_610) (va_Nw.use rfl hE.2.2.2.2.1) (H := T'.heap) (by rw [e1]; exact hce) hcv hcl (hJ T'.heap (locs ++ L) ls (fun k q h => by simp at h) ⟨fun i j p q h => by simp at h, fun k q h => by simp at h⟩ k3 hl) T' rfl X'
    exact ⟨t2, st.trans a1, b1⟩
set_option maxHeartbeats 4000000 in
set_option maxRecDepth 100000 in
theorem c_X11_whole (l : Launch) (D : va_G) (cyC cyI cyJ cyZ cyO : ClassId) (p0 : Int32) (p1 : Int32) (g0 : Nat) (g1 : Nat) (g2 : Nat) (g3 : Nat) (g4 : Nat) (g5 : Nat) (g6 : Nat) (g7 : Nat) (g8 : Nat) (g9 : Nat) (g10 : Nat) (g11 : Nat) (g12 : Nat) (g13 : Nat) (g14 : Nat) (g15 : Nat) (g16 : Nat) (g17 : Nat) (g18 : Nat) (g19 : Nat) (g20 : Nat) (g21 : Nat) (g22 : Nat) (g23 : Nat) (g24 : Nat) (g25 : Nat) : KK l D (TY cyC cyI cyJ cyZ cyO) yX11_whole cX11_whole 10 (some .long) ({ frames := 2, cells := 0, slots := 0, locals := 41 } : Room) 0 0 [.ref g0, .int p0, .int p1] [(g0, .inr (11, [.int 0, .ref g1, .int 0, .int 0, .ref g2, .ref g3, .ref g4, .int 0, .int 0, .ref g5, .ref g6, .ref g7, .ref g8, .int 0, .ref g9, .ref g10, .int 1, .ref g11, .ref g12, .ref g13, .ref g14, .ref g15, .int 0, .int 0, .int 0, .ref g16, .int 0, .ref g17, .ref g18, .ref g19, .ref g20, .ref g21, .ref g22, .int 0, .int 0, .int 0, .ref g23, .ref g24, .int 0, .int 0, .int 0, .int 0, .ref g25])), (g6, .inl (cyI, 240, .inl (fun _ => 0)))] (fun u => some (.long 0)) (fun u => True) (fun u => [(g0, .inr (11, [.int 1, .ref g1, .int 0, .int 0, .ref g2, .ref g3, .ref g4, .int 0, .int 0, .ref g5, .ref g6, .ref g7, .ref g8, .int 0, .ref g9, .ref g10, .int 1, .ref g11, .ref g12, .ref g13, .ref g14, .ref g15, .int 0, .int 0, .int 0, .ref g16, .int 0, .ref g17, .ref g18, .ref g19, .ref g20, .ref g21, .ref g22, .int 0, .int 0, .int 0, .ref g23, .ref g24, .int 0, .int 0, .int 0, .int 0, .ref g25])), (g6, .inl (cyI, 240, .inl (fun _ => 0)))]) := by
  refine KK.of (lv0 := [(0, .ref g0), (1, .int p0), (2, .int p1)]) (by decide) rfl (Nat.le_of_ble_eq_true rfl) ?_
  intro p e s m args below meth c A C hr hk hin
  refine j_aload_n (pc := 0) C dX11_whole_0 rfl 0 rfl ?_
  refine j_aload_n (pc := 1) C dX11_whole_1 rfl 0 rfl ?_
  refine j_iload_n (pc := 2) C dX11_whole_2 rfl 1 rfl ?_
  refine j_callV (pc := 3) (As := [.int p0]) (rest := [.ref g0]) (wr := []) C (c_X11_isWare l D cyC cyI cyJ cyZ cyO p0 1 g0 g1 g2 g3 g4 g5 g6 g7 g8 g9 g10 g11 g12 g13 g14 g15 g16 g17 g18 g19 g20 g21 g22 g23 g24 g25) wd_325 wd_313 wd_326 wd_327 wd_328 ⟨by decide, by decide, rfl⟩ rfl ⟨rfl, rfl, by decide, by decide⟩ ⟨by decide, by decide⟩ [0, 1] [] rfl rfl ⟨by decide, by decide, by decide⟩ 0 rfl rfl rfl (Nat.le_of_ble_eq_true rfl) dX11_whole_3 (fun u_1 hw_2 => ?_)
  refine j_eq (ws2 := [(g0, .inr (11, [.int 0, .ref g1, .int 0, .int 0, .ref g2, .ref g3, .ref g4, .int 0, .int 0, .ref g5, .ref g6, .ref g7, .ref g8, .int 0, .ref g9, .ref g10, .int 1, .ref g11, .ref g12, .ref g13, .ref g14, .ref g15, .int 0, .int 0, .int 0, .ref g16, .int 0, .ref g17, .ref g18, .ref g19, .ref g20, .ref g21, .ref g22, .int 0, .int 0, .int 0, .ref g23, .ref g24, .int 0, .int 0, .int 0, .int 0, .ref g25])), (g6, .inl (cyI, 240, .inl (fun _ => 0)))]) (pc2 := 6) (lv2 := [(0, .ref g0), (1, .int p0), (2, .int p1)]) (st2 := [.int 0, .ref g0]) rfl rfl rfl rfl ?_
  refine j_if_eq_t (pc := 6) (tgt := 32) C dX11_whole_6 (by decide) (by decide) ?_
  refine j_iconst (pc := 32) (v := 1) C dX11_whole_32 (by decide) ?_
  refine j_put (pc := 33) (ci := 11) (v := .int 1) (ws' := [(g0, .inr (11, [.int 1, .ref g1, .int 0, .int 0, .ref g2, .ref g3, .ref g4, .int 0, .int 0, .ref g5, .ref g6, .ref g7, .ref g8, .int 0, .ref g9, .ref g10, .int 1, .ref g11, .ref g12, .ref g13, .ref g14, .ref g15, .int 0, .int 0, .int 0, .ref g16, .int 0, .ref g17, .ref g18, .ref g19, .ref g20, .ref g21, .ref g22, .int 0, .int 0, .int 0, .ref g23, .ref g24, .int 0, .int 0, .int 0, .int 0, .ref g25])), (g6, .inl (cyI, 240, .inl (fun _ => 0)))]) C inw_11 0 rfl rfl 0 (by decide) wd_329 rfl tyX11_ok nmX11 rfl (tyX11_ok 0 (by decide)) rfl rfl (Nat.le_of_ble_eq_true rfl) dX11_whole_33 rfl ?_
  refine j_aload_n (pc := 36) C dX11_whole_36 rfl 0 rfl ?_
  refine j_get (pc := 37) (ci := 11) (v := .int 1) C inw_11 0 rfl rfl 0 (by decide) wd_329 rfl rfl dX11_whole_37 ?_
  refine j_if_le_f (pc := 40) (tgt := 45) C dX11_whole_40 (by decide) (by decide) ?_
  refine j_lconst (pc := 43) (v := 0) C dX11_whole_43 rfl ?_
  exact j_lret (pc := 44) C hr hk (fun i => [].getD i 0, fun _ => 0, fun _ _ => 0) rfl trivial [0, 1] (by decide) rfl (by decide) (by decide) dX11_whole_44
set_option maxHeartbeats 4000000 in
set_option maxRecDepth 100000 in
theorem c_X11_thrown (l : Launch) (D : va_G) (cyC cyI cyJ cyZ cyO : ClassId) (g0 : Nat) (g1 : Nat) (g2 : Nat) (g3 : Nat) (g4 : Nat) (g5 : Nat) (g6 : Nat) (g7 : Nat) (g8 : Nat) (g9 : Nat) (g10 : Nat) (g11 : Nat) (g12 : Nat) (g13 : Nat) (g14 : Nat) (g15 : Nat) (g16 : Nat) (g17 : Nat) (g18 : Nat) (g19 : Nat) (g20 : Nat) (g21 : Nat) (g22 : Nat) (g23 : Nat) (g24 : Nat) (g25 : Nat) : KK l D (TY cyC cyI cyJ cyZ cyO) yX11_thrown cX11_thrown 1 (some .int) ({ frames := 0, cells := 0, slots := 0, locals := 0 } : Room) 0 0 [.ref g0] [(g0, .inr (11, [.int 1, .ref g1, .int 0, .int 0, .ref g2, .ref g3, .ref g4, .int 0, .int 0, .ref g5, .ref g6, .ref g7, .ref g8, .int 0, .ref g9, .ref g10, .int 1, .ref g11, .ref g12, .ref g13, .ref g14, .ref g15, .int 0, .int 0, .int 0, .ref g16, .int 0, .ref g17, .ref g18, .ref g19, .ref g20, .ref g21, .ref g22, .int 0, .int 0, .int 0, .ref g23, .ref g24, .int 0, .int 0, .int 0, .int 0, .ref g25]))] (fun u => some (.int 1)) (fun u => True) (fun u => [(g0, .inr (11, [.int 1, .ref g1, .int 0, .int 0, .ref g2, .ref g3, .ref g4, .int 0, .int 0, .ref g5, .ref g6, .ref g7, .ref g8, .int 0, .ref g9, .ref g10, .int 1, .ref g11, .ref g12, .ref g13, .ref g14, .ref g15, .int 0, .int 0, .int 0, .ref g16, .int 0, .ref g17, .ref g18, .ref g19, .ref g20, .ref g21, .ref g22, .int 0, .int 0, .int 0, .ref g23, .ref g24, .int 0, .int 0, .int 0, .int 0, .ref g25]))]) := by
  refine KK.of (lv0 := [(0, .ref g0)]) (by decide) rfl (Nat.le_of_ble_eq_true rfl) ?_
  intro p e s m args below meth c A C hr hk hin
  refine j_aload_n (pc := 0) C dX11_thrown_0 rfl 0 rfl ?_
  refine j_get (pc := 1) (ci := 11) (v := .int 1) C inw_11 0 rfl rfl 0 (by decide) wd_329 rfl rfl dX11_thrown_1 ?_
  exact j_iret (pc := 4) C hr hk (fun i => [].getD i 0, fun _ => 0, fun _ _ => 0) rfl trivial [0] (by decide) rfl (by decide) (by decide) dX11_thrown_4
