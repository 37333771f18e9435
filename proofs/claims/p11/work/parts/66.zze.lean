abbrev XN : String := "java/util/NoSuchElementException"
theorem xw_good : ∀ w ∈ ((ownX RX10 306 "java/util/NoSuchElementException" ["java/lang/RuntimeException", "java/lang/Exception"] 13 prog_30_method_4_code).filter vx_no).filter goodWord, w ∈ lw_tbl := by decide +kernel
theorem xw_ng : ∀ w ∈ ((ownX RX10 306 "java/util/NoSuchElementException" ["java/lang/RuntimeException", "java/lang/Exception"] 13 prog_30_method_4_code).filter vx_no).filter (fun w => !goodWord w), w ∈ ([.declares (Bundle.initS "java/lang/RuntimeException"), .declares (Bundle.initS "java/lang/Exception"), .declares (Bundle.initS Bundle.tN), .castable XN XN] : List Cond) := by decide +kernel
theorem xw_ot : ∀ w ∈ Cond.classLink RX10 302 XN :: Cond.initialized XN :: (ownX RX10 306 "java/util/NoSuchElementException" ["java/lang/RuntimeException", "java/lang/Exception"] 13 prog_30_method_4_code).filter vx_no, vx_ot w = true := by decide +kernel
theorem xw_0 : decode prog_30_method_4_code 0 = .ok (.aload_n 0, 1) := by decide +kernel
theorem xw_1 : decode prog_30_method_4_code 1 = .ok (.aload_n 1, 1) := by decide +kernel
theorem xw_2 : decode prog_30_method_4_code 2 = .ok (.invokespecial 13, 3) := by decide +kernel
theorem xw_5 : decode prog_30_method_4_code 5 = .ok (.return_, 1) := by decide +kernel
/-- what the throw needs of a state: words that aren't good, the statics of Throwable -/
def EX (A : Nat → Prop) (U : State) : Prop := va_Nw (.declares (Bundle.initS "java/lang/RuntimeException")) U ∧ va_Nw (.declares (Bundle.initS "java/lang/Exception")) U ∧ va_Nw (.declares (Bundle.initS Bundle.tN)) U ∧ va_Nw (.castable XN XN) U ∧ vx_Zq Bundle.tN "UNASSIGNED_STACK" Bundle.steD A U U.heap ∧ vx_Zq Bundle.tN "SUPPRESSED_SENTINEL" Bundle.listD A U U.heap
theorem EX.down {A B : Nat → Prop} {s U : State} {H : Heap} {locs : List Loc} (h : EX A s) (hS : va_S A s.heap H locs) (hU : U.heap = H) (hW : s.WarmedH U.vm) (hB : ∀ q, B q → A q) : EX B U := by
  obtain ⟨h2, h3, h4, h5, h6, h7⟩ := h
  refine ⟨va_Nw.warmD hW h2, va_Nw.warmD hW h3, va_Nw.warmD hW h4, va_Nw.warmC hW h5, ?_, ?_⟩
  · rw [hU]; exact ((h6.kept hS.2.1).moved hW.alike).narrow hB
  · rw [hU]; exact ((h7.kept hS.2.1).moved hW.alike).narrow hB
theorem EX.blind {A : Nat → Prop} {U V : State} (hv : V.vm = U.vm) (hh : V.heap = U.heap) (h : EX A U) : EX A V := by
  obtain ⟨h2, h3, h4, h5, h6, h7⟩ := h
  have al : U.vm.Alike V.vm := by rw [hv]; exact Vm.Alike.refl _
  exact ⟨va_Nw.same rfl hv.symm h2, va_Nw.same rfl hv.symm h3, va_Nw.same rfl hv.symm h4, va_Nw.same rfl hv.symm h5, by rw [hh]; exact h6.moved al, by rw [hh]; exact h7.moved al⟩
theorem EX.words {A : Nat → Prop} {s : State} {args : Array Value} (h : EX A s) (hw : ∀ w ∈ WALL, w.before args s = true) : ∀ w ∈ (ownX RX10 306 "java/util/NoSuchElementException" ["java/lang/RuntimeException", "java/lang/Exception"] 13 prog_30_method_4_code).filter vx_no, w.before args s = true :=
  vx_hat (fun w h => hw w (wl_in (xw_good w h) (List.mem_filter.mp h).2)) xw_ng (vx_c (va_Nw.use rfl h.1) (vx_c (va_Nw.use rfl h.2.1) (vx_c (va_Nw.use rfl h.2.2.1) (vx_c (va_Nw.use rfl h.2.2.2.1) vx_n))))
def PreX (D : DG) (tys : List (ClassId × FieldType)) (As : List Value) (wc : va_W) (sz : Nat) : Array Value → State → Prop := fun a U => PreK D tys As wc sz a U ∧ EX (va_A wc sz) U
theorem preX_blind {D : DG} {tys : List (ClassId × FieldType)} (As : List Value) (wc : va_W) (sz : Nat) : FrameBlind (PreX D tys As wc sz) := fun a U g mk q => ⟨preK_blind As wc sz a U g mk q.1, EX.blind (V := U.calling g mk a) (U := U) rfl rfl q.2⟩
/-- how it throws: the cells are as they were -/
def XCx (D : DG) (tys : List (ClassId × FieldType)) (A : Nat → Prop) (wx : va_W) : String → State → State → Prop := fun E st t => (E = XN ∧ EndK D tys A wx t) ∧ va_F A st t
/-- a method that answers or throws -/
def KY (l : Launch) (D : DG) (tys : List (ClassId × FieldType)) (y : MethodName) (bytes : ByteArray) (maxL : Nat) (rt : Option FieldType) (rm : Room) (mc ms : Nat) (As : List Value) (wc : va_W) (ret : SU → Option Value) (post : SU → Prop) (w1 : SU → va_W) : Prop :=
  ∀ sz : Nat, vx_Met l y (Cond.code y bytes maxL rt :: WALL) rm (PreX D tys As wc sz) (Qx ret post (fun u t => EndK D tys (va_A wc sz) (w1 u) t) (va_A wc sz)) (XCx D tys (va_A wc sz) wc) mc ms (va_A wc sz)
def QY (below : List Frame) (D : DG) (tys : List (ClassId × FieldType)) (A : Nat → Prop) (ret : SU → Option Value) (post : SU → Prop) (w1 : SU → va_W) (wx : va_W) (args : Array Value) (s : State) (mc ms : Nat) : State → Prop := vx_MQ below (Qx ret post (fun u t => EndK D tys A (w1 u) t) A) (XCx D tys A wx) args s mc ms A
theorem KY.of {l : Launch} {D : DG} {tys : List (ClassId × FieldType)} {y : MethodName} {bytes : ByteArray} {maxL : Nat} {rt : Option FieldType} {rm : Room} {mc ms : Nat} {As : List Value} {wc : va_W} {ret : SU → Option Value} {post : SU → Prop} {w1 : SU → va_W} {lv0 : List (Nat × Value)}
    (hy : plainName y.cls = true) (hlv : lv_args 0 As = lv0) (hlen : (lg_sl As).length ≤ maxL)
    (body : ∀ (p : Program) (e : Env) (s : State) (m : MethodId) (args : Array Value) (below : List Frame) (meth : Method) (c : Code) (A : Nat → Prop), CX p rm s m args meth c bytes y.cls maxL D tys A → EX A s → (∀ x ∈ c.exceptionTable.toList, False) → meth.sig.returnType = rt → meth.locks = false → J p l e rm s m args below meth c D A maxL 0 0 (QY below D tys A ret post w1 wc args s mc ms) wc 0 lv0 []) : KY l D tys y bytes maxL rt rm mc ms As wc ret post w1 := by
  intro sz
  refine vx_ofW (cc := bytes) (maxL := maxL) (ret := rt) hy rfl ?_
  intro p e s m args below meth c s₁ B hml htab hv
  obtain ⟨⟨rfl, hsz, hP, hK, hD0, hN⟩, hE⟩ := hv
  have hts := atoms_spec (ws := Cond.code y bytes maxL rt :: WALL) B.pre
  subst hsz
  subst hlv
  have hl := lv_entry As (n := maxL) hlen
  rw [lg_entry_eq]
  exact body p e s m _ below meth c (va_A wc s.heap.size) ⟨B.exec, B.bytes, hml, findClass_of_methodNamed B.named, fun w h => hts w (List.mem_cons_of_mem _ h), hK, hN, fun q h => Or.inr h⟩ hE htab B.returns B.notSynchronized s.heap [] _ hP hD0.self va_S.rf hl
section YR
variable {p : Program} {l : Launch} {e : Env} {R : Room} {s : State} {m : MethodId} {args : Array Value} {below : List Frame} {meth : Method} {c : Code} {cc : ByteArray} {own : String} {nL : Nat} {D : DG} {tys : List (ClassId × FieldType)} {A : Nat → Prop} {cells slots : Nat} {Q : State → Prop} {ws ws' : va_W} {pc : Nat} {lv lv' : List (Nat × Value)} {rest st0 : List Value}
theorem j_vx {ret : SU → Option Value} {post : SU → Prop} {w1 : SU → va_W} {wx : va_W} {mc ms : Nat} (k : J p l e R s m args below meth c D A nL cells slots (QX below D tys A ret post w1 args s mc ms) ws pc lv st0) : J p l e R s m args below meth c D A nL cells slots (QY below D tys A ret post w1 wx args s mc ms) ws pc lv st0 := fun H locs ls hP hD hS hl => vx_ret (k H locs ls hP hD hS hl)
theorem j_throw (C : CX p R s m args meth c cc RX10 nL D tys A) (htr : l.stackTraces = false) (hE : EX A s) (htab : ∀ x ∈ c.exceptionTable.toList, False) (hk : meth.locks = false) (h1w : Cond.classLink RX10 302 XN ∈ WALL) (h2w : Cond.initialized XN ∈ WALL) {is i : Nat} {text : String} (hi : i < 43) (hli : lit i = (RX10, is, text)) (d0 : decode cc pc = .ok (.new 302, 3)) (d3 : decode cc (pc + 3) = .ok (.dup, 1)) (d4 : decode cc (pc + 4) = .ok (.ldc_w is, 3)) (d7 : decode cc (pc + 7) = .ok (.invokespecial 306, 3)) (d10 : decode cc (pc + 10) = .ok (.athrow, 1))
    {ret : SU → Option Value} {post : SU → Prop} {w1 : SU → va_W} {wx : va_W} {mc ms : Nat} (isP : List Nat) (hn : va_nd isP = true) (hs : isP.map (fun i => ws[i]?) = wx.map some) (hRf : 5 < R.frames) (hRl : (rest.map fun v => v.category).sum + 82 ≤ R.locals) (hRc : cells + 1 ≤ R.cells) (hRs : slots + 6 ≤ R.slots) (hc : cells + 1 ≤ mc) (hsl : slots + 6 ≤ ms) : J p l e R s m args below meth c D A nL cells slots (QY below D tys A ret post w1 wx args s mc ms) ws pc lv rest := fun H locs ls hP hD hS hl => by
  have hP9 := hP.sub (ws' := wx) isP (fm_of hs)
  have hD9 := hD.sub isP hn hs
  exact vx_throwX (own := RX10) (cls := XN) (text := text) (names := ["java/lang/RuntimeException", "java/lang/Exception"]) (ik := 302) (is := is) (ic := 306) (ix := 13) (rx := prog_30_method_4_code) (sa := D.2.1 i) (A := A) (pc := pc) C.1 C.2.1 htr xw_0 xw_1 xw_2 xw_5 C.2.2.2.1 (by decide) (by decide) (C.2.2.2.2.1 _ h1w) (C.2.2.2.2.1 _ h2w) (C.2.2.2.2.2.2.1.2.1.at hi hli) (hE.words C.2.2.2.2.1) xw_ot hE.2.2.2.2.1 hE.2.2.2.2.2 hS (hl.1.trans C.2.2.1.symm) d0 d3 d4 d7 d10 (fun x hx => (htab x hx).elim) hRf hRl hRc hRs hk (fun t hal hsz hkk => ⟨⟨rfl, hP9.kept (fun k q hq => hkk q.1 (vx_lt hP9 hq)), va_K.moved hal C.2.2.2.2.2.1, hD9⟩, Nat.le_trans hS.1 hsz, fun q h1 h2 => (hkk q (Nat.lt_of_lt_of_le h1 hS.1)).trans (hS.2.1 q h1 h2)⟩) (fun z hz => hS.2.2 z hz) hc hsl
theorem j_callY (C : CX p R s m args meth c cc own nL D tys A) (hE : EX A s) {y : MethodName} {bytes : ByteArray} {maxL ix b n mc ms : Nat} {rt : Option FieldType} {rm : Room} {As : List Value} {wc wr : va_W} {ret : SU → Option Value} {post : SU → Prop} {w1 : SU → va_W} {ci N : Nat} {Tt : u_T} {fsb : List Value}
    (K : KY l D tys y bytes maxL rt rm mc ms (.ref b :: As) wc ret post w1)
    (hcd : Cond.code y bytes maxL rt ∈ WALL) (hini : Cond.initialized y.cls ∈ WALL) (hlk : Cond.methodLink own ix y ∈ WALL) (him : Cond.instanceMethod y ∈ WALL) (hsl : Cond.selects y.cls y y ∈ WALL)
    (hy : y.cls ≠ "java/lang/invoke/MethodHandle" ∧ y.cls ≠ "java/lang/invoke/VarHandle" ∧ (parseMethodDescriptor y.desc).map (fun d => d.parameters.length) = some n) (hnA : As.length = n)
    (hR : rm.cells = mc ∧ rm.slots = ms ∧ rm.frames + 1 ≤ R.frames ∧ 8 + (maxL + 11) + rm.locals ≤ R.locals) (hf : cells + mc ≤ R.cells ∧ slots + ms ≤ R.slots)
    (isC isR : List Nat) (hC : isC.map (fun i => ws[i]?) = wc.map some) (hRr : isR.map (fun i => ws[i]?) = wr.map some) (hnd : va_nd isC = true ∧ va_nd isR = true ∧ ∀ i ∈ isR, i ∉ isC) (qb : Nat) (hrecv : ws[qb]? = some (b, .inr (ci, fsb))) (hcb : vwCl[ci]? = some (y.cls, Tt, N))
    (hst : st0 = As.reverse ++ .ref b :: rest) (hrs : (rest.map fun v => v.category).sum ≤ 8) (hd : decode cc pc = .ok (.invokevirtual ix, 3))
    {x : ExceptionTableEntry} (htab : c.exceptionTable.toList = [x]) (hcov : covers x pc = true) (hct : x.catchType ≠ 0) (hkl : Cond.classLink own x.catchType XN ∈ WALL)
    (kk : ∀ u : SU, post u → J p l e R s m args below meth c D A nL (cells + mc) (slots + ms) Q (wr ++ w1 u) (pc + 3) lv ((ret u).toList ++ rest))
    (kx : ∀ q : Nat, J p l e R s m args below meth c D A nL (cells + mc) (slots + ms) Q (wr ++ wc) x.handlerPc lv [.ref q]) : J p l e R s m args below meth c D A nL cells slots Q ws pc lv st0 := fun H locs ls hP hD hS hl => by
  have hPc := hP.sub (ws' := wc) isC (fm_of hC)
  have hDc := hD.sub isC hnd.1 hC
  have hFc := va_free (wc := wc) hD hS C.2.2.2.2.2.2.2 isC hC
  have hts := C.2.2.2.2.1
  have hK := C.2.2.2.2.2.1
  have hG := wq_G hcd
  subst hst
  intro T hT X0
  rcases (vx_runV (As := As) (rest := rest) ⟨C.1, C.2.1, C.2.2.1, C.2.2.2.1, hts⟩ (K H.size) ⟨callB_of n hts hG rfl hR.1 hR.2.1 (hts _ hini) (hts _ hlk) hy ⟨hR.2.2.1, hR.2.2.2⟩, hts _ him, hts _ hsl⟩ ⟨preX_blind _ wc H.size, va_recv hK hP (ci := ci) (q0 := qb) hcb hrecv, fun U hU hW => ⟨⟨rfl, by rw [hU], by rw [hU]; exact hPc, va_K.moved hW.alike hK, hDc.weaken (fun _ _ _ _ => trivial), NX.warm hW C.2.2.2.2.2.2.1.1, NL.warm hW C.2.2.2.2.2.2.1.2.1, by rw [hU]; exact ((C.2.2.2.2.2.2.1.2.2.kept hS.2.1).moved hW.alike).narrow hFc⟩, hE.down hS hU hW hFc⟩⟩ rfl hnA hl.1 rfl (lv_room hrs) hd hf) T hT X0 with ⟨v, st9, t, T', L, h0, X', hL, e1, e2, ⟨⟨u, hv, hp, hb⟩, hF⟩, st⟩ | ⟨q, st9, t, T', L, E, ce, h0, X', hL, e1, e2, ⟨⟨rfl, hb⟩, hF⟩, hce, hcv, hcl, st⟩
  · obtain ⟨k1, k2, k3⟩ := vx_keep h0 e1 hS (fun q _ h => hFc q h) hFc hL hF
    cases hv
    obtain ⟨hP1, hK1, hD1⟩ := hb
    rw [← e1] at hP1
    obtain ⟨hP2, hD2⟩ := va_join hP hD isC isR hC hRr hnd.2.1 hnd.2.2 k2 hFc hP1 hD1
    obtain ⟨t2, a1, b1⟩ := kk u hp T'.heap (locs ++ L) ls hP2 hD2 k3 hl T' rfl X'
    exact ⟨t2, st t2 a1, b1⟩
  · obtain ⟨k1, k2, k3⟩ := vx_keep h0 e1 hS (fun q _ h => hFc q h) hFc hL hF
    obtain ⟨hP1, hK1, hD1⟩ := hb
    rw [← e1] at hP1
    obtain ⟨hP2, hD2⟩ := va_join hP hD isC isR hC hRr hnd.2.1 hnd.2.2 k2 hFc hP1 hD1
    obtain ⟨t2, a1, b1⟩ := vx_catch (own := own) (name := XN) (E := XN) (pc := pc) (ls := ls) (rest := rest) C.2.2.2.1 [] x [] htab (fun z hz => by cases hz) hcov hct (hts _ hkl) (va_Nw.use rfl hE.2.2.2.1) (H := T'.heap) (by rw [e1]; exact hce) hcv hcl (kx q T'.heap (locs ++ L) ls hP2 hD2 k3 hl) T' rfl X'
    exact ⟨t2, st.trans a1, b1⟩
end YR
/-- a static method with a table of handlers, that needs what a throw needs -/
def KX (l : Launch) (D : DG) (tys : List (ClassId × FieldType)) (y : MethodName) (bytes : ByteArray) (maxL : Nat) (rt : Option FieldType) (hh : List (Nat × Nat × Nat × Nat)) (rm : Room) (mc ms : Nat) (As : List Value) (wc : va_W) (ret : SU → Option Value) (post : SU → Prop) (w1 : SU → va_W) : Prop :=
  ∀ sz : Nat, Met l y (Cond.codeWith y bytes maxL rt hh :: WALL) rm (PreX D tys As wc sz) (Qx ret post (fun u t => EndK D tys (va_A wc sz) (w1 u) t) (va_A wc sz)) mc ms (va_A wc sz)
theorem KX.of {l : Launch} {D : DG} {tys : List (ClassId × FieldType)} {y : MethodName} {bytes : ByteArray} {maxL : Nat} {rt : Option FieldType} {hh : List (Nat × Nat × Nat × Nat)} {rm : Room} {mc ms : Nat} {As : List Value} {wc : va_W} {ret : SU → Option Value} {post : SU → Prop} {w1 : SU → va_W} {lv0 : List (Nat × Value)}
    (hy : plainName y.cls = true) (hlv : lv_args 0 As = lv0) (hlen : (lg_sl As).length ≤ maxL)
    (body : ∀ (p : Program) (e : Env) (s : State) (m : MethodId) (args : Array Value) (below : List Frame) (meth : Method) (c : Code) (A : Nat → Prop), CX p rm s m args meth c bytes y.cls maxL D tys A → EX A s → c.exceptionTable.toList = tableOf hh → meth.sig.returnType = rt → meth.locks = false → J p l e rm s m args below meth c D A maxL 0 0 (QX below D tys A ret post w1 args s mc ms) wc 0 lv0 []) : KX l D tys y bytes maxL rt hh rm mc ms As wc ret post w1 := by
  intro sz
  refine va_MetW (cc := bytes) (maxL := maxL) (ret := rt) (hh := hh) hy rfl ?_
  intro p e s m args below meth c s₁ B hml hv
  obtain ⟨⟨rfl, hsz, hP, hK, hD0, hN⟩, hE⟩ := hv
  have hts := atoms_spec (ws := Cond.codeWith y bytes maxL rt hh :: WALL) B.pre
  have htab := vx_table (x := y) B (hts _ List.mem_cons_self)
  subst hsz
  subst hlv
  have hl := lv_entry As (n := maxL) hlen
  rw [lg_entry_eq]
  exact body p e s m _ below meth c (va_A wc s.heap.size) ⟨B.exec, B.bytes, hml, findClass_of_methodNamed B.named, fun w h => hts w (List.mem_cons_of_mem _ h), hK, hN, fun q h => Or.inr h⟩ hE htab B.returns B.notSynchronized s.heap [] _ hP hD0.self va_S.rf hl
theorem j_callX {p : Program} {l : Launch} {e : Env} {R : Room} {s : State} {m : MethodId} {args : Array Value} {below : List Frame} {meth : Method} {c : Code} {cc : ByteArray} {own : String} {nL : Nat} {D : DG} {tys : List (ClassId × FieldType)} {A : Nat → Prop} {cells slots : Nat} {Q : State → Prop} {ws : va_W} {pc : Nat} {lv : List (Nat × Value)} {rest st0 : List Value}
    (C : CX p R s m args meth c cc own nL D tys A) {y : MethodName} {bytes : ByteArray} {maxL ix n mc ms : Nat} {rt : Option FieldType} {hh : List (Nat × Nat × Nat × Nat)} {rm : Room} {As : List Value} {wc wr : va_W} {ret : SU → Option Value} {post : SU → Prop} {w1 : SU → va_W}
    (K : KX l D tys y bytes maxL rt hh rm mc ms As wc ret post w1) (hE : EX A s)
    (hcd : Cond.codeWith y bytes maxL rt hh ∈ WALL) (hini : Cond.initialized y.cls ∈ WALL) (hlk : Cond.methodLink own ix y ∈ WALL) (hsc : Cond.static y ∈ WALL)
    (hy : y.cls ≠ "java/lang/invoke/MethodHandle" ∧ y.cls ≠ "java/lang/invoke/VarHandle" ∧ (parseMethodDescriptor y.desc).map (fun d => d.parameters.length) = some n) (hnA : As.length = n)
    (hR : rm.cells = mc ∧ rm.slots = ms ∧ rm.frames + 1 ≤ R.frames ∧ 8 + (maxL + 11) + rm.locals ≤ R.locals) (hf : cells + mc ≤ R.cells ∧ slots + ms ≤ R.slots)
    (isC isR : List Nat) (hC : isC.map (fun i => ws[i]?) = wc.map some) (hRr : isR.map (fun i => ws[i]?) = wr.map some) (hnd : va_nd isC = true ∧ va_nd isR = true ∧ ∀ i ∈ isR, i ∉ isC)
    (hst : st0 = As.reverse ++ rest) (hrs : (rest.map fun v => v.category).sum ≤ 8) (hd : decode cc pc = .ok (.invokestatic ix, 3))
    (kk : ∀ u : SU, post u → J p l e R s m args below meth c D A nL (cells + mc) (slots + ms) Q (wr ++ w1 u) (pc + 3) lv ((ret u).toList ++ rest)) : J p l e R s m args below meth c D A nL cells slots Q ws pc lv st0 := fun H locs ls hP hD hS hl => by
  have hPc := hP.sub (ws' := wc) isC (fm_of hC)
  have hDc := hD.sub isC hnd.1 hC
  have hFc := va_free (wc := wc) hD hS C.2.2.2.2.2.2.2 isC hC
  have hts := C.2.2.2.2.1
  have hK := C.2.2.2.2.2.1
  have hG := wq_G hcd
  subst hst
  have cw : vx_CSW R s args own ix y bytes maxL rt hh (Cond.codeWith y bytes maxL rt hh :: WALL) rm mc ms n := by
    refine ⟨⟨hR.1, hR.2.1, hR.2.2.1, hR.2.2.2, pay_in hts hG, List.mem_cons_self⟩, hts _ hcd, hts _ hini, ⟨hy.1, hy.2.1⟩, fun sig h => ?_, hts _ hlk, hts _ hsc⟩
    have h2 := hy.2.2
    rw [h] at h2
    exact (Option.some.inj h2).symm
  refine call_x (vx_runSW (As := As) (rest := rest) ⟨C.1, C.2.1, C.2.2.1, C.2.2.2.1, hts⟩ (K H.size) cw ⟨preX_blind _ wc H.size, fun U hU hW => ⟨⟨rfl, by rw [hU], by rw [hU]; exact hPc, va_K.moved hW.alike hK, hDc.weaken (fun _ _ _ _ => trivial), NX.warm hW C.2.2.2.2.2.2.1.1, NL.warm hW C.2.2.2.2.2.2.1.2.1, by rw [hU]; exact ((C.2.2.2.2.2.2.1.2.2.kept hS.2.1).moved hW.alike).narrow hFc⟩, hE.down hS hU hW hFc⟩⟩ rfl hnA hl.1 rfl (lv_room hrs) hd hf) hS (fun q _ h => hFc q h) hFc (fun u t H1 locs1 ht hvm hw hB hz1 hk1 hS1 => ?_)
  obtain ⟨hP1, hK1, hD1⟩ := hB
  rw [ht] at hP1
  obtain ⟨hP2, hD2⟩ := va_join hP hD isC isR hC hRr hnd.2.1 hnd.2.2 hk1 hFc hP1 hD1
  exact kk u hw H1 locs1 ls hP2 hD2 hS1 hl
