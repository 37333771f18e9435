abbrev SU : Type := (Nat → Nat) × (Nat → Int32) × (Nat → Nat → Int32) × (Nat → Nat → Int64)
abbrev TY (cyC cyI cyJ cyZ cyO : ClassId) : List (ClassId × FieldType) := [(cyC, .char), (cyI, .int), (cyJ, .long), (cyZ, .boolean), (cyO, .object "BowlShelf$Standing")]
def PreK (D : DG) (tys : List (ClassId × FieldType)) (As : List Value) (wc : va_W) (sz : Nat) : Array Value → State → Prop := va_Pc As (fun U => U.heap.size = sz ∧ va_P D.1 vwCl wc U.heap ∧ va_K D.1 vwCl tys U ∧ va_D (fun _ => True) wc ∧ NX U ∧ NL D U ∧ HX D (va_A wc sz) U U.heap)
def EndK (D : DG) (tys : List (ClassId × FieldType)) (A : Nat → Prop) (w1 : va_W) (t : State) : Prop := va_P D.1 vwCl w1 t.heap ∧ va_K D.1 vwCl tys t ∧ va_D A w1
def Qx (ret : SU → Option Value) (post : SU → Prop) (B : SU → State → Prop) (A : Nat → Prop) : Array Value → State → Outcome → State → Prop := fun _ st oc t => (∃ u : SU, oc = .returned (ret u) ∧ post u ∧ B u t) ∧ va_F A st t
/-- a method's contract: with the arguments As over the cells wc it answers 'ret u', and the cells are 'w1 u' -/
def KK (l : Launch) (D : DG) (tys : List (ClassId × FieldType)) (y : MethodName) (bytes : ByteArray) (maxL : Nat) (rt : Option FieldType) (rm : Room) (mc ms : Nat) (As : List Value) (wc : va_W) (ret : SU → Option Value) (post : SU → Prop) (w1 : SU → va_W) : Prop :=
  ∀ sz : Nat, Met l y (Cond.code y bytes maxL rt :: WALL) rm (PreK D tys As wc sz) (Qx ret post (fun u t => EndK D tys (va_A wc sz) (w1 u) t) (va_A wc sz)) mc ms (va_A wc sz)
def QX (below : List Frame) (D : DG) (tys : List (ClassId × FieldType)) (A : Nat → Prop) (ret : SU → Option Value) (post : SU → Prop) (w1 : SU → va_W) (args : Array Value) (s : State) (mc ms : Nat) : State → Prop := MQ below (Qx ret post (fun u t => EndK D tys A (w1 u) t) A) args s mc ms A
theorem fm_of {α β : Type} {f : α → Option β} : ∀ {is : List α} {w : List β}, is.map f = w.map some → is.filterMap f = w
  | [], [], _ => rfl
  | [], _ :: _, h => by cases h
  | _ :: _, [], h => by cases h
  | i :: is, x :: w, h => by
    obtain ⟨h1, h2⟩ := List.cons.inj h
    rw [List.filterMap_cons, h1, fm_of h2]
theorem KK.of {l : Launch} {D : DG} {tys : List (ClassId × FieldType)} {y : MethodName} {bytes : ByteArray} {maxL : Nat} {rt : Option FieldType} {rm : Room} {mc ms : Nat} {As : List Value} {wc : va_W} {ret : SU → Option Value} {post : SU → Prop} {w1 : SU → va_W} {lv0 : List (Nat × Value)}
    (hy : plainName y.cls = true) (hlv : lv_args 0 As = lv0) (hlen : (lg_sl As).length ≤ maxL)
    (body : ∀ (p : Program) (e : Env) (s : State) (m : MethodId) (args : Array Value) (below : List Frame) (meth : Method) (c : Code) (A : Nat → Prop), CX p rm s m args meth c bytes y.cls maxL D tys A → meth.sig.returnType = rt → meth.locks = false → meth.name = y.name → J p l e rm s m args below meth c D A maxL 0 0 (QX below D tys A ret post w1 args s mc ms) wc 0 lv0 []) : KK l D tys y bytes maxL rt rm mc ms As wc ret post w1 := by
  intro sz
  refine Met.ofW (cc := bytes) (maxL := maxL) (ret := rt) hy rfl ?_
  intro p e s m args below meth c s₁ B hml hv
  obtain ⟨rfl, hsz, hP, hK, hD0, hN⟩ := hv
  have hts := atoms_spec (ws := Cond.code y bytes maxL rt :: WALL) B.pre
  subst hsz
  subst hlv
  have hl := lv_entry As (n := maxL) hlen
  rw [lg_entry_eq]
  exact body p e s m _ below meth c (va_A wc s.heap.size) ⟨B.exec, B.bytes, hml, findClass_of_methodNamed B.named, fun w h => hts w (List.mem_cons_of_mem _ h), hK, hN, fun q h => Or.inr h⟩ B.returns B.notSynchronized (name_of_methodNamed B.named B.method).1 s.heap [] _ hP hD0.self va_S.rf hl
section KR
variable {p : Program} {l : Launch} {e : Env} {R : Room} {s : State} {m : MethodId} {args : Array Value} {below : List Frame} {meth : Method} {c : Code} {cc : ByteArray} {own : String} {nL : Nat} {D : DG} {tys : List (ClassId × FieldType)} {A : Nat → Prop} {cells slots : Nat} {Q : State → Prop} {ws ws' : va_W} {pc : Nat} {lv lv' : List (Nat × Value)} {rest st0 : List Value}
theorem call_x {a : Array Value} {A1 : Nat → Prop} {H0 H : Heap} {ls : Array Slot} {locs : List Loc} {mc ms : Nat} {free : Addr → Prop} {ret : SU → Option Value} {post : SU → Prop} {B : SU → State → Prop} (hr : va_Run p l e R s m args below meth c H locs cells slots mc ms (F0 m pc ls st0) rest (Qx ret post B A1 a) free) (hS : va_S A H0 H locs) (hA : ∀ q, q < H.size → A1 q → A q) (hf : ∀ q, free q → A q)
    (kk : ∀ (u : SU) (t : State) (H1 : Heap) (locs1 : List Loc), t.heap = H1 → s.vm.Alike t.vm → post u → B u t → H.size ≤ H1.size → (∀ q : Nat, q < H.size → ¬ A1 q → H1[q]? = H[q]?) → va_S A H0 H1 locs1 → W p l e R s m args below meth c H1 locs1 (cells + mc) (slots + ms) Q (F0 m (pc + 3) ls ((ret u).toList ++ rest))) : W p l e R s m args below meth c H locs cells slots Q (F0 m pc ls st0) := by
  intro T hT X
  obtain ⟨v, st₀, t, T', L, h0, X', hL, e1, e2, ⟨⟨u, hv, hp, hb⟩, hz, hk⟩, st⟩ := hr T hT X
  cases hv
  rw [h0] at hz hk
  obtain ⟨t2, a1, b1⟩ := kk u t T'.heap (locs ++ L) e1.symm (by rw [← e2]; exact X'.warmed.alike) hp hb (by rw [e1]; exact hz) (fun q h1 h2 => by rw [e1]; exact hk q h1 h2)
    ⟨Nat.le_trans hS.1 (by rw [e1]; exact hz), fun q h1 h2 => by rw [e1, hk q (Nat.lt_of_lt_of_le h1 hS.1) (fun z => h2 (hA q (Nat.lt_of_lt_of_le h1 hS.1) z))]; exact hS.2.1 q h1 h2, fun q hq => by
      rcases List.mem_append.mp hq with h | h
      · exact hS.2.2 q h
      · exact hf _ (hL q h)⟩ T' rfl X'
  exact ⟨t2, st t2 a1, b1⟩
theorem preK_blind (As : List Value) (wc : va_W) (sz : Nat) : FrameBlind (PreK D tys As wc sz) := fun a U g mk q => by
  obtain ⟨q0, q1, qP, qK, qD, qN, qL, qH⟩ := q
  exact ⟨q0, q1, qP, va_K.moved (u := U) (U := U.calling g mk a) (Vm.Alike.refl U.vm) qK, qD, NX.same (u := U) (U := U.calling g mk a) rfl qN, NL.same (u := U) (U := U.calling g mk a) rfl qL, HX.moved (u := U) (U := U.calling g mk a) (Vm.Alike.refl U.vm) qH⟩
theorem j_callV (C : CX p R s m args meth c cc own nL D tys A) {y : MethodName} {bytes : ByteArray} {maxL ix b n mc ms : Nat} {rt : Option FieldType} {rm : Room} {As : List Value} {wc wr : va_W} {ret : SU → Option Value} {post : SU → Prop} {w1 : SU → va_W} {ci N : Nat} {Tt : u_T} {fsb : List Value}
    (K : KK l D tys y bytes maxL rt rm mc ms (.ref b :: As) wc ret post w1)
    (hcd : Cond.code y bytes maxL rt ∈ WALL) (hini : Cond.initialized y.cls ∈ WALL) (hlk : Cond.methodLink own ix y ∈ WALL) (him : Cond.instanceMethod y ∈ WALL) (hsl : Cond.selects y.cls y y ∈ WALL)
    (hy : y.cls ≠ "java/lang/invoke/MethodHandle" ∧ y.cls ≠ "java/lang/invoke/VarHandle" ∧ (parseMethodDescriptor y.desc).map (fun d => d.parameters.length) = some n) (hnA : As.length = n)
    (hR : rm.cells = mc ∧ rm.slots = ms ∧ rm.frames + 1 ≤ R.frames ∧ 8 + (maxL + 11) + rm.locals ≤ R.locals) (hf : cells + mc ≤ R.cells ∧ slots + ms ≤ R.slots)
    (isC isR : List Nat) (hC : isC.map (fun i => ws[i]?) = wc.map some) (hRr : isR.map (fun i => ws[i]?) = wr.map some) (hnd : va_nd isC = true ∧ va_nd isR = true ∧ ∀ i ∈ isR, i ∉ isC) (qb : Nat) (hrecv : ws[qb]? = some (b, .inr (ci, fsb))) (hcb : vwCl[ci]? = some (y.cls, Tt, N))
    (hst : st0 = As.reverse ++ .ref b :: rest) (hrs : (rest.map fun v => v.category).sum ≤ 8) (hd : decode cc pc = .ok (.invokevirtual ix, 3))
    (kk : ∀ u : SU, post u → J p l e R s m args below meth c D A nL (cells + mc) (slots + ms) Q (wr ++ w1 u) (pc + 3) lv ((ret u).toList ++ rest)) : J p l e R s m args below meth c D A nL cells slots Q ws pc lv st0 := fun H locs ls hP hD hS hl => by
  have hPc := hP.sub (ws' := wc) isC (fm_of hC)
  have hDc := hD.sub isC hnd.1 hC
  have hFc := va_free (wc := wc) hD hS C.2.2.2.2.2.2.2 isC hC
  have hts := C.2.2.2.2.1
  have hK := C.2.2.2.2.2.1
  have hG := wq_G hcd
  subst hst
  refine call_x (va_runV (As := As) (rest := rest) ⟨C.1, C.2.1, C.2.2.1, C.2.2.2.1, hts⟩ (K H.size) ⟨callB_of n hts hG rfl hR.1 hR.2.1 (hts _ hini) (hts _ hlk) hy ⟨hR.2.2.1, hR.2.2.2⟩, hts _ him, hts _ hsl⟩ ⟨preK_blind _ wc H.size, va_recv hK hP (ci := ci) (q0 := qb) hcb hrecv, fun U hU hW => ⟨rfl, by rw [hU], by rw [hU]; exact hPc, va_K.moved hW.alike hK, hDc.weaken (fun _ _ _ _ => trivial), NX.warm hW C.2.2.2.2.2.2.1.1, NL.warm hW C.2.2.2.2.2.2.1.2.1, by rw [hU]; exact ((C.2.2.2.2.2.2.1.2.2.kept hS.2.1).moved hW.alike).narrow hFc⟩⟩ rfl hnA hl.1 rfl (lv_room hrs) hd hf) hS (fun q _ h => hFc q h) hFc (fun u t H1 locs1 ht hvm hw hB hz1 hk1 hS1 => ?_)
  obtain ⟨hP1, hK1, hD1⟩ := hB
  rw [ht] at hP1
  obtain ⟨hP2, hD2⟩ := va_join hP hD isC isR hC hRr hnd.2.1 hnd.2.2 hk1 hFc hP1 hD1
  exact kk u hw H1 locs1 ls hP2 hD2 hS1 hl
theorem j_callS (C : CX p R s m args meth c cc own nL D tys A) {y : MethodName} {bytes : ByteArray} {maxL ix n mc ms : Nat} {rt : Option FieldType} {rm : Room} {As : List Value} {wc wr : va_W} {ret : SU → Option Value} {post : SU → Prop} {w1 : SU → va_W}
    (K : KK l D tys y bytes maxL rt rm mc ms As wc ret post w1)
    (hcd : Cond.code y bytes maxL rt ∈ WALL) (hini : Cond.initialized y.cls ∈ WALL) (hlk : Cond.methodLink own ix y ∈ WALL) (hsc : Cond.static y ∈ WALL)
    (hy : y.cls ≠ "java/lang/invoke/MethodHandle" ∧ y.cls ≠ "java/lang/invoke/VarHandle" ∧ (parseMethodDescriptor y.desc).map (fun d => d.parameters.length) = some n) (hnA : As.length = n)
    (hR : rm.cells = mc ∧ rm.slots = ms ∧ rm.frames + 1 ≤ R.frames ∧ 8 + (maxL + 11) + rm.locals ≤ R.locals) (hf : cells + mc ≤ R.cells ∧ slots + ms ≤ R.slots)
    (isC isR : List Nat) (hC : isC.map (fun i => ws[i]?) = wc.map some) (hRr : isR.map (fun i => ws[i]?) = wr.map some) (hnd : va_nd isC = true ∧ va_nd isR = true ∧ ∀ i ∈ isR, i ∉ isC)
    (hst : st0 = As.reverse ++ rest) (hrs : (rest.map fun v => v.category).sum ≤ 8) (hd : decode cc pc = .ok (.invokestatic ix, 3))
    (kk : ∀ u : SU, post u → J p l e R s m args below meth c D A nL (cells + mc) (slots + ms) Q (wr ++ w1 u) (pc + 3) lv ((ret u).toList ++ rest)) : J p l e R s m args below meth c D A nL cells slots Q ws pc lv st0 := fun H locs ls hP hD hS hl => by
  have hPc := hP.sub (ws' := wc) isC (fm_of hC)
  have hDc := hD.sub isC hnd.1 hC
  have hFc := va_free (wc := wc) hD hS C.2.2.2.2.2.2.2 isC hC
  have hts := C.2.2.2.2.1
  have hK := C.2.2.2.2.2.1
  have hG := wq_G hcd
  subst hst
  refine call_x (va_runS (As := As) (rest := rest) ⟨C.1, C.2.1, C.2.2.1, C.2.2.2.1, hts⟩ (K H.size) ⟨callB_of n hts hG rfl hR.1 hR.2.1 (hts _ hini) (hts _ hlk) hy ⟨hR.2.2.1, hR.2.2.2⟩, hts _ hsc⟩ ⟨preK_blind _ wc H.size, fun U hU hW => ⟨rfl, by rw [hU], by rw [hU]; exact hPc, va_K.moved hW.alike hK, hDc.weaken (fun _ _ _ _ => trivial), NX.warm hW C.2.2.2.2.2.2.1.1, NL.warm hW C.2.2.2.2.2.2.1.2.1, by rw [hU]; exact ((C.2.2.2.2.2.2.1.2.2.kept hS.2.1).moved hW.alike).narrow hFc⟩⟩ rfl hnA hl.1 rfl (lv_room hrs) hd hf) hS (fun q _ h => hFc q h) hFc (fun u t H1 locs1 ht hvm hw hB hz1 hk1 hS1 => ?_)
  obtain ⟨hP1, hK1, hD1⟩ := hB
  rw [ht] at hP1
  obtain ⟨hP2, hD2⟩ := va_join hP hD isC isR hC hRr hnd.2.1 hnd.2.2 hk1 hFc hP1 hD1
  exact kk u hw H1 locs1 ls hP2 hD2 hS1 hl
theorem j_callI (C : CX p R s m args meth c cc own nL D tys A) {y : MethodName} {bytes : ByteArray} {maxL ix b n mc ms : Nat} {rm : Room} {As : List Value} {wc wr : va_W} {ret : SU → Option Value} {post : SU → Prop} {w1 : SU → va_W}
    (K : KK l D tys y bytes maxL none rm mc ms (.ref b :: As) wc ret post w1)
    (hcd : Cond.code y bytes maxL none ∈ WALL) (hini : Cond.initialized y.cls ∈ WALL) (hlk : Cond.methodLink own ix y ∈ WALL) (him : Cond.instanceMethod y ∈ WALL) (hnm : y.name = "<init>")
    (hy : y.cls ≠ "java/lang/invoke/MethodHandle" ∧ y.cls ≠ "java/lang/invoke/VarHandle" ∧ (parseMethodDescriptor y.desc).map (fun d => d.parameters.length) = some n) (hnA : As.length = n)
    (hR : rm.cells = mc ∧ rm.slots = ms ∧ rm.frames + 1 ≤ R.frames ∧ 8 + (maxL + 11) + rm.locals ≤ R.locals) (hf : cells + mc ≤ R.cells ∧ slots + ms ≤ R.slots)
    (isC isR : List Nat) (hC : isC.map (fun i => ws[i]?) = wc.map some) (hRr : isR.map (fun i => ws[i]?) = wr.map some) (hnd : va_nd isC = true ∧ va_nd isR = true ∧ ∀ i ∈ isR, i ∉ isC)
    (hst : st0 = As.reverse ++ .ref b :: rest) (hrs : (rest.map fun v => v.category).sum ≤ 8) (hd : decode cc pc = .ok (.invokespecial ix, 3))
    (kk : ∀ u : SU, post u → J p l e R s m args below meth c D A nL (cells + mc) (slots + ms) Q (wr ++ w1 u) (pc + 3) lv ((ret u).toList ++ rest)) : J p l e R s m args below meth c D A nL cells slots Q ws pc lv st0 := fun H locs ls hP hD hS hl => by
  have hPc := hP.sub (ws' := wc) isC (fm_of hC)
  have hDc := hD.sub isC hnd.1 hC
  have hFc := va_free (wc := wc) hD hS C.2.2.2.2.2.2.2 isC hC
  have hts := C.2.2.2.2.1
  have hK := C.2.2.2.2.2.1
  have hG := wq_G hcd
  subst hst
  refine call_x (va_runI (As := As) (rest := rest) ⟨C.1, C.2.1, C.2.2.1, C.2.2.2.1, hts⟩ (K H.size) ⟨callB_of n hts hG rfl hR.1 hR.2.1 (hts _ hini) (hts _ hlk) hy ⟨hR.2.2.1, hR.2.2.2⟩, hnm, hts _ him⟩ ⟨preK_blind _ wc H.size, fun U hU hW => ⟨rfl, by rw [hU], by rw [hU]; exact hPc, va_K.moved hW.alike hK, hDc.weaken (fun _ _ _ _ => trivial), NX.warm hW C.2.2.2.2.2.2.1.1, NL.warm hW C.2.2.2.2.2.2.1.2.1, by rw [hU]; exact ((C.2.2.2.2.2.2.1.2.2.kept hS.2.1).moved hW.alike).narrow hFc⟩⟩ rfl hnA hl.1 rfl (lv_room hrs) hd hf) hS (fun q _ h => hFc q h) hFc (fun u t H1 locs1 ht hvm hw hB hz1 hk1 hS1 => ?_)
  obtain ⟨hP1, hK1, hD1⟩ := hB
  rw [ht] at hP1
  obtain ⟨hP2, hD2⟩ := va_join hP hD isC isR hC hRr hnd.2.1 hnd.2.2 hk1 hFc hP1 hD1
  exact kk u hw H1 locs1 ls hP2 hD2 hS1 hl
theorem j_callN (C : CX p R s m args meth c cc own nL D tys A) {y : MethodName} {bytes : ByteArray} {maxL ix b n mc ms : Nat} {rm : Room} {As : List Value} {wc wr : va_W} {ret : SU → Option Value} {post : SU → Prop} {w1 : SU → va_W} {host : String}
    (K : KK l D tys y bytes maxL none rm mc ms (.ref b :: As) wc ret post w1)
    (hcd : Cond.code y bytes maxL none ∈ WALL) (hini : Cond.initialized y.cls ∈ WALL) (hlk : va_Nw (.methodLinkNest own ix y host) s) (him : Cond.instanceMethod y ∈ WALL) (hnm : y.name = "<init>")
    (hy : y.cls ≠ "java/lang/invoke/MethodHandle" ∧ y.cls ≠ "java/lang/invoke/VarHandle" ∧ (parseMethodDescriptor y.desc).map (fun d => d.parameters.length) = some n) (hnA : As.length = n)
    (hR : rm.cells = mc ∧ rm.slots = ms ∧ rm.frames + 1 ≤ R.frames ∧ 8 + (maxL + 11) + rm.locals ≤ R.locals) (hf : cells + mc ≤ R.cells ∧ slots + ms ≤ R.slots)
    (isC isR : List Nat) (hC : isC.map (fun i => ws[i]?) = wc.map some) (hRr : isR.map (fun i => ws[i]?) = wr.map some) (hnd : va_nd isC = true ∧ va_nd isR = true ∧ ∀ i ∈ isR, i ∉ isC)
    (hst : st0 = As.reverse ++ .ref b :: rest) (hrs : (rest.map fun v => v.category).sum ≤ 8) (hd : decode cc pc = .ok (.invokespecial ix, 3))
    (kk : ∀ u : SU, post u → J p l e R s m args below meth c D A nL (cells + mc) (slots + ms) Q (wr ++ w1 u) (pc + 3) lv ((ret u).toList ++ rest)) : J p l e R s m args below meth c D A nL cells slots Q ws pc lv st0 := fun H locs ls hP hD hS hl => by
  have hPc := hP.sub (ws' := wc) isC (fm_of hC)
  have hDc := hD.sub isC hnd.1 hC
  have hFc := va_free (wc := wc) hD hS C.2.2.2.2.2.2.2 isC hC
  have hts := C.2.2.2.2.1
  have hK := C.2.2.2.2.2.1
  have hG := wq_G hcd
  subst hst
  refine call_x (va_runIN (As := As) (rest := rest) ⟨C.1, C.2.1, C.2.2.1, C.2.2.2.1, hts⟩ (K H.size) ⟨va_cnB n hts hG rfl hR.1 hR.2.1 hlk (hts _ hini) hy ⟨hR.2.2.1, hR.2.2.2⟩, hnm, hts _ him⟩ ⟨preK_blind _ wc H.size, fun U hU hW => ⟨rfl, by rw [hU], by rw [hU]; exact hPc, va_K.moved hW.alike hK, hDc.weaken (fun _ _ _ _ => trivial), NX.warm hW C.2.2.2.2.2.2.1.1, NL.warm hW C.2.2.2.2.2.2.1.2.1, by rw [hU]; exact ((C.2.2.2.2.2.2.1.2.2.kept hS.2.1).moved hW.alike).narrow hFc⟩⟩ rfl hnA hl.1 rfl (lv_room hrs) hd hf) hS (fun q _ h => hFc q h) hFc (fun u t H1 locs1 ht hvm hw hB hz1 hk1 hS1 => ?_)
  obtain ⟨hP1, hK1, hD1⟩ := hB
  rw [ht] at hP1
  obtain ⟨hP2, hD2⟩ := va_join hP hD isC isR hC hRr hnd.2.1 hnd.2.2 hk1 hFc hP1 hD1
  exact kk u hw H1 locs1 ls hP2 hD2 hS1 hl
theorem j_callT (C : CX p R s m args meth c cc own nL D tys A) {y : MethodName} {bytes : ByteArray} {maxL ix i9 n mc ms : Nat} {rt : Option FieldType} {rm : Room} {As : List Value} {wc wr : va_W} {ret : SU → Option Value} {post : SU → Prop} {w1 : SU → va_W}
    (K : KK l D tys y bytes maxL rt rm mc ms (.ref (D.2.1 i9) :: As) wc ret post w1)
    (hcd : Cond.code y bytes maxL rt ∈ WALL) (hini : Cond.initialized y.cls ∈ WALL) (hlk : Cond.methodLink own ix y ∈ WALL) (him : Cond.instanceMethod y ∈ WALL) (hsl : Cond.selects y.cls y y ∈ WALL)
    (hy : y.cls ≠ "java/lang/invoke/MethodHandle" ∧ y.cls ≠ "java/lang/invoke/VarHandle" ∧ (parseMethodDescriptor y.desc).map (fun d => d.parameters.length) = some n) (hnA : As.length = n)
    (hR : rm.cells = mc ∧ rm.slots = ms ∧ rm.frames + 1 ≤ R.frames ∧ 8 + (maxL + 11) + rm.locals ≤ R.locals) (hf : cells + mc ≤ R.cells ∧ slots + ms ≤ R.slots)
    (isC isR : List Nat) (hC : isC.map (fun i => ws[i]?) = wc.map some) (hRr : isR.map (fun i => ws[i]?) = wr.map some) (hnd : va_nd isC = true ∧ va_nd isR = true ∧ ∀ i ∈ isR, i ∉ isC) (hi9 : i9 < 43) (hcls : y.cls = "java/lang/String")
    (hst : st0 = As.reverse ++ .ref (D.2.1 i9) :: rest) (hrs : (rest.map fun v => v.category).sum ≤ 8) (hd : decode cc pc = .ok (.invokevirtual ix, 3))
    (kk : ∀ u : SU, post u → J p l e R s m args below meth c D A nL (cells + mc) (slots + ms) Q (wr ++ w1 u) (pc + 3) lv ((ret u).toList ++ rest)) : J p l e R s m args below meth c D A nL cells slots Q ws pc lv st0 := fun H locs ls hP hD hS hl => by
  have hPc := hP.sub (ws' := wc) isC (fm_of hC)
  have hDc := hD.sub isC hnd.1 hC
  have hFc := va_free (wc := wc) hD hS C.2.2.2.2.2.2.2 isC hC
  have hts := C.2.2.2.2.1
  have hK := C.2.2.2.2.2.1
  have hG := wq_G hcd
  subst hst
  refine call_x (va_runV (As := As) (rest := rest) ⟨C.1, C.2.1, C.2.2.1, C.2.2.2.1, hts⟩ (K H.size) ⟨callB_of n hts hG rfl hR.1 hR.2.1 (hts _ hini) (hts _ hlk) hy ⟨hR.2.2.1, hR.2.2.2⟩, hts _ him, hts _ hsl⟩ ⟨preK_blind _ wc H.size, by (rw [hcls]; exact va_Orecv (C.2.2.2.2.2.2.1.2.2.1 i9 hi9).1 hS), fun U hU hW => ⟨rfl, by rw [hU], by rw [hU]; exact hPc, va_K.moved hW.alike hK, hDc.weaken (fun _ _ _ _ => trivial), NX.warm hW C.2.2.2.2.2.2.1.1, NL.warm hW C.2.2.2.2.2.2.1.2.1, by rw [hU]; exact ((C.2.2.2.2.2.2.1.2.2.kept hS.2.1).moved hW.alike).narrow hFc⟩⟩ rfl hnA hl.1 rfl (lv_room hrs) hd hf) hS (fun q _ h => hFc q h) hFc (fun u t H1 locs1 ht hvm hw hB hz1 hk1 hS1 => ?_)
  obtain ⟨hP1, hK1, hD1⟩ := hB
  rw [ht] at hP1
  obtain ⟨hP2, hD2⟩ := va_join hP hD isC isR hC hRr hnd.2.1 hnd.2.2 hk1 hFc hP1 hD1
  exact kk u hw H1 locs1 ls hP2 hD2 hS1 hl
theorem j_iret (C : CX p R s m args meth c cc own nL D tys A) {v : Int32} (hr : meth.sig.returnType = some .int) {ret : SU → Option Value} {post : SU → Prop} {w1 : SU → va_W} {mc ms : Nat} (hk : meth.locks = false) (u : SU) (hv : ret u = some (.int v)) (hp : post u) (is : List Nat) (hn : va_nd is = true) (hs : is.map (fun i => ws[i]?) = (w1 u).map some) (h1 : cells ≤ mc) (h2 : slots ≤ ms) (hd : decode cc pc = .ok (.ireturn, 1)) : J p l e R s m args below meth c D A nL cells slots (QX below D tys A ret post w1 args s mc ms) ws pc lv [.int v] := fun H locs ls hP hD hS hl => by
  have hP9 := hP.sub (ws' := w1 u) is (fm_of hs)
  have hD9 := hD.sub is hn hs
  exact W.widen h1 h2 (W.iret C.1 C.2.1 hr (fun t ht hW => ⟨⟨u, by rw [hv], hp, by rw [ht]; exact hP9, va_K.moved hW.alike C.2.2.2.2.2.1, hD9⟩, hS.F ht⟩) hS.2.2 hd hk)
theorem j_zret (C : CX p R s m args meth c cc own nL D tys A) {v : Int32} {ty : FieldType} (hr : meth.sig.returnType = some ty) (hnw : narrow ty (.int v) = .int v) {ret : SU → Option Value} {post : SU → Prop} {w1 : SU → va_W} {mc ms : Nat} (hk : meth.locks = false) (u : SU) (hv : ret u = some (.int v)) (hp : post u) (is : List Nat) (hn : va_nd is = true) (hs : is.map (fun i => ws[i]?) = (w1 u).map some) (h1 : cells ≤ mc) (h2 : slots ≤ ms) (hd : decode cc pc = .ok (.ireturn, 1)) : J p l e R s m args below meth c D A nL cells slots (QX below D tys A ret post w1 args s mc ms) ws pc lv [.int v] := fun H locs ls hP hD hS hl => by
  have hP9 := hP.sub (ws' := w1 u) is (fm_of hs)
  have hD9 := hD.sub is hn hs
  exact W.widen h1 h2 (W.zret C.1 C.2.1 hr hnw (fun t ht hW => ⟨⟨u, by rw [hv], hp, by rw [ht]; exact hP9, va_K.moved hW.alike C.2.2.2.2.2.1, hD9⟩, hS.F ht⟩) hS.2.2 hd hk)
theorem j_vret (C : CX p R s m args meth c cc own nL D tys A) (hr : meth.sig.returnType = none) {ret : SU → Option Value} {post : SU → Prop} {w1 : SU → va_W} {mc ms : Nat} (hk : meth.locks = false) (u : SU) (hv : ret u = none) (hp : post u) (is : List Nat) (hn : va_nd is = true) (hs : is.map (fun i => ws[i]?) = (w1 u).map some) (h1 : cells ≤ mc) (h2 : slots ≤ ms) (hd : decode cc pc = .ok (.return_, 1)) : J p l e R s m args below meth c D A nL cells slots (QX below D tys A ret post w1 args s mc ms) ws pc lv [] := fun H locs ls hP hD hS hl => by
  have hP9 := hP.sub (ws' := w1 u) is (fm_of hs)
  have hD9 := hD.sub is hn hs
  exact W.widen h1 h2 (W.vret C.1 C.2.1 hr (fun t ht hW => ⟨⟨u, by rw [hv], hp, by rw [ht]; exact hP9, va_K.moved hW.alike C.2.2.2.2.2.1, hD9⟩, hS.F ht⟩) hS.2.2 hd hk)
theorem j_lret (C : CX p R s m args meth c cc own nL D tys A) {v : Int64} (hr : meth.sig.returnType = some .long) {ret : SU → Option Value} {post : SU → Prop} {w1 : SU → va_W} {mc ms : Nat} (hk : meth.locks = false) (u : SU) (hv : ret u = some (.long v)) (hp : post u) (is : List Nat) (hn : va_nd is = true) (hs : is.map (fun i => ws[i]?) = (w1 u).map some) (h1 : cells ≤ mc) (h2 : slots ≤ ms) (hd : decode cc pc = .ok (.lreturn, 1)) : J p l e R s m args below meth c D A nL cells slots (QX below D tys A ret post w1 args s mc ms) ws pc lv [.long v] := fun H locs ls hP hD hS hl => by
  have hP9 := hP.sub (ws' := w1 u) is (fm_of hs)
  have hD9 := hD.sub is hn hs
  exact W.widen h1 h2 (W.lret C.1 C.2.1 hr (fun t ht hW => ⟨⟨u, by rw [hv], hp, by rw [ht]; exact hP9, va_K.moved hW.alike C.2.2.2.2.2.1, hD9⟩, hS.F ht⟩) hS.2.2 hd hk)
theorem j_aret (C : CX p R s m args meth c cc own nL D tys A) {v : Nat} {rf : FieldType} (hr : meth.sig.returnType = some rf) (hrt : (∃ n, rf = .object n) ∨ ∃ t, rf = .array t) {ret : SU → Option Value} {post : SU → Prop} {w1 : SU → va_W} {mc ms : Nat} (hk : meth.locks = false) (u : SU) (hv : ret u = some (.ref v)) (hp : post u) (is : List Nat) (hn : va_nd is = true) (hs : is.map (fun i => ws[i]?) = (w1 u).map some) (h1 : cells ≤ mc) (h2 : slots ≤ ms) (hd : decode cc pc = .ok (.areturn, 1)) : J p l e R s m args below meth c D A nL cells slots (QX below D tys A ret post w1 args s mc ms) ws pc lv [.ref v] := fun H locs ls hP hD hS hl => by
  have hP9 := hP.sub (ws' := w1 u) is (fm_of hs)
  have hD9 := hD.sub is hn hs
  exact W.widen h1 h2 (W.aret C.1 C.2.1 hr hrt (Or.inr ⟨v, rfl⟩) (fun t ht hW => ⟨⟨u, by rw [hv], hp, by rw [ht]; exact hP9, va_K.moved hW.alike C.2.2.2.2.2.1, hD9⟩, hS.F ht⟩) hS.2.2 hd hk)
end KR
