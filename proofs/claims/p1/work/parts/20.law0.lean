theorem dL_law_23 : decode cL_law 23 = .ok (.iload 4, 2) := by decide +kernel
theorem dL_law_25 : decode cL_law 25 = .ok (.aload_n 0, 1) := by decide +kernel
theorem dL_law_26 : decode cL_law 26 = .ok (.arraylength, 1) := by decide +kernel
theorem dL_law_27 : decode cL_law 27 = .ok (.bipush 7, 2) := by decide +kernel
theorem dL_law_29 : decode cL_law 29 = .ok (.isub, 1) := by decide +kernel
theorem dL_law_30 : decode cL_law 30 = .ok (.if_icmp .gt 1192, 3) := by decide +kernel
theorem dL_law_1216 : decode cL_law 1216 = .ok (.iinc 4 7, 3) := by decide +kernel
theorem dL_law_1219 : decode cL_law 1219 = .ok (.goto (-1196), 3) := by decide +kernel
theorem dL_law_1222 : decode cL_law 1222 = .ok (.iconst 1, 1) := by decide +kernel
theorem dL_law_1223 : decode cL_law 1223 = .ok (.ireturn, 1) := by decide +kernel
/-! THE CLAIM OUT OF ONE WALK OF THE LAW'S BODY. Your part is whole_start (and what it stands on); all else here is the same for every law, but numbers. -/
def R_law : String := "BowlShelfLaw"
def lw_P (b : Addr) (xs : List Int32) (args : Array Value) (s : State) : Prop := args = #[.ref b] ∧ s.IntsAt b xs ∧ xs.length ≤ 7 ∧ (Jvm.Cond.and given_1 narrow_1).before args s = true
def lw_Q (_ : Array Value) (s : State) (o : Outcome) (t : State) : Prop := o = .returned (some (.int 1)) ∧ Framed s o t [] 600002 7302232
def lw_Z (below : List Frame) (a : Array Value) (s : State) : State → Prop := fun t => ∃ o, t.status = .running ∧ Ended t below o ∧ lw_Q a s o t
/-- the law's own end, with 1 on the stack, nothing written that was there before, its room as the claim has it -/
theorem lw_ret {p : Program} {l : Launch} {e : Env} {s : State} {m : MethodId} {below : List Frame} {meth : Method} {c : Code} {b : Nat} (hx : p.tables.exec = Jvm.exec) (hb : c.code = code) (hr : meth.sig.returnType = ret) (hlocks : meth.locks = false) {pc : Nat} {H : Heap} {ls : Array Slot} (hdg : decode code pc = .ok (.ireturn, 1)) : W p l e room_1 s m #[Value.ref b] below meth c H [] 600002 7302232 (lw_Z below #[Value.ref b] s) (F0 m pc ls [.int 1]) := by
  intro T hT X
  obtain ⟨fs, hret, hrun, hended, hW, hframe⟩ := X.leave (v := some (.int 1)) (hlocks := hlocks) (fun h => by rw [hr] at h; cases h)
  have hmeth' : T.vm.method? m = some meth := X.method'
  refine ⟨T.setFrames fs, ?_, .returned (some (.int 1)), hrun, hended, rfl, ⟨_, rfl⟩, hW, hframe⟩
  jvm_step X.here [X.here.top, hx, hb, hdg, hmeth', hr, ret, narrow_b1]
  (try refine ⟨rfl, ?_⟩); (try refine ⟨rfl, ?_⟩)
  first | (intro acts; rw [hret _ acts rfl rfl rfl]) | rw [hret _ _ rfl rfl rfl]
  exact Steps.refl _
/-- what holds at the law's entry: the machine, the code, the tables' words (any of lw_tbl by 'hts w (by decide +kernel)'), the script of L ints xs at the cell b, what the Statement gives of the start (any of its parts by flat_of_before) -/
def lw_At (p : Program) (s : State) (m : MethodId) (meth : Method) (c : Code) (b L : Nat) (xs : Nat → Int32) : Prop :=
  p.tables.exec = Jvm.exec ∧ c.code = code ∧ meth.sig.returnType = ret ∧ c.maxLocals = 8 ∧ s.vm.findClass R_law = some m.cls ∧ (∀ w ∈ lw_tbl, w.before #[Value.ref b] s = true) ∧ va_X b L xs s s.heap ∧ b < s.heap.size ∧ meth.locks = false ∧ (Jvm.Cond.and given_1 narrow_1).before #[Value.ref b] s = true
section LW
variable {p : Program} {l : Launch} {e : Env} {R : Room} {s : State} {m : MethodId} {args : Array Value} {below : List Frame} {meth : Method} {c : Code} {cc : ByteArray} {own : String} {nL : Nat} {D : va_G} {tys : List (ClassId × FieldType)} {A : Nat → Prop} {cells slots : Nat} {Q : State → Prop} {ws ws' : va_W} {pc : Nat} {lv lv' : List (Nat × Value)} {rest : List Value}
theorem j_sub (is : List Nat) (hn : va_nd is = true) (hs : is.map (fun i => ws[i]?) = ws'.map some) (kk : J p l e R s m args below meth c D A nL cells slots Q ws' pc lv rest) : J p l e R s m args below meth c D A nL cells slots Q ws pc lv rest := fun H locs ls hP hD hS hl => kk H locs ls (hP.sub is (fm_of hs)) (hD.sub is hn hs) hS hl
theorem j_sld (C : CX p R s m args meth c cc own nL D tys A) {b L : Nat} {xs : Nat → Int32} (hX : va_X b L xs s s.heap) (hbl : b < s.heap.size) (hbA : ¬ A b) {i : Int32} {k : Nat} (h0 : ¬ i < 0) (hk : i.toNatClampNeg = k) (hlt : k < L) (hd : decode cc pc = .ok (.iaload, 1))
    (kk : J p l e R s m args below meth c D A nL cells slots Q ws (pc + 1) lv (.int (xs k) :: rest)) : J p l e R s m args below meth c D A nL cells slots Q ws pc lv (.int i :: .ref b :: rest) := fun H locs ls hP hD hS hl => va_sld C.1 C.2.1 hX hbl hbA hS (vin h0 hk hlt) hd (by rw [hk]; exact kk H locs ls hP hD hS hl)
theorem j_slen (C : CX p R s m args meth c cc own nL D tys A) {b L : Nat} {xs : Nat → Int32} (hX : va_X b L xs s s.heap) (hbl : b < s.heap.size) (hbA : ¬ A b) {v : Int32} (hv : Int32.ofNat L = v) (hd : decode cc pc = .ok (.arraylength, 1))
    (kk : J p l e R s m args below meth c D A nL cells slots Q ws (pc + 1) lv (.int v :: rest)) : J p l e R s m args below meth c D A nL cells slots Q ws pc lv (.ref b :: rest) := fun H locs ls hP hD hS hl => va_slen C.1 C.2.1 hX hbl hbA hS hd (by rw [hv]; exact kk H locs ls hP hD hS hl)
end LW
def LX (p : Program) (s : State) (m : MethodId) (meth : Method) (c : Code) (b L : Nat) (xs : Nat → Int32) (D : va_G) (cyC cyI cyJ cyZ cyO : ClassId) : Prop := CX p room_1 s m #[Value.ref b] meth c cL_law RL 8 D (TY cyC cyI cyJ cyZ cyO) (fun q : Nat => s.heap.size ≤ q) ∧ va_X b L xs s s.heap ∧ b < s.heap.size ∧ meth.sig.returnType = ret ∧ meth.locks = false
theorem lw_end {p : Program} {l : Launch} {e : Env} {s : State} {m : MethodId} {below : List Frame} {meth : Method} {c : Code} {b L : Nat} {xs : Nat → Int32} {D : va_G} {cyC cyI cyJ cyZ cyO : ClassId} {cells slots : Nat} {ws : va_W} {lv : List (Nat × Value)} (X : LX p s m meth c b L xs D cyC cyI cyJ cyZ cyO) (h1 : cells ≤ 600002) (h2 : slots ≤ 7302232) {pc : Nat} (hd : decode cL_law pc = .ok (.ireturn, 1)) :
    J p l e room_1 s m #[Value.ref b] below meth c D (fun q : Nat => s.heap.size ≤ q) 8 cells slots (lw_Z below #[Value.ref b] s) ws pc lv [.int 1] := fun H locs ls hP hD hS hl =>
  va_forget (fun q hq => hS.2.2 q hq) (W.widen h1 h2 (lw_ret X.1.1 X.1.2.1 X.2.2.2.1 X.2.2.2.2 hd))

set_option maxHeartbeats 4000000 in
set_option maxRecDepth 100000 in
theorem law_tail {p : Program} {l : Launch} {e : Env} {s : State} {m : MethodId} {below : List Frame} {meth : Method} {c : Code} {b : Nat} {xs : Nat → Int32} {D : va_G} {cyC cyI cyJ cyZ cyO : ClassId} {cells slots : Nat} {o0 g0 t0 : Nat} {ws : va_W} (X : LX p s m meth c b 7 xs D cyC cyI cyJ cyZ cyO) (h1 : cells ≤ 600002) (h2 : slots ≤ 7302232) : J p l e room_1 s m #[Value.ref b] below meth c D (fun q : Nat => s.heap.size ≤ q) 8 cells slots (lw_Z below #[Value.ref b] s) ws 1216 [(4, .int 0), (3, .ref o0), (2, .ref g0), (1, .ref t0), (0, .ref b)] [] := by
  have C := X.1
  have hX := X.2.1
  have hbl := X.2.2.1
  have hbA : ¬ (fun q : Nat => s.heap.size ≤ q) b := Nat.not_le.mpr hbl
  refine j_iinc (pc := 1216) (v := 7) (lv' := [(4, .int 7), (3, .ref o0), (2, .ref g0), (1, .ref t0), (0, .ref b)]) C dL_law_1216 0 rfl (by decide) (by decide) rfl ?_
  refine j_goto (pc := 1219) (tgt := 23) C dL_law_1219 (by decide) ?_
  refine j_iload (pc := 23) C dL_law_23 0 rfl ?_
  refine j_aload_n (pc := 25) C dL_law_25 rfl 4 rfl ?_
  refine j_slen (pc := 26) (v := 7) C hX hbl hbA rfl dL_law_26 ?_
  refine j_bipush (pc := 27) (v := 7) C dL_law_27 (by decide) ?_
  refine j_isub (pc := 29) (v := 0) C dL_law_29 (by decide) ?_
  refine j_icmp_gt_t (pc := 30) (tgt := 1222) C dL_law_30 (by decide) (by decide) ?_
  refine j_iconst (pc := 1222) (v := 1) C dL_law_1222 (by decide) ?_
  exact lw_end X h1 h2 dL_law_1223
