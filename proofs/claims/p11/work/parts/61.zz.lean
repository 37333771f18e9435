theorem wd_949 : Cond.code yX11_cutAll cX11_cutAll 7 none ∈ WALL := wl_in (by decide +kernel) (by decide +kernel)
theorem wd_950 : Cond.methodLink RX11 191 yX11_cutAll ∈ WALL := wl_in (by decide +kernel) (by decide +kernel)
theorem wd_951 : Cond.instanceMethod yX11_cutAll ∈ WALL := wl_in (by decide +kernel) (by decide +kernel)
theorem wd_952 : Cond.selects RX11 yX11_cutAll yX11_cutAll ∈ WALL := wl_in (by decide +kernel) (by decide +kernel)
theorem wd_953 : Cond.code yX11_readLine cX11_readLine 3 none ∈ WALL := wl_in (by decide +kernel) (by decide +kernel)
theorem wd_954 : Cond.methodLink RX11 197 yX11_readLine ∈ WALL := wl_in (by decide +kernel) (by decide +kernel)
theorem wd_955 : Cond.instanceMethod yX11_readLine ∈ WALL := wl_in (by decide +kernel) (by decide +kernel)
theorem wd_956 : Cond.selects RX11 yX11_readLine yX11_readLine ∈ WALL := wl_in (by decide +kernel) (by decide +kernel)
theorem dX11_cupboard_0 : decode cX11_cupboard 0 = .ok (.aload_n 0, 1) := by decide +kernel
theorem dX11_cupboard_1 : decode cX11_cupboard 1 = .ok (.iconst 0, 1) := by decide +kernel
theorem dX11_cupboard_2 : decode cX11_cupboard 2 = .ok (.putfield 1, 3) := by decide +kernel
theorem dX11_cupboard_5 : decode cX11_cupboard 5 = .ok (.aload_n 0, 1) := by decide +kernel
theorem dX11_cupboard_6 : decode cX11_cupboard 6 = .ok (.invokevirtual 191, 3) := by decide +kernel
theorem dX11_cupboard_9 : decode cX11_cupboard 9 = .ok (.aload_n 0, 1) := by decide +kernel
theorem dX11_cupboard_10 : decode cX11_cupboard 10 = .ok (.iconst 0, 1) := by decide +kernel
theorem dX11_cupboard_11 : decode cX11_cupboard 11 = .ok (.putfield 194, 3) := by decide +kernel
theorem dX11_cupboard_14 : decode cX11_cupboard 14 = .ok (.iconst 0, 1) := by decide +kernel
theorem dX11_cupboard_15 : decode cX11_cupboard 15 = .ok (.istore_n 1, 1) := by decide +kernel
theorem dX11_cupboard_16 : decode cX11_cupboard 16 = .ok (.iload_n 1, 1) := by decide +kernel
theorem dX11_cupboard_17 : decode cX11_cupboard 17 = .ok (.bipush 120, 2) := by decide +kernel
theorem dX11_cupboard_19 : decode cX11_cupboard 19 = .ok (.if_icmp .ge 19, 3) := by decide +kernel
theorem dX11_cupboard_22 : decode cX11_cupboard 22 = .ok (.aload_n 0, 1) := by decide +kernel
theorem dX11_cupboard_23 : decode cX11_cupboard 23 = .ok (.getfield 83, 3) := by decide +kernel
theorem dX11_cupboard_26 : decode cX11_cupboard 26 = .ok (.bipush 120, 2) := by decide +kernel
theorem dX11_cupboard_28 : decode cX11_cupboard 28 = .ok (.iload_n 1, 1) := by decide +kernel
theorem dX11_cupboard_29 : decode cX11_cupboard 29 = .ok (.iadd, 1) := by decide +kernel
theorem dX11_cupboard_30 : decode cX11_cupboard 30 = .ok (.iconst 0, 1) := by decide +kernel
theorem dX11_cupboard_31 : decode cX11_cupboard 31 = .ok (.iastore, 1) := by decide +kernel
theorem dX11_cupboard_32 : decode cX11_cupboard 32 = .ok (.iinc 1 1, 3) := by decide +kernel
theorem dX11_cupboard_35 : decode cX11_cupboard 35 = .ok (.goto (-19), 3) := by decide +kernel
theorem dX11_cupboard_38 : decode cX11_cupboard 38 = .ok (.iconst 0, 1) := by decide +kernel
theorem dX11_cupboard_39 : decode cX11_cupboard 39 = .ok (.istore_n 1, 1) := by decide +kernel
theorem dX11_cupboard_40 : decode cX11_cupboard 40 = .ok (.iload_n 1, 1) := by decide +kernel
theorem dX11_cupboard_41 : decode cX11_cupboard 41 = .ok (.bipush 12, 2) := by decide +kernel
theorem dX11_cupboard_43 : decode cX11_cupboard 43 = .ok (.if_icmp .ge 16, 3) := by decide +kernel
theorem dX11_cupboard_46 : decode cX11_cupboard 46 = .ok (.aload_n 0, 1) := by decide +kernel
theorem dX11_cupboard_47 : decode cX11_cupboard 47 = .ok (.getfield 95, 3) := by decide +kernel
theorem dX11_cupboard_50 : decode cX11_cupboard 50 = .ok (.iload_n 1, 1) := by decide +kernel
theorem dX11_cupboard_51 : decode cX11_cupboard 51 = .ok (.iconst 0, 1) := by decide +kernel
theorem dX11_cupboard_52 : decode cX11_cupboard 52 = .ok (.bastore, 1) := by decide +kernel
theorem dX11_cupboard_53 : decode cX11_cupboard 53 = .ok (.iinc 1 1, 3) := by decide +kernel
theorem dX11_cupboard_56 : decode cX11_cupboard 56 = .ok (.goto (-16), 3) := by decide +kernel
theorem dX11_cupboard_59 : decode cX11_cupboard 59 = .ok (.aload_n 0, 1) := by decide +kernel
theorem dX11_cupboard_60 : decode cX11_cupboard 60 = .ok (.getfield 175, 3) := by decide +kernel
theorem dX11_cupboard_63 : decode cX11_cupboard 63 = .ok (.ifCond .ne 28, 3) := by decide +kernel
theorem dX11_cupboard_66 : decode cX11_cupboard 66 = .ok (.aload_n 0, 1) := by decide +kernel
theorem dX11_cupboard_67 : decode cX11_cupboard 67 = .ok (.getfield 24, 3) := by decide +kernel
theorem dX11_cupboard_70 : decode cX11_cupboard 70 = .ok (.aload_n 0, 1) := by decide +kernel
theorem dX11_cupboard_71 : decode cX11_cupboard 71 = .ok (.getfield 172, 3) := by decide +kernel
theorem dX11_cupboard_74 : decode cX11_cupboard 74 = .ok (.iaload, 1) := by decide +kernel
theorem dX11_cupboard_75 : decode cX11_cupboard 75 = .ok (.ifCond .eq 16, 3) := by decide +kernel
theorem dX11_cupboard_78 : decode cX11_cupboard 78 = .ok (.aload_n 0, 1) := by decide +kernel
theorem dX11_cupboard_79 : decode cX11_cupboard 79 = .ok (.invokevirtual 197, 3) := by decide +kernel
theorem dX11_cupboard_82 : decode cX11_cupboard 82 = .ok (.aload_n 0, 1) := by decide +kernel
theorem dX11_cupboard_83 : decode cX11_cupboard 83 = .ok (.bipush 59, 2) := by decide +kernel
theorem dX11_cupboard_85 : decode cX11_cupboard 85 = .ok (.invokevirtual 200, 3) := by decide +kernel
theorem dX11_cupboard_88 : decode cX11_cupboard 88 = .ok (.goto (-29), 3) := by decide +kernel
theorem dX11_cupboard_91 : decode cX11_cupboard 91 = .ok (.aload_n 0, 1) := by decide +kernel
theorem dX11_cupboard_92 : decode cX11_cupboard 92 = .ok (.getfield 175, 3) := by decide +kernel
theorem dX11_cupboard_95 : decode cX11_cupboard 95 = .ok (.ifCond .le 8, 3) := by decide +kernel
theorem dX11_cupboard_98 : decode cX11_cupboard 98 = .ok (.aload_n 0, 1) := by decide +kernel
theorem dX11_cupboard_99 : decode cX11_cupboard 99 = .ok (.getfield 175, 3) := by decide +kernel
theorem dX11_cupboard_102 : decode cX11_cupboard 102 = .ok (.ireturn, 1) := by decide +kernel
theorem dX11_cupboard_103 : decode cX11_cupboard 103 = .ok (.iconst 0, 1) := by decide +kernel
theorem dX11_cupboard_104 : decode cX11_cupboard 104 = .ok (.istore_n 1, 1) := by decide +kernel
theorem dX11_cupboard_105 : decode cX11_cupboard 105 = .ok (.iload_n 1, 1) := by decide +kernel
theorem dX11_cupboard_106 : decode cX11_cupboard 106 = .ok (.bipush 120, 2) := by decide +kernel
theorem dX11_cupboard_108 : decode cX11_cupboard 108 = .ok (.if_icmp .ge 24, 3) := by decide +kernel
theorem dX11_cupboard_111 : decode cX11_cupboard 111 = .ok (.aload_n 0, 1) := by decide +kernel
theorem dX11_cupboard_112 : decode cX11_cupboard 112 = .ok (.getfield 83, 3) := by decide +kernel
theorem dX11_cupboard_115 : decode cX11_cupboard 115 = .ok (.iload_n 1, 1) := by decide +kernel
theorem dX11_cupboard_116 : decode cX11_cupboard 116 = .ok (.aload_n 0, 1) := by decide +kernel
theorem dX11_cupboard_117 : decode cX11_cupboard 117 = .ok (.getfield 83, 3) := by decide +kernel
theorem dX11_cupboard_120 : decode cX11_cupboard 120 = .ok (.bipush 120, 2) := by decide +kernel
theorem dX11_cupboard_122 : decode cX11_cupboard 122 = .ok (.iload_n 1, 1) := by decide +kernel
theorem dX11_cupboard_123 : decode cX11_cupboard 123 = .ok (.iadd, 1) := by decide +kernel
theorem dX11_cupboard_124 : decode cX11_cupboard 124 = .ok (.iaload, 1) := by decide +kernel
theorem dX11_cupboard_125 : decode cX11_cupboard 125 = .ok (.iastore, 1) := by decide +kernel
theorem dX11_cupboard_126 : decode cX11_cupboard 126 = .ok (.iinc 1 1, 3) := by decide +kernel
theorem dX11_cupboard_129 : decode cX11_cupboard 129 = .ok (.goto (-24), 3) := by decide +kernel
theorem dX11_cupboard_132 : decode cX11_cupboard 132 = .ok (.iconst 0, 1) := by decide +kernel
theorem dX11_cupboard_133 : decode cX11_cupboard 133 = .ok (.istore_n 1, 1) := by decide +kernel
theorem dX11_cupboard_134 : decode cX11_cupboard 134 = .ok (.iload_n 1, 1) := by decide +kernel
theorem dX11_cupboard_135 : decode cX11_cupboard 135 = .ok (.sipush 1100, 3) := by decide +kernel
theorem dX11_cupboard_138 : decode cX11_cupboard 138 = .ok (.if_icmp .ge 41, 3) := by decide +kernel
theorem dX11_cupboard_141 : decode cX11_cupboard 141 = .ok (.aload_n 0, 1) := by decide +kernel
theorem dX11_cupboard_142 : decode cX11_cupboard 142 = .ok (.getfield 86, 3) := by decide +kernel
theorem dX11_cupboard_145 : decode cX11_cupboard 145 = .ok (.iload_n 1, 1) := by decide +kernel
theorem dX11_cupboard_146 : decode cX11_cupboard 146 = .ok (.aload_n 0, 1) := by decide +kernel
theorem dX11_cupboard_147 : decode cX11_cupboard 147 = .ok (.getfield 86, 3) := by decide +kernel
theorem dX11_cupboard_150 : decode cX11_cupboard 150 = .ok (.sipush 1100, 3) := by decide +kernel
theorem dX11_cupboard_153 : decode cX11_cupboard 153 = .ok (.iload_n 1, 1) := by decide +kernel
theorem dX11_cupboard_154 : decode cX11_cupboard 154 = .ok (.iadd, 1) := by decide +kernel
theorem dX11_cupboard_155 : decode cX11_cupboard 155 = .ok (.iaload, 1) := by decide +kernel
theorem dX11_cupboard_156 : decode cX11_cupboard 156 = .ok (.iastore, 1) := by decide +kernel
theorem dX11_cupboard_157 : decode cX11_cupboard 157 = .ok (.aload_n 0, 1) := by decide +kernel
theorem dX11_cupboard_158 : decode cX11_cupboard 158 = .ok (.getfield 89, 3) := by decide +kernel
theorem dX11_cupboard_161 : decode cX11_cupboard 161 = .ok (.iload_n 1, 1) := by decide +kernel
theorem dX11_cupboard_162 : decode cX11_cupboard 162 = .ok (.aload_n 0, 1) := by decide +kernel
theorem dX11_cupboard_163 : decode cX11_cupboard 163 = .ok (.getfield 89, 3) := by decide +kernel
theorem dX11_cupboard_166 : decode cX11_cupboard 166 = .ok (.sipush 1100, 3) := by decide +kernel
theorem dX11_cupboard_169 : decode cX11_cupboard 169 = .ok (.iload_n 1, 1) := by decide +kernel
theorem dX11_cupboard_170 : decode cX11_cupboard 170 = .ok (.iadd, 1) := by decide +kernel
theorem dX11_cupboard_171 : decode cX11_cupboard 171 = .ok (.iaload, 1) := by decide +kernel
theorem dX11_cupboard_172 : decode cX11_cupboard 172 = .ok (.iastore, 1) := by decide +kernel
theorem dX11_cupboard_173 : decode cX11_cupboard 173 = .ok (.iinc 1 1, 3) := by decide +kernel
theorem dX11_cupboard_176 : decode cX11_cupboard 176 = .ok (.goto (-42), 3) := by decide +kernel
theorem dX11_cupboard_179 : decode cX11_cupboard 179 = .ok (.iconst 0, 1) := by decide +kernel
theorem dX11_cupboard_180 : decode cX11_cupboard 180 = .ok (.istore_n 1, 1) := by decide +kernel
theorem dX11_cupboard_181 : decode cX11_cupboard 181 = .ok (.iload_n 1, 1) := by decide +kernel
theorem dX11_cupboard_182 : decode cX11_cupboard 182 = .ok (.sipush 460, 3) := by decide +kernel
theorem dX11_cupboard_185 : decode cX11_cupboard 185 = .ok (.if_icmp .ge 16, 3) := by decide +kernel
theorem dX11_cupboard_188 : decode cX11_cupboard 188 = .ok (.aload_n 0, 1) := by decide +kernel
theorem dX11_cupboard_189 : decode cX11_cupboard 189 = .ok (.getfield 108, 3) := by decide +kernel
theorem dX11_cupboard_192 : decode cX11_cupboard 192 = .ok (.iload_n 1, 1) := by decide +kernel
theorem dX11_cupboard_193 : decode cX11_cupboard 193 = .ok (.iconst 0, 1) := by decide +kernel
theorem dX11_cupboard_194 : decode cX11_cupboard 194 = .ok (.iastore, 1) := by decide +kernel
theorem dX11_cupboard_195 : decode cX11_cupboard 195 = .ok (.iinc 1 1, 3) := by decide +kernel
theorem dX11_cupboard_198 : decode cX11_cupboard 198 = .ok (.goto (-17), 3) := by decide +kernel
theorem dX11_cupboard_201 : decode cX11_cupboard 201 = .ok (.iconst 0, 1) := by decide +kernel
theorem dX11_cupboard_202 : decode cX11_cupboard 202 = .ok (.istore_n 1, 1) := by decide +kernel
theorem dX11_cupboard_203 : decode cX11_cupboard 203 = .ok (.iload_n 1, 1) := by decide +kernel
theorem dX11_cupboard_204 : decode cX11_cupboard 204 = .ok (.iconst 4, 1) := by decide +kernel
theorem dX11_cupboard_205 : decode cX11_cupboard 205 = .ok (.if_icmp .ge 16, 3) := by decide +kernel
theorem dX11_cupboard_208 : decode cX11_cupboard 208 = .ok (.aload_n 0, 1) := by decide +kernel
theorem dX11_cupboard_209 : decode cX11_cupboard 209 = .ok (.getfield 111, 3) := by decide +kernel
theorem dX11_cupboard_212 : decode cX11_cupboard 212 = .ok (.iload_n 1, 1) := by decide +kernel
theorem dX11_cupboard_213 : decode cX11_cupboard 213 = .ok (.iconst 0, 1) := by decide +kernel
theorem dX11_cupboard_214 : decode cX11_cupboard 214 = .ok (.bastore, 1) := by decide +kernel
theorem dX11_cupboard_215 : decode cX11_cupboard 215 = .ok (.iinc 1 1, 3) := by decide +kernel
theorem dX11_cupboard_218 : decode cX11_cupboard 218 = .ok (.goto (-15), 3) := by decide +kernel
theorem dX11_cupboard_221 : decode cX11_cupboard 221 = .ok (.aload_n 0, 1) := by decide +kernel
theorem dX11_cupboard_222 : decode cX11_cupboard 222 = .ok (.iconst 1, 1) := by decide +kernel
theorem dX11_cupboard_223 : decode cX11_cupboard 223 = .ok (.putfield 145, 3) := by decide +kernel
theorem dX11_cupboard_226 : decode cX11_cupboard 226 = .ok (.iconst 0, 1) := by decide +kernel
theorem dX11_cupboard_227 : decode cX11_cupboard 227 = .ok (.ireturn, 1) := by decide +kernel
theorem WFm.fr {t o a t' o' a' : Nat → Int32} (h : WFm t o a) (h4 : (t 2).toInt ≤ 4) (ht : Fr 120 t t') (ho : Fr 1100 o o') (ha : Fr 1100 a a') : WFm t' o' a' := fun k hk => by
  rw [ht 2 (by decide)] at hk
  obtain ⟨e, h1, h2, h3⟩ := h k hk
  refine ⟨e, ?_, ?_, h3⟩
  · rw [ht (111 + k) (by omega)]; exact h1.frame (fun j hj => ho j (by omega)) (fun j hj => ha j (by omega))
  · rw [ho e h3]; exact h2
theorem CRs.told {f t t' : Nat → Int32} {b : Nat} (h : CRs f t b) (ht : Fr 120 t t') : CRs f t' b := fun s hs => by rw [ht _ (by omega)]; exact h s hs
theorem SI.told {f t t' mk : Nat → Int32} (h : SI f t mk) (ht : Fr 120 t t') : SI f t' mk := ⟨h.1, CRs.told h.2.1 ht, fun m h4 h1 => CRs.told (h.2.2 m h4 h1) ht⟩
theorem rI.told {t t' : Nat → Int32} (ht : Fr 120 t t') {a b : Int32} (ha : 0 ≤ a.toInt ∧ a.toInt ≤ 11) (hb : 0 ≤ b.toInt ∧ b.toInt ≤ 11) : rI t' a b = rI t a b := by
  unfold rI
  rw [ht (3 + 8 * a.toInt.toNat) (by omega), ht (3 + 8 * b.toInt.toNat) (by omega), ht (9 + 8 * b.toInt.toNat) (by omega), ht (4 + 8 * b.toInt.toNat) (by omega)]
theorem TALL.told {t t' my ta : Nat → Int32} (h : TALL t my ta) (h12 : (t 0).toInt ≤ 12) (ht : Fr 120 t t') : TALL t' my ta := by
  have e0 := ht 0 (by decide)
  intro x x0 x1 w w0 w1 wb
  rw [e0] at x1 w1
  rcases h x x0 x1 w w0 w1 wb with z | z
  · exact Or.inl z
  · refine Or.inr (fun hr => ?_)
    obtain ⟨l, l0, l1, l2, l3, l4⟩ := z hr
    refine ⟨l, l0, by rw [e0]; exact l1, l2, l3, ?_⟩
    rw [rI.told ht (by omega) (by omega)]; exact l4
theorem WFm.of {t o a t' o' a' : Nat → Int32} {c : Int} (h : NW t o a c) (hc : c ≤ 1000) (ht : ∀ j : Nat, j < 120 → t' j = t (120 + j)) (ho : ∀ j : Nat, j < 1100 → o' j = o (1100 + j)) (ha : ∀ j : Nat, j < 1100 → a' j = a (1100 + j)) (h4 : (t 122).toInt ≤ 4) (h0 : ∀ k : Nat, k < 4 → 0 ≤ (t (231 + k)).toInt) : WFm t' o' a' := fun k hk => by
  rw [ht 2 (by decide)] at hk
  have hk' : (k : Int) < (t 122).toInt := hk
  obtain ⟨e, h1, h2, h3⟩ := h k hk'
  have e1 := ht (111 + k) (by omega)
  rw [show 120 + (111 + k) = 231 + k from (by omega)] at e1
  have p0 := h0 k (by omega)
  have q1 := h1.1
  refine ⟨e - 1100, ⟨by rw [e1]; omega, fun z => ?_⟩, ?_, by omega⟩
  · rw [e1]
    have e2 := h1.2 z
    rw [show (1100 + (t (231 + k)).toInt).toNat = (t (231 + k)).toInt.toNat + 1100 from (by omega)] at e2
    rw [show e - 1100 - (t (231 + k)).toInt.toNat = e - ((t (231 + k)).toInt.toNat + 1100) from (by omega), ← e2]
    exact (sim_congr (d := 1100) _ _ _ (fun j j1 j2 => by rw [ho j (by omega), ha j (by omega), Nat.add_comm 1100 j]; exact ⟨rfl, rfl⟩)).symm
  · rw [ho (e - 1100) (by omega), show 1100 + (e - 1100) = e from (by omega)]; exact h2
theorem SI.new {f g t t' mk mk' : Nat → Int32} (h : SI f t mk) (h0 : ∀ j : Nat, j < 460 → g j = 0) (hf : ∀ j : Nat, 460 ≤ j → g j = f j) (hm : ∀ m : Nat, m < 4 → (mk' m).toInt = 0) (ht : TV t') : SI g t' mk' := by
  refine ⟨?_, ?_, fun m h4 h1 => absurd (hm m h4) h1⟩
  · intro i hi p q h1 h2 h3
    rcases Nat.lt_or_ge i 460 with z | z
    · rw [h0 i z] at h3; have : (0 : Int32).toInt = 0 := rfl; omega
    · rw [hf i z] at h3
      rw [hf (i + 1 + p) (by omega), hf (i + 1 + q) (by omega)]
      exact h.1 i hi p q h1 h2 h3
  · intro s hs
    rw [h0 _ (by omega)]
    exact (ht (101 + 3 * s) (by omega)).1
theorem tv_cp {f : Nat → Int32} (h : TV f) {i j : Nat} (hi : i < 240) (e : j % 120 = i % 120) {x : Int32} (hx : f i = x) : TV (upd f j x) := by
  have h1 := h i hi
  rw [hx] at h1
  exact TV.upd h h1.1 (by have e2 : hiT j = hiT i := (by unfold hiT; rw [e]); rw [e2]; exact h1.2)
/-- the reading of all by the reference, under way -/
def RG (T : Nat → Int × Int64 × Nat) (nm : Nat → Int64) (t hb pl : Nat → Int32) (fa at_ F : Int) : Prop := (fa = 0 → ∃ (S : ((Nat → Int64) × Nat × (Nat → Int64) × Nat × (Nat → Bool) × (Nat → Bool) × Nat)) (k : Nat), MRb nm t hb S ∧ 1000 ≤ k + (pl at_.toNat).toInt.toNat ∧ rAll T k S (pl at_.toNat).toInt.toNat = F) ∧ (¬ fa = 0 → fa = F)
theorem RG.ex {T : Nat → Int × Int64 × Nat} {nm : Nat → Int64} {t hb pl : Nat → Int32} {fa at_ F : Int} (h : RG T nm t hb pl fa at_ F) : ∃ (S : ((Nat → Int64) × Nat × (Nat → Int64) × Nat × (Nat → Bool) × (Nat → Bool) × Nat)) (k : Nat), fa = 0 → MRb nm t hb S ∧ 1000 ≤ k + (pl at_.toNat).toInt.toNat ∧ rAll T k S (pl at_.toNat).toInt.toNat = F := by
  by_cases q : fa = 0
  · obtain ⟨S, k, hS⟩ := h.1 q
    exact ⟨S, k, fun _ => hS⟩
  · exact ⟨S0, 0, fun z => absurd z q⟩
theorem MR.zero {nm : Nat → Int64} {t hb : Nat → Int32} (h : ∀ j : Nat, j < 120 → t (120 + j) = 0) (hh : ∀ j : Nat, j < 12 → (hb j).toInt = 0) : MR nm t hb S0 := by
  have l0 : (0 : Int32).toInt = 0 := rfl
  refine ⟨⟨by rw [h 0 (by decide)]; rfl, by rw [h 1 (by decide)]; rfl, fun j hj => absurd hj (Nat.not_lt_zero j), fun j hj => absurd hj (Nat.not_lt_zero j)⟩, by rw [h 2 (by decide)]; rfl, fun j hj => ?_, fun j hj => ?_⟩
  · rw [show 130 + 8 * j = 120 + (10 + 8 * j) by omega, h _ (by omega)]
    exact ⟨fun z => absurd z (by omega), fun z => absurd (show false = true from z) (by decide)⟩
  · exact ⟨fun z => absurd z (by rw [hh j hj]; decide), fun z => absurd (show false = true from z) (by decide)⟩
theorem RG.start {T : Nat → Int × Int64 × Nat} {nm : Nat → Int64} {t hb pl : Nat → Int32} {fa at_ F : Int} (hf : fa = 0) (ha : at_ = 0) (h : ∀ j : Nat, j < 120 → t (120 + j) = 0) (hh : ∀ j : Nat, j < 12 → (hb j).toInt = 0) (hF : rAll T 1000 S0 (pl 0).toInt.toNat = F) : RG T nm t hb pl fa at_ F := by
  subst ha
  exact ⟨fun _ => ⟨S0, 1000, ⟨MR.zero h hh, fun j hj => by have := hh j hj; omega⟩, by omega, hF⟩, fun z => absurd hf z⟩
theorem RG.step {T : Nat → Int × Int64 × Nat} {nm nm' : Nat → Int64} {t hb t' hb' pl : Nat → Int32} {fa at_ fa1 at1 fa2 at2 F : Int} {S : ((Nat → Int64) × Nat × (Nat → Int64) × Nat × (Nat → Bool) × (Nat → Bool) × Nat)} {k : Nat} (hT : PT T) (h : fa = 0 → MRb nm t hb S ∧ 1000 ≤ k + (pl at_.toNat).toInt.toNat ∧ rAll T k S (pl at_.toNat).toInt.toNat = F) (hf : fa = 0) (hk : ¬ (T (pl at_.toNat).toInt.toNat).1 = 0) (h1 : RP pl fa at_ fa1 at1 (rLine T S)) (h2 : RP pl fa1 at1 fa2 at2 (rSign T 59)) (h3 : ¬ fa1 = 0 → ¬ fa2 = 0) (hm : fa1 = 0 → MRb nm' t' hb' (sLine T S (pl at_.toNat).toInt.toNat)) : RG T nm' t' hb' pl fa2 at2 F := by
  obtain ⟨_, a, b⟩ := h hf
  obtain ⟨c, d⟩ := (RP.bind h1 h2).1 hf
  have p1 := (hT _ hk).1
  obtain ⟨m, rfl⟩ : ∃ m, k = m + 1 := ⟨k - 1, by omega⟩
  have e : bnd (rLine T S (pl at_.toNat).toInt.toNat) (rSign T 59) = rStm T S (pl at_.toNat).toInt.toNat := rfl
  have c' : fa2 = (rStm T S (pl at_.toNat).toInt.toNat).2 := c
  have d' : fa2 = 0 → (pl at2.toNat).toInt = (((rStm T S (pl at_.toNat).toInt.toNat).1 : Nat) : Int) := d
  refine ⟨fun z => ?_, fun z => ?_⟩
  · have g := rStm_gt hT _ (c'.symm.trans z)
    have d2 := d' z
    have e2 : (pl at2.toNat).toInt.toNat = (rStm T S (pl at_.toNat).toInt.toNat).1 := by omega
    have e3 : rStm T S (pl at_.toNat).toInt.toNat = ((pl at2.toNat).toInt.toNat, 0) := by rw [e2]; exact Prod.ext rfl (c'.symm.trans z)
    refine ⟨_, m, hm (Decidable.byContradiction (fun y => h3 y z)), by omega, ?_⟩
    rw [rAll_ok hk e3] at b; exact b
  · rw [rAll_bad hk (fun y => z (c'.trans y))] at b
    exact c'.trans b
theorem RG.fin {T : Nat → Int × Int64 × Nat} {nm : Nat → Int64} {t hb pl : Nat → Int32} {fa at_ F : Int} (h : RG T nm t hb pl fa at_ F) (h0 : fa = 0 → (T (pl at_.toNat).toInt.toNat).1 = 0) : fa = F := by
  by_cases q : fa = 0
  · obtain ⟨S, k, _, _, hS⟩ := h.1 q
    rw [rAll_end (h0 q)] at hS
    exact q.trans hS
  · exact h.2 q
def RGN (T : Nat → Int × Int64 × Nat) (nm : Nat → Int64) (t hb pl : Nat → Int32) (fa at_ F : Int) (SF : ((Nat → Int64) × Nat × (Nat → Int64) × Nat × (Nat → Bool) × (Nat → Bool) × Nat) × ((Nat → Nat → Int) × (Nat → Bool) × (Nat → Nat → Int))) : Prop := (fa = 0 → ∃ (S : ((Nat → Int64) × Nat × (Nat → Int64) × Nat × (Nat → Bool) × (Nat → Bool) × Nat)) (N : ((Nat → Nat → Int) × (Nat → Bool) × (Nat → Nat → Int))) (k : Nat), MRb nm t hb S ∧ MW t N ∧ 1000 ≤ k + (pl at_.toNat).toInt.toNat ∧ rAll T k S (pl at_.toNat).toInt.toNat = F ∧ rFin T k S N (pl at_.toNat).toInt.toNat = SF) ∧ (¬ fa = 0 → fa = F)
theorem RGN.ex {T : Nat → Int × Int64 × Nat} {nm : Nat → Int64} {t hb pl : Nat → Int32} {fa at_ F : Int} {SF : ((Nat → Int64) × Nat × (Nat → Int64) × Nat × (Nat → Bool) × (Nat → Bool) × Nat) × ((Nat → Nat → Int) × (Nat → Bool) × (Nat → Nat → Int))} (h : RGN T nm t hb pl fa at_ F SF) : ∃ (S : ((Nat → Int64) × Nat × (Nat → Int64) × Nat × (Nat → Bool) × (Nat → Bool) × Nat)) (N : ((Nat → Nat → Int) × (Nat → Bool) × (Nat → Nat → Int))) (k : Nat), fa = 0 → MRb nm t hb S ∧ MW t N ∧ 1000 ≤ k + (pl at_.toNat).toInt.toNat ∧ rAll T k S (pl at_.toNat).toInt.toNat = F ∧ rFin T k S N (pl at_.toNat).toInt.toNat = SF := by
  by_cases q : fa = 0
  · obtain ⟨S, N, k, hS⟩ := h.1 q
    exact ⟨S, N, k, fun _ => hS⟩
  · exact ⟨S0, N0, 0, fun z => absurd z q⟩
theorem MW.zero {t : Nat → Int32} (h : ∀ j : Nat, j < 120 → t (120 + j) = 0) : MW t N0 := by
  have l0 : (0 : Int32).toInt = 0 := rfl
  have z (j : Nat) (h1 : 120 ≤ j) (h2 : j < 240) : (t j).toInt = 0 := by rw [show j = 120 + (j - 120) by omega, h _ (by omega)]; rfl
  have z0 := z 120 (by decide) (by decide)
  have z1 := z 121 (by decide) (by decide)
  refine ⟨fun j hj => absurd hj (by omega), fun j hj => z _ (by omega) (by omega), fun j hj => ?_, fun j hj => absurd hj (by omega), fun j hj => rfl, fun j hj => ?_⟩
  · rw [z _ (by omega) (by omega)]; rfl
  · rw [z _ (by omega) (by omega)]; decide
theorem RGN.start {T : Nat → Int × Int64 × Nat} {nm : Nat → Int64} {t hb pl : Nat → Int32} {fa at_ F : Int} {SF : ((Nat → Int64) × Nat × (Nat → Int64) × Nat × (Nat → Bool) × (Nat → Bool) × Nat) × ((Nat → Nat → Int) × (Nat → Bool) × (Nat → Nat → Int))} (hf : fa = 0) (ha : at_ = 0) (h : ∀ j : Nat, j < 120 → t (120 + j) = 0) (hh : ∀ j : Nat, j < 12 → (hb j).toInt = 0) (hF : rAll T 1000 S0 (pl 0).toInt.toNat = F) (hN : rFin T 1000 S0 N0 (pl 0).toInt.toNat = SF) : RGN T nm t hb pl fa at_ F SF := by
  subst ha
  exact ⟨fun _ => ⟨S0, N0, 1000, ⟨MR.zero h hh, fun j hj => by have := hh j hj; omega⟩, MW.zero h, by omega, hF, hN⟩, fun z => absurd hf z⟩
theorem RGN.step {T : Nat → Int × Int64 × Nat} {nm nm' : Nat → Int64} {t hb t' hb' pl : Nat → Int32} {fa at_ fa1 at1 fa2 at2 F : Int} {SF : ((Nat → Int64) × Nat × (Nat → Int64) × Nat × (Nat → Bool) × (Nat → Bool) × Nat) × ((Nat → Nat → Int) × (Nat → Bool) × (Nat → Nat → Int))} {S : ((Nat → Int64) × Nat × (Nat → Int64) × Nat × (Nat → Bool) × (Nat → Bool) × Nat)} {N : ((Nat → Nat → Int) × (Nat → Bool) × (Nat → Nat → Int))} {k : Nat} (hT : PT T) (h : fa = 0 → MRb nm t hb S ∧ MW t N ∧ 1000 ≤ k + (pl at_.toNat).toInt.toNat ∧ rAll T k S (pl at_.toNat).toInt.toNat = F ∧ rFin T k S N (pl at_.toNat).toInt.toNat = SF) (hf : fa = 0) (hk : ¬ (T (pl at_.toNat).toInt.toNat).1 = 0) (h1 : RP pl fa at_ fa1 at1 (rLine T S)) (h2 : RP pl fa1 at1 fa2 at2 (rSign T 59)) (h3 : ¬ fa1 = 0 → ¬ fa2 = 0) (hm : fa1 = 0 → MRb nm' t' hb' (sLine T S (pl at_.toNat).toInt.toNat)) (hn : fa1 = 0 → MW t' (nLine T S N (pl at_.toNat).toInt.toNat)) : RGN T nm' t' hb' pl fa2 at2 F SF := by
  obtain ⟨_, _, a, b, b2⟩ := h hf
  obtain ⟨c, d⟩ := (RP.bind h1 h2).1 hf
  have p1 := (hT _ hk).1
  obtain ⟨m, rfl⟩ : ∃ m, k = m + 1 := ⟨k - 1, by omega⟩
  have c' : fa2 = (rStm T S (pl at_.toNat).toInt.toNat).2 := c
  have d' : fa2 = 0 → (pl at2.toNat).toInt = (((rStm T S (pl at_.toNat).toInt.toNat).1 : Nat) : Int) := d
  refine ⟨fun z => ?_, fun z => ?_⟩
  · have g := rStm_gt hT _ (c'.symm.trans z)
    have d2 := d' z
    have e2 : (pl at2.toNat).toInt.toNat = (rStm T S (pl at_.toNat).toInt.toNat).1 := by omega
    have e3 : rStm T S (pl at_.toNat).toInt.toNat = ((pl at2.toNat).toInt.toNat, 0) := by rw [e2]; exact Prod.ext rfl (c'.symm.trans z)
    have z1 : fa1 = 0 := Decidable.byContradiction (fun y => h3 y z)
    rw [rAll_ok hk e3] at b
    rw [rFin_ok hk e3] at b2
    exact ⟨_, _, m, hm z1, hn z1, by omega, b, b2⟩
  · rw [rAll_bad hk (fun y => z (c'.trans y))] at b
    exact c'.trans b
theorem RGN.fin {T : Nat → Int × Int64 × Nat} {nm : Nat → Int64} {t hb pl : Nat → Int32} {fa at_ F : Int} {SF : ((Nat → Int64) × Nat × (Nat → Int64) × Nat × (Nat → Bool) × (Nat → Bool) × Nat) × ((Nat → Nat → Int) × (Nat → Bool) × (Nat → Nat → Int))} (h : RGN T nm t hb pl fa at_ F SF) (h0 : fa = 0 → (T (pl at_.toNat).toInt.toNat).1 = 0) : fa = F ∧ (fa = 0 → MRb nm t hb SF.1 ∧ MW t SF.2) := by
  by_cases q : fa = 0
  · obtain ⟨S, N, k, x, y, _, hS, hN⟩ := h.1 q
    rw [rAll_end (h0 q)] at hS
    rw [rFin_end (h0 q)] at hN
    rw [← hN]
    exact ⟨q.trans hS, fun _ => ⟨x, y⟩⟩
  · exact ⟨h.2 q, fun z => absurd z q⟩
/-- the first half of what is told is what was read -/
def TDr (t' : Nat → Int32) (SF : ((Nat → Int64) × Nat × (Nat → Int64) × Nat × (Nat → Bool) × (Nat → Bool) × Nat) × ((Nat → Nat → Int) × (Nat → Bool) × (Nat → Nat → Int))) : Prop := ∃ (nm9 : Nat → Int64) (t9 hb9 : Nat → Int32), MRb nm9 t9 hb9 SF.1 ∧ MW t9 SF.2 ∧ ∀ j : Nat, j < 120 → t' j = t9 (120 + j)
theorem TD.of {w : Int} {wd dp wt br bk hb : Nat → Int32} {lids tops : Int32} {ht rc rm : Nat → Int32} {s : Int} {nm : Nat → Int64} {t t' hb' : Nat → Int32} {S : ((Nat → Int64) × Nat × (Nat → Int64) × Nat × (Nat → Bool) × (Nat → Bool) × Nat)} {N : ((Nat → Nat → Int) × (Nat → Bool) × (Nat → Nat → Int))} (h1 : w = ((S.2.1 : Nat) : Int)) (h2 : ∀ j, j < 12 → BT tops j = S.2.2.2.2.1 j) (h3 : CW wd dp wt br bk hb lids ht rc rm w s N) (h4 : MRb nm t hb' S) (h5 : MW t N) (h6 : ∀ j : Nat, j < 120 → t' j = t (120 + j)) (h12 : w ≤ 12) : TD w wd dp wt br bk hb lids tops t' := by
  obtain ⟨x1, x2, x3, x4, x5, x6⟩ := h5
  have e0 : (t' 0).toInt = (t 120).toInt := by rw [h6 0 (by decide)]
  have e1 : (t 120).toInt = w := by rw [h4.1.1.1, h1]
  refine ⟨by omega, fun j hj => ?_⟩
  have hj2 : (j : Int) < (t 120).toInt := by omega
  obtain ⟨a0, a1, a2, a3, a4⟩ := h3.1 j hj
  have m (k : Nat) (hk : k < 5) : (t' (3 + 8 * j + k)).toInt = N.1 j k := by
    rw [h6 (3 + 8 * j + k) (by omega), show 120 + (3 + 8 * j + k) = 123 + 8 * j + k by omega]; exact x1 j hj2 k hk
  refine ⟨a0.trans (m 0 (by decide)).symm, a1.trans (m 1 (by decide)).symm, a2.trans (m 2 (by decide)).symm, a3.trans (m 3 (by decide)).symm, a4.trans (m 4 (by decide)).symm, ?_, ?_, ?_⟩
  · rw [h6 (3 + 8 * j + 5) (by omega), show 120 + (3 + 8 * j + 5) = 128 + 8 * j by omega, x2 j (by omega)]; exact h3.2.1 j (by omega)
  · rw [h6 (3 + 8 * j + 6) (by omega), show 120 + (3 + 8 * j + 6) = 129 + 8 * j by omega, x3 j (by omega), h3.2.2.1 j (by omega)]
  · rw [h6 (3 + 8 * j + 7) (by omega), show 120 + (3 + 8 * j + 7) = 130 + 8 * j by omega, h2 j (by omega)]
    have y := h4.1.2.2.1 j (by omega)
    have y6 := x6 j (by omega)
    by_cases q : S.2.2.2.2.1 j = true
    · rw [if_pos q]; exact (y.mpr q).symm
    · rw [if_neg q]
      have : ¬ (t (130 + 8 * j)).toInt = 1 := fun z => q (y.mp z)
      omega
theorem TD.fr {w : Int} {wd dp wt br bk hb : Nat → Int32} {lids tops : Int32} {t t' : Nat → Int32} (h : TD w wd dp wt br bk hb lids tops t) (h12 : w ≤ 12) (hf : Fr 120 t t') : TD w wd dp wt br bk hb lids tops t' := by
  obtain ⟨a, b⟩ := h
  refine ⟨by rw [hf 0 (by decide)]; exact a, fun j hj => ?_⟩
  rw [hf (3 + 8 * j) (by omega), hf (3 + 8 * j + 1) (by omega), hf (3 + 8 * j + 2) (by omega), hf (3 + 8 * j + 3) (by omega), hf (3 + 8 * j + 4) (by omega), hf (3 + 8 * j + 5) (by omega), hf (3 + 8 * j + 6) (by omega), hf (3 + 8 * j + 7) (by omega)]
  exact b j hj
def RGE (T : Nat → Int × Int64 × Nat) (nm : Nat → Int64) (t hb pl o a : Nat → Int32) (c fa at_ F : Int) (SF : ((Nat → Int64) × Nat × (Nat → Int64) × Nat × (Nat → Bool) × (Nat → Bool) × Nat) × ((Nat → Nat → Int) × (Nat → Bool) × (Nat → Nat → Int))) (EF : (Nat → (Nat → Int32) → Int32)) : Prop := (fa = 0 → ∃ (S : ((Nat → Int64) × Nat × (Nat → Int64) × Nat × (Nat → Bool) × (Nat → Bool) × Nat)) (N : ((Nat → Nat → Int) × (Nat → Bool) × (Nat → Nat → Int))) (E : (Nat → (Nat → Int32) → Int32)) (k : Nat), MRb nm t hb S ∧ MW t N ∧ NE6 t o a c E ∧ 1000 ≤ k + (pl at_.toNat).toInt.toNat ∧ rAll T k S (pl at_.toNat).toInt.toNat = F ∧ rFin T k S N (pl at_.toNat).toInt.toNat = SF ∧ eFin T k S E (pl at_.toNat).toInt.toNat = EF) ∧ (¬ fa = 0 → fa = F)
theorem RGE.ex {T : Nat → Int × Int64 × Nat} {nm : Nat → Int64} {t hb pl o a : Nat → Int32} {c fa at_ F : Int} {SF : ((Nat → Int64) × Nat × (Nat → Int64) × Nat × (Nat → Bool) × (Nat → Bool) × Nat) × ((Nat → Nat → Int) × (Nat → Bool) × (Nat → Nat → Int))} {EF : (Nat → (Nat → Int32) → Int32)} (h : RGE T nm t hb pl o a c fa at_ F SF EF) : ∃ (S : ((Nat → Int64) × Nat × (Nat → Int64) × Nat × (Nat → Bool) × (Nat → Bool) × Nat)) (N : ((Nat → Nat → Int) × (Nat → Bool) × (Nat → Nat → Int))) (E : (Nat → (Nat → Int32) → Int32)) (k : Nat), fa = 0 → MRb nm t hb S ∧ MW t N ∧ NE6 t o a c E ∧ 1000 ≤ k + (pl at_.toNat).toInt.toNat ∧ rAll T k S (pl at_.toNat).toInt.toNat = F ∧ rFin T k S N (pl at_.toNat).toInt.toNat = SF ∧ eFin T k S E (pl at_.toNat).toInt.toNat = EF := by
  by_cases q : fa = 0
  · obtain ⟨S, N, E, k, hS⟩ := h.1 q
    exact ⟨S, N, E, k, fun _ => hS⟩
  · exact ⟨S0, N0, E0, 0, fun z => absurd z q⟩
theorem RGE.start {T : Nat → Int × Int64 × Nat} {nm : Nat → Int64} {t hb pl o a : Nat → Int32} {c fa at_ F : Int} {SF : ((Nat → Int64) × Nat × (Nat → Int64) × Nat × (Nat → Bool) × (Nat → Bool) × Nat) × ((Nat → Nat → Int) × (Nat → Bool) × (Nat → Nat → Int))} {EF : (Nat → (Nat → Int32) → Int32)} (hf : fa = 0) (ha : at_ = 0) (h : ∀ j : Nat, j < 120 → t (120 + j) = 0) (hh : ∀ j : Nat, j < 12 → (hb j).toInt = 0) (hF : rAll T 1000 S0 (pl 0).toInt.toNat = F) (hN : rFin T 1000 S0 N0 (pl 0).toInt.toNat = SF) (hE : eFin T 1000 S0 E0 (pl 0).toInt.toNat = EF) : RGE T nm t hb pl o a c fa at_ F SF EF := by
  subst ha
  exact ⟨fun _ => ⟨S0, N0, E0, 1000, ⟨MR.zero h hh, fun j hj => by have := hh j hj; omega⟩, MW.zero h, fun k hk => absurd hk (by rw [show t 122 = 0 from h 2 (by decide)]; have l0 : (0 : Int32).toInt = 0 := rfl; omega), by omega, hF, hN, hE⟩, fun z => absurd hf z⟩
theorem RGE.step {T : Nat → Int × Int64 × Nat} {nm nm' : Nat → Int64} {t hb t' hb' pl o a o' a' : Nat → Int32} {c c' fa at_ fa1 at1 fa2 at2 F : Int} {SF : ((Nat → Int64) × Nat × (Nat → Int64) × Nat × (Nat → Bool) × (Nat → Bool) × Nat) × ((Nat → Nat → Int) × (Nat → Bool) × (Nat → Nat → Int))} {EF : (Nat → (Nat → Int32) → Int32)} {S : ((Nat → Int64) × Nat × (Nat → Int64) × Nat × (Nat → Bool) × (Nat → Bool) × Nat)} {N : ((Nat → Nat → Int) × (Nat → Bool) × (Nat → Nat → Int))} {E : (Nat → (Nat → Int32) → Int32)} {k : Nat} (hT : PT T) (h : fa = 0 → MRb nm t hb S ∧ MW t N ∧ NE6 t o a c E ∧ 1000 ≤ k + (pl at_.toNat).toInt.toNat ∧ rAll T k S (pl at_.toNat).toInt.toNat = F ∧ rFin T k S N (pl at_.toNat).toInt.toNat = SF ∧ eFin T k S E (pl at_.toNat).toInt.toNat = EF) (hf : fa = 0) (hk : ¬ (T (pl at_.toNat).toInt.toNat).1 = 0) (h1 : RP pl fa at_ fa1 at1 (rLine T S)) (h2 : RP pl fa1 at1 fa2 at2 (rSign T 59)) (h3 : ¬ fa1 = 0 → ¬ fa2 = 0) (hm : fa1 = 0 → MRb nm' t' hb' (sLine T S (pl at_.toNat).toInt.toNat)) (hn : fa1 = 0 → MW t' (nLine T S N (pl at_.toNat).toInt.toNat)) (he : ∀ E : (Nat → (Nat → Int32) → Int32), fa1 = 0 → NE6 t o a c E → NE6 t' o' a' c' (eLine T S E (pl at_.toNat).toInt.toNat)) : RGE T nm' t' hb' pl o' a' c' fa2 at2 F SF EF := by
  obtain ⟨_, _, x1, a1, b, b2, b3⟩ := h hf
  obtain ⟨c1, d⟩ := (RP.bind h1 h2).1 hf
  have p1 := (hT _ hk).1
  obtain ⟨m, rfl⟩ : ∃ m, k = m + 1 := ⟨k - 1, by omega⟩
  have c' : fa2 = (rStm T S (pl at_.toNat).toInt.toNat).2 := c1
  have d' : fa2 = 0 → (pl at2.toNat).toInt = (((rStm T S (pl at_.toNat).toInt.toNat).1 : Nat) : Int) := d
  refine ⟨fun z => ?_, fun z => ?_⟩
  · have g := rStm_gt hT _ (c'.symm.trans z)
    have d2 := d' z
    have e2 : (pl at2.toNat).toInt.toNat = (rStm T S (pl at_.toNat).toInt.toNat).1 := by omega
    have e3 : rStm T S (pl at_.toNat).toInt.toNat = ((pl at2.toNat).toInt.toNat, 0) := by rw [e2]; exact Prod.ext rfl (c'.symm.trans z)
    have z1 : fa1 = 0 := Decidable.byContradiction (fun y => h3 y z)
    rw [rAll_ok hk e3] at b
    rw [rFin_ok hk e3] at b2
    rw [eFin_ok hk e3] at b3
    exact ⟨_, _, _, m, hm z1, hn z1, he E z1 x1, by omega, b, b2, b3⟩
  · rw [rAll_bad hk (fun y => z (c'.trans y))] at b
    exact c'.trans b
theorem RGE.fin {T : Nat → Int × Int64 × Nat} {nm : Nat → Int64} {t hb pl o a : Nat → Int32} {c fa at_ F : Int} {SF : ((Nat → Int64) × Nat × (Nat → Int64) × Nat × (Nat → Bool) × (Nat → Bool) × Nat) × ((Nat → Nat → Int) × (Nat → Bool) × (Nat → Nat → Int))} {EF : (Nat → (Nat → Int32) → Int32)} (h : RGE T nm t hb pl o a c fa at_ F SF EF) (h0 : fa = 0 → (T (pl at_.toNat).toInt.toNat).1 = 0) : fa = F ∧ (fa = 0 → MRb nm t hb SF.1 ∧ MW t SF.2 ∧ NE6 t o a c EF) := by
  by_cases q : fa = 0
  · obtain ⟨S, N, E, k, x, y, ye, _, hS, hN, hE⟩ := h.1 q
    rw [rAll_end (h0 q)] at hS
    rw [rFin_end (h0 q)] at hN
    rw [eFin_end (h0 q)] at hE
    rw [← hN, ← hE]
    exact ⟨q.trans hS, fun _ => ⟨x, y, ye⟩⟩
  · exact ⟨h.2 q, fun z => absurd z q⟩
theorem MYR.zero {w nn : Int} {wd dp wt : Nat → Int32} {lids tops : Int32} {t o a : Nat → Int32} (hw : w = 0) (hn : nn = 0) (ht : (t 2).toInt = 0) : MYR w nn wd dp wt lids tops (fun _ => 0) t o a := ⟨E0, fun l u _ hu => by
  have e : mayC w nn E0 wd dp wt lids tops l u = false := Bool.eq_false_iff.mpr (fun z => by have := mayC_lt z; omega)
  rw [e]; exact bt_z u (by omega), fun k hk => absurd hk (by omega), by omega⟩
theorem mayP_ext {n : Nat} {E : (Nat → (Nat → Int32) → Int32)} {fc fd : Nat → Int32} {wl tp : Bool} (h : ∀ i, i < n → E i fc = E i fd) : mayP n E fc wl tp = mayP n E fd wl tp := by
  apply Bool.eq_iff_iff.mpr
  rw [mayP_iff, mayP_iff]
  constructor
  · rintro ⟨a, b, c⟩; exact ⟨a, b, fun i hi => by rw [← h i hi]; exact c i hi⟩
  · rintro ⟨a, b, c⟩; exact ⟨a, b, fun i hi => by rw [h i hi]; exact c i hi⟩
theorem TD.fc {w : Int} {wd dp wt br bk hb : Nat → Int32} {lids tops : Int32} {t : Nat → Int32} (h : TD w wd dp wt br bk hb lids tops t) {u l : Nat} (hu : (u : Int) < w) (hl : (l : Int) < w) : ∀ k, k < 8 → fcC wd dp wt lids u l k = fcM t u l k := by
  obtain ⟨_, h⟩ := h
  obtain ⟨a0, a1, a2, a3, a4, a5, a6, a7⟩ := h u hu
  obtain ⟨b0, b1, b2, b3, b4, b5, b6, b7⟩ := h l hl
  have bit : ∀ {x : Int32} {c : Bool}, (if c = true then (1 : Int) else 0) = x.toInt → (if c = true then (1 : Int32) else 0) = x := fun {x c} e => by
    apply (i_eq _ _).mpr
    rw [← e]
    cases c <;> rfl
  intro k hk
  have hk8 : k = 0 ∨ k = 1 ∨ k = 2 ∨ k = 3 ∨ k = 4 ∨ k = 5 ∨ k = 6 ∨ k = 7 := by omega
  rcases hk8 with rfl | rfl | rfl | rfl | rfl | rfl | rfl | rfl
  · exact (i_eq _ _).mpr a0
  · exact (i_eq _ _).mpr b0
  · exact (i_eq _ _).mpr a1
  · exact (i_eq _ _).mpr b1
  · exact (i_eq _ _).mpr a2
  · exact (i_eq _ _).mpr b2
  · exact bit a6
  · exact bit b6
theorem MYR.may {w nn : Int} {wd dp wt br bk hb : Nat → Int32} {lids tops : Int32} {my t o a : Nat → Int32} {E : (Nat → (Nat → Int32) → Int32)} (h1 : TD w wd dp wt br bk hb lids tops t) (h12 : w ≤ 12) (hM : MYC my (mayC w nn E wd dp wt lids tops)) (hE : ME6 t o a E) (hn : nn = (t 2).toInt) {u l : Nat} (hu : (u : Int) < w) (hl : (l : Int) < w) (hul : ¬ u = l) : BT (my l) u = mayM t E u l := by
  rw [hM l u (by omega) (by omega)]
  have e1 : mayC w nn E wd dp wt lids tops l u = mayP nn.toNat E (fcC wd dp wt lids u l) (decide ((wd u).toInt < (wd l).toInt)) (BT tops l) := by
    apply Bool.eq_iff_iff.mpr
    rw [mayC_iff]
    exact ⟨fun z => z.2, fun z => ⟨⟨hl, hu, hul⟩, z⟩⟩
  have a0 := (h1.2 u hu).1
  have b0 := (h1.2 l hl).1
  have b7 := (h1.2 l hl).2.2.2.2.2.2.2
  have e2 : BT tops l = decide ((t (3 + 8 * l + 7)).toInt = 1) := by
    apply Bool.eq_iff_iff.mpr
    rw [decide_eq_true_iff, ← b7]
    by_cases q : BT tops l = true
    · rw [if_pos q]; exact ⟨fun _ => rfl, fun _ => q⟩
    · rw [if_neg q]; exact ⟨fun z => absurd z q, fun z => absurd z (by decide)⟩
  rw [e1, mayP_ext (fun i hi => (hE i (by omega)).1 _ _ (h1.fc hu hl)), a0, b0, e2, hn]
  rfl
theorem MYR.ma {w nn : Int} {wd dp wt br bk hb : Nat → Int32} {lids tops : Int32} {my t o a : Nat → Int32} {E : (Nat → (Nat → Int32) → Int32)} (h1 : TD w wd dp wt br bk hb lids tops t) (h12 : w ≤ 12) (hM : MYC my (mayC w nn E wd dp wt lids tops)) (hE : ME6 t o a E) (hn : nn = (t 2).toInt) (x y : Int) : maC w my x y = maR t E x y := by
  unfold maC maR
  rw [← h1.1]
  by_cases q : 0 ≤ x ∧ x < w ∧ 0 ≤ y ∧ y < w ∧ ¬ x = y
  · rw [if_pos q, if_pos q, MYR.may h1 h12 hM hE hn (u := x.toNat) (l := y.toNat) (by omega) (by omega) (by omega)]
  · rw [if_neg q, if_neg q]

set_option maxHeartbeats 4000000 in
set_option maxRecDepth 100000 in
theorem c_X11_cupboard (l : Launch) (D : DG) (cyC cyI cyJ cyZ cyO : ClassId) (m0 : Nat) (mtape : Nat) (msort : Nat) (mplace : Nat) (mvalue : Nat) (mwords : Nat) (mtold : Nat) (mop : Nat) (marg : Nat) (mnames : Nat) (mhasHabit : Nat) (mfactWords : Nat) (mstates : Nat) (misMarked : Nat) (mmays : Nat) (mtall : Nat) (mfacts : Nat) (mpile : Nat) (mrow : Nat) (mthr : Nat) (mweights : Nat) (mrowOfWare : Nat) (mneededOf : Nat) (mtried : Nat) (mbestRow : Nat) (mdigits : Nat) (m_thrown : Int32) (m_taped : Int32) (m_size : Int32) (m_at : Int32) (m_fault : Int32) (m_codes : Int32) (m_isNew : Int32) (m_inShelf : Int32) (m_inStack : Int32) (m_inPlace : Int32) (m_rowMany : Int32) (m_goShelf : Int32) (m_goStack : Int32) (m_goLeft : Int32) (m_bestCost : Int32) (m_bestMany : Int32) (m_bestShelf : Int32) (m_bestSet : Int32) (m_tape : Nat → Int32) (m_sort : Nat → Int32) (m_place : Nat → Int32) (m_value : Nat → Int64) (m_words : Nat → Int64) (m_told : Nat → Int32) (m_op : Nat → Int32) (m_arg : Nat → Int32) (m_names : Nat → Int64) (m_hasHabit : Nat → Int32) (m_factWords : Nat → Int32) (m_states : Nat → Int32) (m_isMarked : Nat → Int32) (m_mays : Nat → Int32) (m_tall : Nat → Int32) (h_m_taped : 0 ≤ (m_taped).toInt ∧ (m_taped).toInt ≤ 1000) (h_m_size : 0 ≤ (m_size).toInt ∧ (m_size).toInt ≤ 1000) (h_m_at : 0 ≤ (m_at).toInt ∧ (m_at).toInt ≤ 1000) (h_m_fault : 0 ≤ (m_fault).toInt ∧ (m_fault).toInt ≤ 16005) (h_m_codes : 0 ≤ (m_codes).toInt ∧ (m_codes).toInt ≤ 1000) (h_m_isNew : 0 ≤ (m_isNew).toInt ∧ (m_isNew).toInt ≤ 1) (h_m_inShelf : 0 ≤ (m_inShelf).toInt ∧ (m_inShelf).toInt ≤ 3) (h_m_inStack : 0 ≤ (m_inStack).toInt ∧ (m_inStack).toInt ≤ 7) (h_m_inPlace : 0 ≤ (m_inPlace).toInt ∧ (m_inPlace).toInt ≤ 11) (h_m_rowMany : 0 ≤ (m_rowMany).toInt ∧ (m_rowMany).toInt ≤ 12) (h_m_goShelf : -1 ≤ (m_goShelf).toInt ∧ (m_goShelf).toInt ≤ 3) (h_m_bestMany : 0 ≤ (m_bestMany).toInt ∧ (m_bestMany).toInt ≤ 7) (h_m_bestShelf : 0 ≤ (m_bestShelf).toInt ∧ (m_bestShelf).toInt ≤ 3) (h_m_place : Iv 1002 (0) (1000) m_place) (h_m_factWords : Iv 8 (0) (22) m_factWords) (h_m_told : TV m_told) (h_m_states : SV m_states) (h_m_tall : Iv 49152 (0) (100000000) m_tall) (hwf : WFm m_told m_op m_arg) (hSI : SI m_states m_told m_isMarked) (hTA : (m_isNew).toInt = 0 → TALL m_told m_mays m_tall) (hWO : WRD m_words) (hFW : FWD m_factWords) : KK l D (TY cyC cyI cyJ cyZ cyO) yX11_cupboard cX11_cupboard 2 (some .int) ({ frames := 33, cells := 0, slots := 0, locals := 730 } : Room) 0 0 [.ref m0] [(m0, .inr (11, [.int m_thrown, .ref mtape, .int m_taped, .int m_size, .ref msort, .ref mplace, .ref mvalue, .int m_at, .int m_fault, .ref mwords, .ref mtold, .ref mop, .ref marg, .int m_codes, .ref mnames, .ref mhasHabit, .int m_isNew, .ref mfactWords, .ref mfacts, .ref mpile, .ref mstates, .ref misMarked, .int m_inShelf, .int m_inStack, .int m_inPlace, .ref mrow, .int m_rowMany, .ref mthr, .ref mmays, .ref mtall, .ref mweights, .ref mrowOfWare, .ref mneededOf, .int m_goShelf, .int m_goStack, .int m_goLeft, .ref mtried, .ref mbestRow, .int m_bestCost, .int m_bestMany, .int m_bestShelf, .int m_bestSet, .ref mdigits])), (mtape, .inl (cyI, 1000, .inl m_tape)), (msort, .inl (cyI, 1002, .inl m_sort)), (mplace, .inl (cyI, 1002, .inl m_place)), (mvalue, .inl (cyJ, 1002, .inr (.inl m_value))), (mwords, .inl (cyJ, 23, .inr (.inl m_words))), (mtold, .inl (cyI, 240, .inl m_told)), (mop, .inl (cyI, 2200, .inl m_op)), (marg, .inl (cyI, 2200, .inl m_arg)), (mnames, .inl (cyJ, 16, .inr (.inl m_names))), (mhasHabit, .inl (cyZ, 12, .inl m_hasHabit)), (mfactWords, .inl (cyI, 8, .inl m_factWords)), (mstates, .inl (cyI, 2760, .inl m_states)), (misMarked, .inl (cyZ, 4, .inl m_isMarked)), (mmays, .inl (cyZ, 144, .inl m_mays)), (mtall, .inl (cyI, 49152, .inl m_tall))] (fun u => some (.int (u.2.1 0))) (fun u => (0 ≤ (u.2.1 1).toInt ∧ (u.2.1 1).toInt ≤ 1000) ∧ (0 ≤ (u.2.1 2).toInt ∧ (u.2.1 2).toInt ≤ 16005) ∧ (0 ≤ (u.2.1 3).toInt ∧ (u.2.1 3).toInt ≤ 1000) ∧ (0 ≤ (u.2.1 4).toInt ∧ (u.2.1 4).toInt ≤ 1) ∧ (Iv 1002 (0) (1000) (u.2.2.1 1)) ∧ (TV (u.2.2.1 2)) ∧ (SV (u.2.2.1 6)) ∧ (WFm (u.2.2.1 2) (u.2.2.1 3) (u.2.2.1 4)) ∧ (SI (u.2.2.1 6) (u.2.2.1 2) (u.2.2.1 7)) ∧ (((u.2.1 4)).toInt = 0 → TALL (u.2.2.1 2) m_mays m_tall) ∧ (((u.2.1 0)).toInt = (cup m_tape (m_taped).toInt.toNat)) ∧ (((u.2.1 0)).toInt = 0 → TDr (u.2.2.1 2) (cupN m_tape (m_taped).toInt.toNat)) ∧ (¬ ((u.2.1 0)).toInt = 0 → Fr 120 m_told (u.2.2.1 2)) ∧ (((u.2.1 0)).toInt = 0 → ME6 (u.2.2.1 2) (u.2.2.1 3) (u.2.2.1 4) (cupE m_tape (m_taped).toInt.toNat)) ∧ (∀ E : (Nat → (Nat → Int32) → Int32), ¬ ((u.2.1 0)).toInt = 0 → ME6 m_told m_op m_arg E → ME6 (u.2.2.1 2) (u.2.2.1 3) (u.2.2.1 4) E) ∧ (¬ ((u.2.1 0)).toInt = 0 ∨ ((u.2.2.1 7) 0).toInt = 0) ∧ (((u.2.1 0)).toInt = 0 ∨ ((u.2.2.1 7) 0).toInt = (m_isMarked 0).toInt) ∧ (¬ ((u.2.1 0)).toInt = 0 ∨ ((u.2.2.1 7) 1).toInt = 0) ∧ (((u.2.1 0)).toInt = 0 ∨ ((u.2.2.1 7) 1).toInt = (m_isMarked 1).toInt) ∧ (¬ ((u.2.1 0)).toInt = 0 ∨ ((u.2.2.1 7) 2).toInt = 0) ∧ (((u.2.1 0)).toInt = 0 ∨ ((u.2.2.1 7) 2).toInt = (m_isMarked 2).toInt) ∧ (¬ ((u.2.1 0)).toInt = 0 ∨ ((u.2.2.1 7) 3).toInt = 0) ∧ (((u.2.1 0)).toInt = 0 ∨ ((u.2.2.1 7) 3).toInt = (m_isMarked 3).toInt) ∧ (IM (((u.2.1 0)).toInt = 0) (∀ j : Nat, j < 460 → (u.2.2.1 6) j = 0)) ∧ (IM (¬ ((u.2.1 0)).toInt = 0) ((u.2.2.1 6) = m_states)) ∧ (((u.2.1 0)).toInt = 0 → ((u.2.2.1 6) 421).toInt = 0) ∧ (¬ ((u.2.1 0)).toInt = 0 → (u.2.2.1 6) 421 = m_states 421) ∧ (∀ j : Nat, 460 ≤ j → (u.2.2.1 6) j = m_states j)) (fun u => [(m0, .inr (11, [.int 0, .ref mtape, .int 0, .int m_taped, .ref msort, .ref mplace, .ref mvalue, .int (u.2.1 1), .int (u.2.1 2), .ref mwords, .ref mtold, .ref mop, .ref marg, .int (u.2.1 3), .ref mnames, .ref mhasHabit, .int (u.2.1 4), .ref mfactWords, .ref mfacts, .ref mpile, .ref mstates, .ref misMarked, .int m_inShelf, .int m_inStack, .int m_inPlace, .ref mrow, .int m_rowMany, .ref mthr, .ref mmays, .ref mtall, .ref mweights, .ref mrowOfWare, .ref mneededOf, .int m_goShelf, .int m_goStack, .int m_goLeft, .ref mtried, .ref mbestRow, .int m_bestCost, .int m_bestMany, .int m_bestShelf, .int m_bestSet, .ref mdigits])), (mtape, .inl (cyI, 1000, .inl m_tape)), (msort, .inl (cyI, 1002, .inl (u.2.2.1 0))), (mplace, .inl (cyI, 1002, .inl (u.2.2.1 1))), (mvalue, .inl (cyJ, 1002, .inr (.inl (u.2.2.2 0)))), (mwords, .inl (cyJ, 23, .inr (.inl m_words))), (mtold, .inl (cyI, 240, .inl (u.2.2.1 2))), (mop, .inl (cyI, 2200, .inl (u.2.2.1 3))), (marg, .inl (cyI, 2200, .inl (u.2.2.1 4))), (mnames, .inl (cyJ, 16, .inr (.inl (u.2.2.2 1)))), (mhasHabit, .inl (cyZ, 12, .inl (u.2.2.1 5))), (mfactWords, .inl (cyI, 8, .inl m_factWords)), (mstates, .inl (cyI, 2760, .inl (u.2.2.1 6))), (misMarked, .inl (cyZ, 4, .inl (u.2.2.1 7))), (mmays, .inl (cyZ, 144, .inl m_mays)), (mtall, .inl (cyI, 49152, .inl m_tall))]) := by
  refine KK.of (lv0 := [(0, .ref m0)]) (by decide) rfl (Nat.le_of_ble_eq_true rfl) ?_
  intro p e s m args below meth c A C hr hk hin
  refine j_aload_n (pc := 0) C dX11_cupboard_0 rfl 0 rfl ?_
  refine j_iconst (pc := 1) (v := 0) C dX11_cupboard_1 (by decide) ?_
  refine j_put (pc := 2) (ci := 11) (v := .int 0) (ws' := [(m0, .inr (11, [.int 0, .ref mtape, .int m_taped, .int m_size, .ref msort, .ref mplace, .ref mvalue, .int m_at, .int m_fault, .ref mwords, .ref mtold, .ref mop, .ref marg, .int m_codes, .ref mnames, .ref mhasHabit, .int m_isNew, .ref mfactWords, .ref mfacts, .ref mpile, .ref mstates, .ref misMarked, .int m_inShelf, .int m_inStack, .int m_inPlace, .ref mrow, .int m_rowMany, .ref mthr, .ref mmays, .ref mtall, .ref mweights, .ref mrowOfWare, .ref mneededOf, .int m_goShelf, .int m_goStack, .int m_goLeft, .ref mtried, .ref mbestRow, .int m_bestCost, .int m_bestMany, .int m_bestShelf, .int m_bestSet, .ref mdigits])), (mtape, .inl (cyI, 1000, .inl m_tape)), (msort, .inl (cyI, 1002, .inl m_sort)), (mplace, .inl (cyI, 1002, .inl m_place)), (mvalue, .inl (cyJ, 1002, .inr (.inl m_value))), (mwords, .inl (cyJ, 23, .inr (.inl m_words))), (mtold, .inl (cyI, 240, .inl m_told)), (mop, .inl (cyI, 2200, .inl m_op)), (marg, .inl (cyI, 2200, .inl m_arg)), (mnames, .inl (cyJ, 16, .inr (.inl m_names))), (mhasHabit, .inl (cyZ, 12, .inl m_hasHabit)), (mfactWords, .inl (cyI, 8, .inl m_factWords)), (mstates, .inl (cyI, 2760, .inl m_states)), (misMarked, .inl (cyZ, 4, .inl m_isMarked)), (mmays, .inl (cyZ, 144, .inl m_mays)), (mtall, .inl (cyI, 49152, .inl m_tall))]) C inw_11 0 rfl rfl 0 (by decide) wd_629 rfl tyX11_ok nmX11 rfl (tyX11_ok 0 (by decide)) rfl rfl (Nat.le_of_ble_eq_true rfl) dX11_cupboard_2 rfl ?_
  refine j_aload_n (pc := 5) C dX11_cupboard_5 rfl 0 rfl ?_
  refine j_callV (pc := 6) (As := []) (rest := []) (wr := [(mwords, .inl (cyJ, 23, .inr (.inl m_words))), (mtold, .inl (cyI, 240, .inl m_told)), (mop, .inl (cyI, 2200, .inl m_op)), (marg, .inl (cyI, 2200, .inl m_arg)), (mnames, .inl (cyJ, 16, .inr (.inl m_names))), (mhasHabit, .inl (cyZ, 12, .inl m_hasHabit)), (mfactWords, .inl (cyI, 8, .inl m_factWords)), (mstates, .inl (cyI, 2760, .inl m_states)), (misMarked, .inl (cyZ, 4, .inl m_isMarked)), (mmays, .inl (cyZ, 144, .inl m_mays)), (mtall, .inl (cyI, 49152, .inl m_tall))]) C (c_X11_cutAll l D cyC cyI cyJ cyZ cyO m0 mtape msort mplace mvalue mwords mtold mop marg mnames mhasHabit mfactWords mfacts mpile mstates misMarked mrow mthr mmays mtall mweights mrowOfWare mneededOf mtried mbestRow mdigits 0 m_taped m_size m_at m_fault m_codes m_isNew m_inShelf m_inStack m_inPlace m_rowMany m_goShelf m_goStack m_goLeft m_bestCost m_bestMany m_bestShelf m_bestSet m_tape m_sort m_place m_value h_m_taped h_m_size h_m_at h_m_fault h_m_codes h_m_isNew h_m_inShelf h_m_inStack h_m_inPlace h_m_rowMany h_m_goShelf h_m_bestMany h_m_bestShelf h_m_place) wd_949 wd_624 wd_950 wd_951 wd_952 ⟨by decide, by decide, rfl⟩ rfl ⟨rfl, rfl, by decide, by decide⟩ ⟨by decide, by decide⟩ [0, 1, 2, 3, 4] [5, 6, 7, 8, 9, 10, 11, 12, 13, 14, 15] rfl rfl ⟨by decide, by decide, by decide⟩ 0 rfl rfl rfl (Nat.le_of_ble_eq_true rfl) dX11_cupboard_6 (fun u_1 hw_2 => ?_)
  refine j_eq (ws2 := [(mwords, .inl (cyJ, 23, .inr (.inl m_words))), (mtold, .inl (cyI, 240, .inl m_told)), (mop, .inl (cyI, 2200, .inl m_op)), (marg, .inl (cyI, 2200, .inl m_arg)), (mnames, .inl (cyJ, 16, .inr (.inl m_names))), (mhasHabit, .inl (cyZ, 12, .inl m_hasHabit)), (mfactWords, .inl (cyI, 8, .inl m_factWords)), (mstates, .inl (cyI, 2760, .inl m_states)), (misMarked, .inl (cyZ, 4, .inl m_isMarked)), (mmays, .inl (cyZ, 144, .inl m_mays)), (mtall, .inl (cyI, 49152, .inl m_tall)), (m0, .inr (11, [.int 0, .ref mtape, .int 0, .int m_taped, .ref msort, .ref mplace, .ref mvalue, .int 0, .int 0, .ref mwords, .ref mtold, .ref mop, .ref marg, .int m_codes, .ref mnames, .ref mhasHabit, .int m_isNew, .ref mfactWords, .ref mfacts, .ref mpile, .ref mstates, .ref misMarked, .int m_inShelf, .int m_inStack, .int m_inPlace, .ref mrow, .int m_rowMany, .ref mthr, .ref mmays, .ref mtall, .ref mweights, .ref mrowOfWare, .ref mneededOf, .int m_goShelf, .int m_goStack, .int m_goLeft, .ref mtried, .ref mbestRow, .int m_bestCost, .int m_bestMany, .int m_bestShelf, .int m_bestSet, .ref mdigits])), (mtape, .inl (cyI, 1000, .inl m_tape)), (msort, .inl (cyI, 1002, .inl (u_1.2.2.1 0))), (mplace, .inl (cyI, 1002, .inl (u_1.2.2.1 1))), (mvalue, .inl (cyJ, 1002, .inr (.inl (u_1.2.2.2 0))))]) (pc2 := 9) (lv2 := [(0, .ref m0)]) (st2 := []) rfl rfl rfl rfl ?_
  obtain ⟨hw_2_0, hw_2_1, hw_2_2, hw_2_3⟩ := hw_2
  refine j_aload_n (pc := 9) C dX11_cupboard_9 rfl 0 rfl ?_
  refine j_iconst (pc := 10) (v := 0) C dX11_cupboard_10 (by decide) ?_
  refine j_put (pc := 11) (ci := 11) (v := .int 0) (ws' := [(mwords, .inl (cyJ, 23, .inr (.inl m_words))), (mtold, .inl (cyI, 240, .inl m_told)), (mop, .inl (cyI, 2200, .inl m_op)), (marg, .inl (cyI, 2200, .inl m_arg)), (mnames, .inl (cyJ, 16, .inr (.inl m_names))), (mhasHabit, .inl (cyZ, 12, .inl m_hasHabit)), (mfactWords, .inl (cyI, 8, .inl m_factWords)), (mstates, .inl (cyI, 2760, .inl m_states)), (misMarked, .inl (cyZ, 4, .inl m_isMarked)), (mmays, .inl (cyZ, 144, .inl m_mays)), (mtall, .inl (cyI, 49152, .inl m_tall)), (m0, .inr (11, [.int 0, .ref mtape, .int 0, .int m_taped, .ref msort, .ref mplace, .ref mvalue, .int 0, .int 0, .ref mwords, .ref mtold, .ref mop, .ref marg, .int 0, .ref mnames, .ref mhasHabit, .int m_isNew, .ref mfactWords, .ref mfacts, .ref mpile, .ref mstates, .ref misMarked, .int m_inShelf, .int m_inStack, .int m_inPlace, .ref mrow, .int m_rowMany, .ref mthr, .ref mmays, .ref mtall, .ref mweights, .ref mrowOfWare, .ref mneededOf, .int m_goShelf, .int m_goStack, .int m_goLeft, .ref mtried, .ref mbestRow, .int m_bestCost, .int m_bestMany, .int m_bestShelf, .int m_bestSet, .ref mdigits])), (mtape, .inl (cyI, 1000, .inl m_tape)), (msort, .inl (cyI, 1002, .inl (u_1.2.2.1 0))), (mplace, .inl (cyI, 1002, .inl (u_1.2.2.1 1))), (mvalue, .inl (cyJ, 1002, .inr (.inl (u_1.2.2.2 0))))]) C inw_11 11 rfl rfl 13 (by decide) wd_697 rfl tyX11_ok nmX11 rfl (tyX11_ok 13 (by decide)) rfl rfl (Nat.le_of_ble_eq_true rfl) dX11_cupboard_11 rfl ?_
  refine j_iconst (pc := 14) (v := 0) C dX11_cupboard_14 (by decide) ?_
  refine j_istore_n (pc := 15) (lv' := [(1, .int 0), (0, .ref m0)]) C dX11_cupboard_15 rfl (by decide) rfl ?_
  have loop_3 : ∀ (k_3 : Nat) (x3_1 : Int32) (g3_mtold : Nat → Int32), (0 ≤ (x3_1).toInt ∧ (x3_1).toInt ≤ 120) → (TV g3_mtold) → (Fr 120 m_told g3_mtold) → (∀ j : Nat, (j : Int) < x3_1.toInt → g3_mtold (120 + j) = 0) → (120 - x3_1.toInt).toNat < k_3 → J p l e ({ frames := 33, cells := 0, slots := 0, locals := 730 } : Room) s m args below meth c D A 2 0 0 (QX below D (TY cyC cyI cyJ cyZ cyO) A (fun u => some (.int (u.2.1 0))) (fun u => (0 ≤ (u.2.1 1).toInt ∧ (u.2.1 1).toInt ≤ 1000) ∧ (0 ≤ (u.2.1 2).toInt ∧ (u.2.1 2).toInt ≤ 16005) ∧ (0 ≤ (u.2.1 3).toInt ∧ (u.2.1 3).toInt ≤ 1000) ∧ (0 ≤ (u.2.1 4).toInt ∧ (u.2.1 4).toInt ≤ 1) ∧ (Iv 1002 (0) (1000) (u.2.2.1 1)) ∧ (TV (u.2.2.1 2)) ∧ (SV (u.2.2.1 6)) ∧ (WFm (u.2.2.1 2) (u.2.2.1 3) (u.2.2.1 4)) ∧ (SI (u.2.2.1 6) (u.2.2.1 2) (u.2.2.1 7)) ∧ (((u.2.1 4)).toInt = 0 → TALL (u.2.2.1 2) m_mays m_tall) ∧ (((u.2.1 0)).toInt = (cup m_tape (m_taped).toInt.toNat)) ∧ (((u.2.1 0)).toInt = 0 → TDr (u.2.2.1 2) (cupN m_tape (m_taped).toInt.toNat)) ∧ (¬ ((u.2.1 0)).toInt = 0 → Fr 120 m_told (u.2.2.1 2)) ∧ (((u.2.1 0)).toInt = 0 → ME6 (u.2.2.1 2) (u.2.2.1 3) (u.2.2.1 4) (cupE m_tape (m_taped).toInt.toNat)) ∧ (∀ E : (Nat → (Nat → Int32) → Int32), ¬ ((u.2.1 0)).toInt = 0 → ME6 m_told m_op m_arg E → ME6 (u.2.2.1 2) (u.2.2.1 3) (u.2.2.1 4) E) ∧ (¬ ((u.2.1 0)).toInt = 0 ∨ ((u.2.2.1 7) 0).toInt = 0) ∧ (((u.2.1 0)).toInt = 0 ∨ ((u.2.2.1 7) 0).toInt = (m_isMarked 0).toInt) ∧ (¬ ((u.2.1 0)).toInt = 0 ∨ ((u.2.2.1 7) 1).toInt = 0) ∧ (((u.2.1 0)).toInt = 0 ∨ ((u.2.2.1 7) 1).toInt = (m_isMarked 1).toInt) ∧ (¬ ((u.2.1 0)).toInt = 0 ∨ ((u.2.2.1 7) 2).toInt = 0) ∧ (((u.2.1 0)).toInt = 0 ∨ ((u.2.2.1 7) 2).toInt = (m_isMarked 2).toInt) ∧ (¬ ((u.2.1 0)).toInt = 0 ∨ ((u.2.2.1 7) 3).toInt = 0) ∧ (((u.2.1 0)).toInt = 0 ∨ ((u.2.2.1 7) 3).toInt = (m_isMarked 3).toInt) ∧ (IM (((u.2.1 0)).toInt = 0) (∀ j : Nat, j < 460 → (u.2.2.1 6) j = 0)) ∧ (IM (¬ ((u.2.1 0)).toInt = 0) ((u.2.2.1 6) = m_states)) ∧ (((u.2.1 0)).toInt = 0 → ((u.2.2.1 6) 421).toInt = 0) ∧ (¬ ((u.2.1 0)).toInt = 0 → (u.2.2.1 6) 421 = m_states 421) ∧ (∀ j : Nat, 460 ≤ j → (u.2.2.1 6) j = m_states j)) (fun u => [(m0, .inr (11, [.int 0, .ref mtape, .int 0, .int m_taped, .ref msort, .ref mplace, .ref mvalue, .int (u.2.1 1), .int (u.2.1 2), .ref mwords, .ref mtold, .ref mop, .ref marg, .int (u.2.1 3), .ref mnames, .ref mhasHabit, .int (u.2.1 4), .ref mfactWords, .ref mfacts, .ref mpile, .ref mstates, .ref misMarked, .int m_inShelf, .int m_inStack, .int m_inPlace, .ref mrow, .int m_rowMany, .ref mthr, .ref mmays, .ref mtall, .ref mweights, .ref mrowOfWare, .ref mneededOf, .int m_goShelf, .int m_goStack, .int m_goLeft, .ref mtried, .ref mbestRow, .int m_bestCost, .int m_bestMany, .int m_bestShelf, .int m_bestSet, .ref mdigits])), (mtape, .inl (cyI, 1000, .inl m_tape)), (msort, .inl (cyI, 1002, .inl (u.2.2.1 0))), (mplace, .inl (cyI, 1002, .inl (u.2.2.1 1))), (mvalue, .inl (cyJ, 1002, .inr (.inl (u.2.2.2 0)))), (mwords, .inl (cyJ, 23, .inr (.inl m_words))), (mtold, .inl (cyI, 240, .inl (u.2.2.1 2))), (mop, .inl (cyI, 2200, .inl (u.2.2.1 3))), (marg, .inl (cyI, 2200, .inl (u.2.2.1 4))), (mnames, .inl (cyJ, 16, .inr (.inl (u.2.2.2 1)))), (mhasHabit, .inl (cyZ, 12, .inl (u.2.2.1 5))), (mfactWords, .inl (cyI, 8, .inl m_factWords)), (mstates, .inl (cyI, 2760, .inl (u.2.2.1 6))), (misMarked, .inl (cyZ, 4, .inl (u.2.2.1 7))), (mmays, .inl (cyZ, 144, .inl m_mays)), (mtall, .inl (cyI, 49152, .inl m_tall))]) args s 0 0) [(mwords, .inl (cyJ, 23, .inr (.inl m_words))), (mtold, .inl (cyI, 240, .inl g3_mtold)), (mop, .inl (cyI, 2200, .inl m_op)), (marg, .inl (cyI, 2200, .inl m_arg)), (mnames, .inl (cyJ, 16, .inr (.inl m_names))), (mhasHabit, .inl (cyZ, 12, .inl m_hasHabit)), (mfactWords, .inl (cyI, 8, .inl m_factWords)), (mstates, .inl (cyI, 2760, .inl m_states)), (misMarked, .inl (cyZ, 4, .inl m_isMarked)), (mmays, .inl (cyZ, 144, .inl m_mays)), (mtall, .inl (cyI, 49152, .inl m_tall)), (m0, .inr (11, [.int 0, .ref mtape, .int 0, .int m_taped, .ref msort, .ref mplace, .ref mvalue, .int 0, .int 0, .ref mwords, .ref mtold, .ref mop, .ref marg, .int 0, .ref mnames, .ref mhasHabit, .int m_isNew, .ref mfactWords, .ref mfacts, .ref mpile, .ref mstates, .ref misMarked, .int m_inShelf, .int m_inStack, .int m_inPlace, .ref mrow, .int m_rowMany, .ref mthr, .ref mmays, .ref mtall, .ref mweights, .ref mrowOfWare, .ref mneededOf, .int m_goShelf, .int m_goStack, .int m_goLeft, .ref mtried, .ref mbestRow, .int m_bestCost, .int m_bestMany, .int m_bestShelf, .int m_bestSet, .ref mdigits])), (mtape, .inl (cyI, 1000, .inl m_tape)), (msort, .inl (cyI, 1002, .inl (u_1.2.2.1 0))), (mplace, .inl (cyI, 1002, .inl (u_1.2.2.1 1))), (mvalue, .inl (cyJ, 1002, .inr (.inl (u_1.2.2.2 0))))] 16 [(1, .int x3_1), (0, .ref m0)] [] := by
    intro k_3
    induction k_3 with
    | zero =>
      intro x3_1 g3_mtold hi_3_0 hi_3_1 hq_3_0 hq_3_1 hm_3
      exact absurd hm_3 (Nat.not_lt_zero _)
    | succ k_3 ih_3 =>
      intro x3_1 g3_mtold hi_3_0 hi_3_1 hq_3_0 hq_3_1 hm_3
      refine j_iload_n (pc := 16) C dX11_cupboard_16 rfl 0 rfl ?_
      refine j_bipush (pc := 17) (v := 120) C dX11_cupboard_17 (by decide) ?_
      refine j_icmp_ge (pc := 19) (tgt := 38) C dX11_cupboard_19 (by decide) (fun c_4 => ?_) (fun c_4 => ?_)
      · skip
        have el_120 : (120 : Int32).toInt = 120 := rfl
        rw [i_le] at c_4
        have k0c_4 : x3_1.toInt = 120 := by omega
        refine j_iconst (pc := 38) (v := 0) C dX11_cupboard_38 (by decide) ?_
        refine j_istore_n (pc := 39) (lv' := [(1, .int 0), (0, .ref m0)]) C dX11_cupboard_39 rfl (by decide) rfl ?_
        have loop_5 : ∀ (k_5 : Nat) (x5_1 : Int32) (g5_mhasHabit : Nat → Int32), (0 ≤ (x5_1).toInt ∧ (x5_1).toInt ≤ 12) → (∀ j : Nat, (j : Int) < x5_1.toInt → (g5_mhasHabit j).toInt = 0) → (12 - x5_1.toInt).toNat < k_5 → J p l e ({ frames := 33, cells := 0, slots := 0, locals := 730 } : Room) s m args below meth c D A 2 0 0 (QX below D (TY cyC cyI cyJ cyZ cyO) A (fun u => some (.int (u.2.1 0))) (fun u => (0 ≤ (u.2.1 1).toInt ∧ (u.2.1 1).toInt ≤ 1000) ∧ (0 ≤ (u.2.1 2).toInt ∧ (u.2.1 2).toInt ≤ 16005) ∧ (0 ≤ (u.2.1 3).toInt ∧ (u.2.1 3).toInt ≤ 1000) ∧ (0 ≤ (u.2.1 4).toInt ∧ (u.2.1 4).toInt ≤ 1) ∧ (Iv 1002 (0) (1000) (u.2.2.1 1)) ∧ (TV (u.2.2.1 2)) ∧ (SV (u.2.2.1 6)) ∧ (WFm (u.2.2.1 2) (u.2.2.1 3) (u.2.2.1 4)) ∧ (SI (u.2.2.1 6) (u.2.2.1 2) (u.2.2.1 7)) ∧ (((u.2.1 4)).toInt = 0 → TALL (u.2.2.1 2) m_mays m_tall) ∧ (((u.2.1 0)).toInt = (cup m_tape (m_taped).toInt.toNat)) ∧ (((u.2.1 0)).toInt = 0 → TDr (u.2.2.1 2) (cupN m_tape (m_taped).toInt.toNat)) ∧ (¬ ((u.2.1 0)).toInt = 0 → Fr 120 m_told (u.2.2.1 2)) ∧ (((u.2.1 0)).toInt = 0 → ME6 (u.2.2.1 2) (u.2.2.1 3) (u.2.2.1 4) (cupE m_tape (m_taped).toInt.toNat)) ∧ (∀ E : (Nat → (Nat → Int32) → Int32), ¬ ((u.2.1 0)).toInt = 0 → ME6 m_told m_op m_arg E → ME6 (u.2.2.1 2) (u.2.2.1 3) (u.2.2.1 4) E) ∧ (¬ ((u.2.1 0)).toInt = 0 ∨ ((u.2.2.1 7) 0).toInt = 0) ∧ (((u.2.1 0)).toInt = 0 ∨ ((u.2.2.1 7) 0).toInt = (m_isMarked 0).toInt) ∧ (¬ ((u.2.1 0)).toInt = 0 ∨ ((u.2.2.1 7) 1).toInt = 0) ∧ (((u.2.1 0)).toInt = 0 ∨ ((u.2.2.1 7) 1).toInt = (m_isMarked 1).toInt) ∧ (¬ ((u.2.1 0)).toInt = 0 ∨ ((u.2.2.1 7) 2).toInt = 0) ∧ (((u.2.1 0)).toInt = 0 ∨ ((u.2.2.1 7) 2).toInt = (m_isMarked 2).toInt) ∧ (¬ ((u.2.1 0)).toInt = 0 ∨ ((u.2.2.1 7) 3).toInt = 0) ∧ (((u.2.1 0)).toInt = 0 ∨ ((u.2.2.1 7) 3).toInt = (m_isMarked 3).toInt) ∧ (IM (((u.2.1 0)).toInt = 0) (∀ j : Nat, j < 460 → (u.2.2.1 6) j = 0)) ∧ (IM (¬ ((u.2.1 0)).toInt = 0) ((u.2.2.1 6) = m_states)) ∧ (((u.2.1 0)).toInt = 0 → ((u.2.2.1 6) 421).toInt = 0) ∧ (¬ ((u.2.1 0)).toInt = 0 → (u.2.2.1 6) 421 = m_states 421) ∧ (∀ j : Nat, 460 ≤ j → (u.2.2.1 6) j = m_states j)) (fun u => [(m0, .inr (11, [.int 0, .ref mtape, .int 0, .int m_taped, .ref msort, .ref mplace, .ref mvalue, .int (u.2.1 1), .int (u.2.1 2), .ref mwords, .ref mtold, .ref mop, .ref marg, .int (u.2.1 3), .ref mnames, .ref mhasHabit, .int (u.2.1 4), .ref mfactWords, .ref mfacts, .ref mpile, .ref mstates, .ref misMarked, .int m_inShelf, .int m_inStack, .int m_inPlace, .ref mrow, .int m_rowMany, .ref mthr, .ref mmays, .ref mtall, .ref mweights, .ref mrowOfWare, .ref mneededOf, .int m_goShelf, .int m_goStack, .int m_goLeft, .ref mtried, .ref mbestRow, .int m_bestCost, .int m_bestMany, .int m_bestShelf, .int m_bestSet, .ref mdigits])), (mtape, .inl (cyI, 1000, .inl m_tape)), (msort, .inl (cyI, 1002, .inl (u.2.2.1 0))), (mplace, .inl (cyI, 1002, .inl (u.2.2.1 1))), (mvalue, .inl (cyJ, 1002, .inr (.inl (u.2.2.2 0)))), (mwords, .inl (cyJ, 23, .inr (.inl m_words))), (mtold, .inl (cyI, 240, .inl (u.2.2.1 2))), (mop, .inl (cyI, 2200, .inl (u.2.2.1 3))), (marg, .inl (cyI, 2200, .inl (u.2.2.1 4))), (mnames, .inl (cyJ, 16, .inr (.inl (u.2.2.2 1)))), (mhasHabit, .inl (cyZ, 12, .inl (u.2.2.1 5))), (mfactWords, .inl (cyI, 8, .inl m_factWords)), (mstates, .inl (cyI, 2760, .inl (u.2.2.1 6))), (misMarked, .inl (cyZ, 4, .inl (u.2.2.1 7))), (mmays, .inl (cyZ, 144, .inl m_mays)), (mtall, .inl (cyI, 49152, .inl m_tall))]) args s 0 0) [(mwords, .inl (cyJ, 23, .inr (.inl m_words))), (mtold, .inl (cyI, 240, .inl g3_mtold)), (mop, .inl (cyI, 2200, .inl m_op)), (marg, .inl (cyI, 2200, .inl m_arg)), (mnames, .inl (cyJ, 16, .inr (.inl m_names))), (mhasHabit, .inl (cyZ, 12, .inl g5_mhasHabit)), (mfactWords, .inl (cyI, 8, .inl m_factWords)), (mstates, .inl (cyI, 2760, .inl m_states)), (misMarked, .inl (cyZ, 4, .inl m_isMarked)), (mmays, .inl (cyZ, 144, .inl m_mays)), (mtall, .inl (cyI, 49152, .inl m_tall)), (m0, .inr (11, [.int 0, .ref mtape, .int 0, .int m_taped, .ref msort, .ref mplace, .ref mvalue, .int 0, .int 0, .ref mwords, .ref mtold, .ref mop, .ref marg, .int 0, .ref mnames, .ref mhasHabit, .int m_isNew, .ref mfactWords, .ref mfacts, .ref mpile, .ref mstates, .ref misMarked, .int m_inShelf, .int m_inStack, .int m_inPlace, .ref mrow, .int m_rowMany, .ref mthr, .ref mmays, .ref mtall, .ref mweights, .ref mrowOfWare, .ref mneededOf, .int m_goShelf, .int m_goStack, .int m_goLeft, .ref mtried, .ref mbestRow, .int m_bestCost, .int m_bestMany, .int m_bestShelf, .int m_bestSet, .ref mdigits])), (mtape, .inl (cyI, 1000, .inl m_tape)), (msort, .inl (cyI, 1002, .inl (u_1.2.2.1 0))), (mplace, .inl (cyI, 1002, .inl (u_1.2.2.1 1))), (mvalue, .inl (cyJ, 1002, .inr (.inl (u_1.2.2.2 0))))] 40 [(1, .int x5_1), (0, .ref m0)] [] := by
          intro k_5
          induction k_5 with
          | zero =>
            intro x5_1 g5_mhasHabit hi_5_0 hq_5_0 hm_5
            exact absurd hm_5 (Nat.not_lt_zero _)
          | succ k_5 ih_5 =>
            intro x5_1 g5_mhasHabit hi_5_0 hq_5_0 hm_5
            refine j_iload_n (pc := 40) C dX11_cupboard_40 rfl 0 rfl ?_
            refine j_bipush (pc := 41) (v := 12) C dX11_cupboard_41 (by decide) ?_
            refine j_icmp_ge (pc := 43) (tgt := 59) C dX11_cupboard_43 (by decide) (fun c_6 => ?_) (fun c_6 => ?_)
            · skip
              have el_12 : (12 : Int32).toInt = 12 := rfl
              rw [i_le] at c_6
              have k0c_6 : x5_1.toInt = 12 := by omega
              have loop_7 : ∀ (k_7 : Nat) (g7_mtold : Nat → Int32) (g7_mop : Nat → Int32) (g7_marg : Nat → Int32) (g7_mnames : Nat → Int64) (g7_mhasHabit : Nat → Int32) (y7_m0_7 : Int32) (y7_m0_8 : Int32) (y7_m0_13 : Int32), (TV g7_mtold) → (0 ≤ (y7_m0_7).toInt ∧ (y7_m0_7).toInt ≤ 1000) → (0 ≤ (y7_m0_8).toInt ∧ (y7_m0_8).toInt ≤ 16005) → (0 ≤ (y7_m0_13).toInt ∧ (y7_m0_13).toInt ≤ 1000) → (y7_m0_13.toInt ≤ y7_m0_7.toInt ∧ y7_m0_7.toInt ≤ ((eN (u_1.2.2.1 0) : Nat) : Int)) → (Fr 120 m_told g7_mtold) → (Fr 1100 m_op g7_mop) → (Fr 1100 m_arg g7_marg) → (y7_m0_8.toInt = 0 → NW g7_mtold g7_mop g7_marg y7_m0_13.toInt) → (RGE (TKS m_tape (m_taped).toInt.toNat) g7_mnames g7_mtold g7_mhasHabit (u_1.2.2.1 1) g7_mop g7_marg y7_m0_13.toInt y7_m0_8.toInt y7_m0_7.toInt (cup m_tape (m_taped).toInt.toNat) (cupN m_tape (m_taped).toInt.toNat) (cupE m_tape (m_taped).toInt.toNat)) → (((eN (u_1.2.2.1 0) : Nat) : Int) - y7_m0_7.toInt).toNat < k_7 → J p l e ({ frames := 33, cells := 0, slots := 0, locals := 730 } : Room) s m args below meth c D A 2 0 0 (QX below D (TY cyC cyI cyJ cyZ cyO) A (fun u => some (.int (u.2.1 0))) (fun u => (0 ≤ (u.2.1 1).toInt ∧ (u.2.1 1).toInt ≤ 1000) ∧ (0 ≤ (u.2.1 2).toInt ∧ (u.2.1 2).toInt ≤ 16005) ∧ (0 ≤ (u.2.1 3).toInt ∧ (u.2.1 3).toInt ≤ 1000) ∧ (0 ≤ (u.2.1 4).toInt ∧ (u.2.1 4).toInt ≤ 1) ∧ (Iv 1002 (0) (1000) (u.2.2.1 1)) ∧ (TV (u.2.2.1 2)) ∧ (SV (u.2.2.1 6)) ∧ (WFm (u.2.2.1 2) (u.2.2.1 3) (u.2.2.1 4)) ∧ (SI (u.2.2.1 6) (u.2.2.1 2) (u.2.2.1 7)) ∧ (((u.2.1 4)).toInt = 0 → TALL (u.2.2.1 2) m_mays m_tall) ∧ (((u.2.1 0)).toInt = (cup m_tape (m_taped).toInt.toNat)) ∧ (((u.2.1 0)).toInt = 0 → TDr (u.2.2.1 2) (cupN m_tape (m_taped).toInt.toNat)) ∧ (¬ ((u.2.1 0)).toInt = 0 → Fr 120 m_told (u.2.2.1 2)) ∧ (((u.2.1 0)).toInt = 0 → ME6 (u.2.2.1 2) (u.2.2.1 3) (u.2.2.1 4) (cupE m_tape (m_taped).toInt.toNat)) ∧ (∀ E : (Nat → (Nat → Int32) → Int32), ¬ ((u.2.1 0)).toInt = 0 → ME6 m_told m_op m_arg E → ME6 (u.2.2.1 2) (u.2.2.1 3) (u.2.2.1 4) E) ∧ (¬ ((u.2.1 0)).toInt = 0 ∨ ((u.2.2.1 7) 0).toInt = 0) ∧ (((u.2.1 0)).toInt = 0 ∨ ((u.2.2.1 7) 0).toInt = (m_isMarked 0).toInt) ∧ (¬ ((u.2.1 0)).toInt = 0 ∨ ((u.2.2.1 7) 1).toInt = 0) ∧ (((u.2.1 0)).toInt = 0 ∨ ((u.2.2.1 7) 1).toInt = (m_isMarked 1).toInt) ∧ (¬ ((u.2.1 0)).toInt = 0 ∨ ((u.2.2.1 7) 2).toInt = 0) ∧ (((u.2.1 0)).toInt = 0 ∨ ((u.2.2.1 7) 2).toInt = (m_isMarked 2).toInt) ∧ (¬ ((u.2.1 0)).toInt = 0 ∨ ((u.2.2.1 7) 3).toInt = 0) ∧ (((u.2.1 0)).toInt = 0 ∨ ((u.2.2.1 7) 3).toInt = (m_isMarked 3).toInt) ∧ (IM (((u.2.1 0)).toInt = 0) (∀ j : Nat, j < 460 → (u.2.2.1 6) j = 0)) ∧ (IM (¬ ((u.2.1 0)).toInt = 0) ((u.2.2.1 6) = m_states)) ∧ (((u.2.1 0)).toInt = 0 → ((u.2.2.1 6) 421).toInt = 0) ∧ (¬ ((u.2.1 0)).toInt = 0 → (u.2.2.1 6) 421 = m_states 421) ∧ (∀ j : Nat, 460 ≤ j → (u.2.2.1 6) j = m_states j)) (fun u => [(m0, .inr (11, [.int 0, .ref mtape, .int 0, .int m_taped, .ref msort, .ref mplace, .ref mvalue, .int (u.2.1 1), .int (u.2.1 2), .ref mwords, .ref mtold, .ref mop, .ref marg, .int (u.2.1 3), .ref mnames, .ref mhasHabit, .int (u.2.1 4), .ref mfactWords, .ref mfacts, .ref mpile, .ref mstates, .ref misMarked, .int m_inShelf, .int m_inStack, .int m_inPlace, .ref mrow, .int m_rowMany, .ref mthr, .ref mmays, .ref mtall, .ref mweights, .ref mrowOfWare, .ref mneededOf, .int m_goShelf, .int m_goStack, .int m_goLeft, .ref mtried, .ref mbestRow, .int m_bestCost, .int m_bestMany, .int m_bestShelf, .int m_bestSet, .ref mdigits])), (mtape, .inl (cyI, 1000, .inl m_tape)), (msort, .inl (cyI, 1002, .inl (u.2.2.1 0))), (mplace, .inl (cyI, 1002, .inl (u.2.2.1 1))), (mvalue, .inl (cyJ, 1002, .inr (.inl (u.2.2.2 0)))), (mwords, .inl (cyJ, 23, .inr (.inl m_words))), (mtold, .inl (cyI, 240, .inl (u.2.2.1 2))), (mop, .inl (cyI, 2200, .inl (u.2.2.1 3))), (marg, .inl (cyI, 2200, .inl (u.2.2.1 4))), (mnames, .inl (cyJ, 16, .inr (.inl (u.2.2.2 1)))), (mhasHabit, .inl (cyZ, 12, .inl (u.2.2.1 5))), (mfactWords, .inl (cyI, 8, .inl m_factWords)), (mstates, .inl (cyI, 2760, .inl (u.2.2.1 6))), (misMarked, .inl (cyZ, 4, .inl (u.2.2.1 7))), (mmays, .inl (cyZ, 144, .inl m_mays)), (mtall, .inl (cyI, 49152, .inl m_tall))]) args s 0 0) [(mwords, .inl (cyJ, 23, .inr (.inl m_words))), (mtold, .inl (cyI, 240, .inl g7_mtold)), (mop, .inl (cyI, 2200, .inl g7_mop)), (marg, .inl (cyI, 2200, .inl g7_marg)), (mnames, .inl (cyJ, 16, .inr (.inl g7_mnames))), (mhasHabit, .inl (cyZ, 12, .inl g7_mhasHabit)), (mfactWords, .inl (cyI, 8, .inl m_factWords)), (mstates, .inl (cyI, 2760, .inl m_states)), (misMarked, .inl (cyZ, 4, .inl m_isMarked)), (mmays, .inl (cyZ, 144, .inl m_mays)), (mtall, .inl (cyI, 49152, .inl m_tall)), (m0, .inr (11, [.int 0, .ref mtape, .int 0, .int m_taped, .ref msort, .ref mplace, .ref mvalue, .int y7_m0_7, .int y7_m0_8, .ref mwords, .ref mtold, .ref mop, .ref marg, .int y7_m0_13, .ref mnames, .ref mhasHabit, .int m_isNew, .ref mfactWords, .ref mfacts, .ref mpile, .ref mstates, .ref misMarked, .int m_inShelf, .int m_inStack, .int m_inPlace, .ref mrow, .int m_rowMany, .ref mthr, .ref mmays, .ref mtall, .ref mweights, .ref mrowOfWare, .ref mneededOf, .int m_goShelf, .int m_goStack, .int m_goLeft, .ref mtried, .ref mbestRow, .int m_bestCost, .int m_bestMany, .int m_bestShelf, .int m_bestSet, .ref mdigits])), (mtape, .inl (cyI, 1000, .inl m_tape)), (msort, .inl (cyI, 1002, .inl (u_1.2.2.1 0))), (mplace, .inl (cyI, 1002, .inl (u_1.2.2.1 1))), (mvalue, .inl (cyJ, 1002, .inr (.inl (u_1.2.2.2 0))))] 59 [(0, .ref m0)] [] := by
                intro k_7
                induction k_7 with
                | zero =>
                  intro g7_mtold g7_mop g7_marg g7_mnames g7_mhasHabit y7_m0_7 y7_m0_8 y7_m0_13 hi_7_0 hi_7_5 hi_7_6 hi_7_7 hr_7 hq_7_0 hq_7_1 hq_7_2 hq_7_3 hq_7_4 hm_7
                  exact absurd hm_7 (Nat.not_lt_zero _)
                | succ k_7 ih_7 =>
                  intro g7_mtold g7_mop g7_marg g7_mnames g7_mhasHabit y7_m0_7 y7_m0_8 y7_m0_13 hi_7_0 hi_7_5 hi_7_6 hi_7_7 hr_7 hq_7_0 hq_7_1 hq_7_2 hq_7_3 hq_7_4 hm_7
                  obtain ⟨S9, N9, E9, k9, hS9⟩ := RGE.ex hq_7_4
                  refine j_aload_n (pc := 59) C dX11_cupboard_59 rfl 0 rfl ?_
                  refine j_get (pc := 60) (ci := 11) (v := .int y7_m0_8) C inw_11 11 rfl rfl 8 (by decide) wd_638 rfl rfl dX11_cupboard_60 ?_
                  refine j_if_ne (pc := 63) (tgt := 91) C dX11_cupboard_63 (by decide) (fun c_8 => ?_) (fun c_8 => ?_)
                  · skip
                    have el_0 : (0 : Int32).toInt = 0 := rfl
                    rw [i_eq] at c_8
                    have hF8 := RGE.fin hq_7_4 (fun z => by have z8 := (hw_2_2 (y7_m0_7).toInt.toNat (by omega)).1; omega)
                    have hF9 := hF8.1
                    refine j_aload_n (pc := 91) C dX11_cupboard_91 rfl 0 rfl ?_
                    refine j_get (pc := 92) (ci := 11) (v := .int y7_m0_8) C inw_11 11 rfl rfl 8 (by decide) wd_638 rfl rfl dX11_cupboard_92 ?_
                    have el_0 : (0 : Int32).toInt = 0 := rfl
                    refine j_if_le_f (pc := 95) (tgt := 103) C dX11_cupboard_95 (by decide) (by rw [i_le]; omega) ?_
                    refine j_aload_n (pc := 98) C dX11_cupboard_98 rfl 0 rfl ?_
                    refine j_get (pc := 99) (ci := 11) (v := .int y7_m0_8) C inw_11 11 rfl rfl 8 (by decide) wd_638 rfl rfl dX11_cupboard_99 ?_
                    exact j_iret (pc := 102) C hr hk (fun i => [].getD i 0, fun i => [y7_m0_8, y7_m0_7, y7_m0_8, y7_m0_13, m_isNew].getD i 0, fun i => [(u_1.2.2.1 0), (u_1.2.2.1 1), g7_mtold, g7_mop, g7_marg, g7_mhasHabit, m_states, m_isMarked].getD i (fun _ => 0), fun i => [(u_1.2.2.2 0), g7_mnames].getD i (fun _ => 0)) rfl (show (0 ≤ (y7_m0_7).toInt ∧ (y7_m0_7).toInt ≤ 1000) ∧ (0 ≤ (y7_m0_8).toInt ∧ (y7_m0_8).toInt ≤ 16005) ∧ (0 ≤ (y7_m0_13).toInt ∧ (y7_m0_13).toInt ≤ 1000) ∧ (0 ≤ (m_isNew).toInt ∧ (m_isNew).toInt ≤ 1) ∧ (Iv 1002 (0) (1000) (u_1.2.2.1 1)) ∧ (TV g7_mtold) ∧ (SV m_states) ∧ (WFm g7_mtold g7_mop g7_marg) ∧ (SI m_states g7_mtold m_isMarked) ∧ ((m_isNew).toInt = 0 → TALL g7_mtold m_mays m_tall) ∧ ((y7_m0_8).toInt = (cup m_tape (m_taped).toInt.toNat)) ∧ ((y7_m0_8).toInt = 0 → TDr g7_mtold (cupN m_tape (m_taped).toInt.toNat)) ∧ (¬ (y7_m0_8).toInt = 0 → Fr 120 m_told g7_mtold) ∧ ((y7_m0_8).toInt = 0 → ME6 g7_mtold g7_mop g7_marg (cupE m_tape (m_taped).toInt.toNat)) ∧ (∀ E : (Nat → (Nat → Int32) → Int32), ¬ (y7_m0_8).toInt = 0 → ME6 m_told m_op m_arg E → ME6 g7_mtold g7_mop g7_marg E) ∧ (¬ (y7_m0_8).toInt = 0 ∨ (m_isMarked 0).toInt = 0) ∧ ((y7_m0_8).toInt = 0 ∨ (m_isMarked 0).toInt = (m_isMarked 0).toInt) ∧ (¬ (y7_m0_8).toInt = 0 ∨ (m_isMarked 1).toInt = 0) ∧ ((y7_m0_8).toInt = 0 ∨ (m_isMarked 1).toInt = (m_isMarked 1).toInt) ∧ (¬ (y7_m0_8).toInt = 0 ∨ (m_isMarked 2).toInt = 0) ∧ ((y7_m0_8).toInt = 0 ∨ (m_isMarked 2).toInt = (m_isMarked 2).toInt) ∧ (¬ (y7_m0_8).toInt = 0 ∨ (m_isMarked 3).toInt = 0) ∧ ((y7_m0_8).toInt = 0 ∨ (m_isMarked 3).toInt = (m_isMarked 3).toInt) ∧ (IM ((y7_m0_8).toInt = 0) (∀ j : Nat, j < 460 → m_states j = 0)) ∧ (IM (¬ (y7_m0_8).toInt = 0) (m_states = m_states)) ∧ ((y7_m0_8).toInt = 0 → (m_states 421).toInt = 0) ∧ (¬ (y7_m0_8).toInt = 0 → m_states 421 = m_states 421) ∧ (∀ j : Nat, 460 ≤ j → m_states j = m_states j) from ⟨hi_7_5, hi_7_6, hi_7_7, h_m_isNew, hw_2_0, hi_7_0, h_m_states, (WFm.fr hwf (h_m_told 2 (by decide)).2 hq_7_0 hq_7_1 hq_7_2), (SI.told hSI hq_7_0), (fun h => TALL.told (hTA h) (h_m_told 0 (by decide)).2 hq_7_0), (by omega), (fun hz => by exfalso; omega), (fun _ => hq_7_0), (fun hz => by exfalso; omega), (fun E hz hE => ME6.fr hE (fun k hk => by obtain ⟨e, s1, s2, s3⟩ := hwf k hk; exact ⟨e, s2, s3, s1.1⟩) (h_m_told 2 (by decide)).2 hq_7_0 hq_7_1 hq_7_2), (Or.inl (by omega)), (Or.inr rfl), (Or.inl (by omega)), (Or.inr rfl), (Or.inl (by omega)), (Or.inr rfl), (Or.inl (by omega)), (Or.inr rfl), (fun hz => by exfalso; omega), (fun hz => rfl), (fun hz => by exfalso; omega), (fun hz => rfl), (fun j hj => rfl)⟩) [11, 12, 13, 14, 15, 0, 1, 2, 3, 4, 5, 6, 7, 8, 9, 10] (by decide) rfl (by decide) (by decide) dX11_cupboard_102
                  · skip
                    have el_0 : (0 : Int32).toInt = 0 := rfl
                    rw [i_eq] at c_8
                    refine j_aload_n (pc := 66) C dX11_cupboard_66 rfl 0 rfl ?_
                    refine j_get (pc := 67) (ci := 11) (v := .ref msort) C inw_11 11 rfl rfl 4 (by decide) wd_635 rfl rfl dX11_cupboard_67 ?_
                    refine j_aload_n (pc := 70) C dX11_cupboard_70 rfl 0 rfl ?_
                    refine j_get (pc := 71) (ci := 11) (v := .int y7_m0_7) C inw_11 11 rfl rfl 7 (by decide) wd_637 rfl rfl dX11_cupboard_71 ?_
                    obtain ⟨v_9, ev_9⟩ : ∃ z, (u_1.2.2.1 0) (y7_m0_7).toInt.toNat = z := ⟨_, rfl⟩
                    have env_9 : ((u_1.2.2.1 0) (y7_m0_7).toInt.toNat).toInt = v_9.toInt := by rw [ev_9]
                    refine j_iald (pc := 74) (v := v_9) (k := (y7_m0_7).toInt.toNat) C 13 1 rfl rfl (i_nn hi_7_5.1) rfl (i_lt_n hi_7_5.1 (Int.lt_of_le_of_lt hi_7_5.2 (by decide))) ev_9 dX11_cupboard_74 ?_
                    refine j_if_eq (pc := 75) (tgt := 91) C dX11_cupboard_75 (by decide) (fun c_10 => ?_) (fun c_10 => ?_)
                    · skip
                      have el_0 : (0 : Int32).toInt = 0 := rfl
                      rw [i_eq] at c_10
                      have hF8 := RGE.fin hq_7_4 (fun z => by have z8 := (hw_2_2 (y7_m0_7).toInt.toNat (by omega)).1; omega)
                      have hF9 := hF8.1
                      refine j_aload_n (pc := 91) C dX11_cupboard_91 rfl 0 rfl ?_
                      refine j_get (pc := 92) (ci := 11) (v := .int y7_m0_8) C inw_11 11 rfl rfl 8 (by decide) wd_638 rfl rfl dX11_cupboard_92 ?_
                      have el_0 : (0 : Int32).toInt = 0 := rfl
                      refine j_if_le_t (pc := 95) (tgt := 103) C dX11_cupboard_95 (by decide) (by rw [i_le]; omega) ?_
                      refine j_iconst (pc := 103) (v := 0) C dX11_cupboard_103 (by decide) ?_
                      refine j_istore_n (pc := 104) (lv' := [(1, .int 0), (0, .ref m0)]) C dX11_cupboard_104 rfl (by decide) rfl ?_
                      have loop_11 : ∀ (k_11 : Nat) (x11_1 : Int32) (g11_mtold : Nat → Int32), (0 ≤ (x11_1).toInt ∧ (x11_1).toInt ≤ 120) → (TV g11_mtold) → (∀ j : Nat, 120 ≤ j → g11_mtold j = g7_mtold j) → (∀ j : Nat, (j : Int) < x11_1.toInt → g11_mtold j = g7_mtold (120 + j)) → (120 - x11_1.toInt).toNat < k_11 → J p l e ({ frames := 33, cells := 0, slots := 0, locals := 730 } : Room) s m args below meth c D A 2 0 0 (QX below D (TY cyC cyI cyJ cyZ cyO) A (fun u => some (.int (u.2.1 0))) (fun u => (0 ≤ (u.2.1 1).toInt ∧ (u.2.1 1).toInt ≤ 1000) ∧ (0 ≤ (u.2.1 2).toInt ∧ (u.2.1 2).toInt ≤ 16005) ∧ (0 ≤ (u.2.1 3).toInt ∧ (u.2.1 3).toInt ≤ 1000) ∧ (0 ≤ (u.2.1 4).toInt ∧ (u.2.1 4).toInt ≤ 1) ∧ (Iv 1002 (0) (1000) (u.2.2.1 1)) ∧ (TV (u.2.2.1 2)) ∧ (SV (u.2.2.1 6)) ∧ (WFm (u.2.2.1 2) (u.2.2.1 3) (u.2.2.1 4)) ∧ (SI (u.2.2.1 6) (u.2.2.1 2) (u.2.2.1 7)) ∧ (((u.2.1 4)).toInt = 0 → TALL (u.2.2.1 2) m_mays m_tall) ∧ (((u.2.1 0)).toInt = (cup m_tape (m_taped).toInt.toNat)) ∧ (((u.2.1 0)).toInt = 0 → TDr (u.2.2.1 2) (cupN m_tape (m_taped).toInt.toNat)) ∧ (¬ ((u.2.1 0)).toInt = 0 → Fr 120 m_told (u.2.2.1 2)) ∧ (((u.2.1 0)).toInt = 0 → ME6 (u.2.2.1 2) (u.2.2.1 3) (u.2.2.1 4) (cupE m_tape (m_taped).toInt.toNat)) ∧ (∀ E : (Nat → (Nat → Int32) → Int32), ¬ ((u.2.1 0)).toInt = 0 → ME6 m_told m_op m_arg E → ME6 (u.2.2.1 2) (u.2.2.1 3) (u.2.2.1 4) E) ∧ (¬ ((u.2.1 0)).toInt = 0 ∨ ((u.2.2.1 7) 0).toInt = 0) ∧ (((u.2.1 0)).toInt = 0 ∨ ((u.2.2.1 7) 0).toInt = (m_isMarked 0).toInt) ∧ (¬ ((u.2.1 0)).toInt = 0 ∨ ((u.2.2.1 7) 1).toInt = 0) ∧ (((u.2.1 0)).toInt = 0 ∨ ((u.2.2.1 7) 1).toInt = (m_isMarked 1).toInt) ∧ (¬ ((u.2.1 0)).toInt = 0 ∨ ((u.2.2.1 7) 2).toInt = 0) ∧ (((u.2.1 0)).toInt = 0 ∨ ((u.2.2.1 7) 2).toInt = (m_isMarked 2).toInt) ∧ (¬ ((u.2.1 0)).toInt = 0 ∨ ((u.2.2.1 7) 3).toInt = 0) ∧ (((u.2.1 0)).toInt = 0 ∨ ((u.2.2.1 7) 3).toInt = (m_isMarked 3).toInt) ∧ (IM (((u.2.1 0)).toInt = 0) (∀ j : Nat, j < 460 → (u.2.2.1 6) j = 0)) ∧ (IM (¬ ((u.2.1 0)).toInt = 0) ((u.2.2.1 6) = m_states)) ∧ (((u.2.1 0)).toInt = 0 → ((u.2.2.1 6) 421).toInt = 0) ∧ (¬ ((u.2.1 0)).toInt = 0 → (u.2.2.1 6) 421 = m_states 421) ∧ (∀ j : Nat, 460 ≤ j → (u.2.2.1 6) j = m_states j)) (fun u => [(m0, .inr (11, [.int 0, .ref mtape, .int 0, .int m_taped, .ref msort, .ref mplace, .ref mvalue, .int (u.2.1 1), .int (u.2.1 2), .ref mwords, .ref mtold, .ref mop, .ref marg, .int (u.2.1 3), .ref mnames, .ref mhasHabit, .int (u.2.1 4), .ref mfactWords, .ref mfacts, .ref mpile, .ref mstates, .ref misMarked, .int m_inShelf, .int m_inStack, .int m_inPlace, .ref mrow, .int m_rowMany, .ref mthr, .ref mmays, .ref mtall, .ref mweights, .ref mrowOfWare, .ref mneededOf, .int m_goShelf, .int m_goStack, .int m_goLeft, .ref mtried, .ref mbestRow, .int m_bestCost, .int m_bestMany, .int m_bestShelf, .int m_bestSet, .ref mdigits])), (mtape, .inl (cyI, 1000, .inl m_tape)), (msort, .inl (cyI, 1002, .inl (u.2.2.1 0))), (mplace, .inl (cyI, 1002, .inl (u.2.2.1 1))), (mvalue, .inl (cyJ, 1002, .inr (.inl (u.2.2.2 0)))), (mwords, .inl (cyJ, 23, .inr (.inl m_words))), (mtold, .inl (cyI, 240, .inl (u.2.2.1 2))), (mop, .inl (cyI, 2200, .inl (u.2.2.1 3))), (marg, .inl (cyI, 2200, .inl (u.2.2.1 4))), (mnames, .inl (cyJ, 16, .inr (.inl (u.2.2.2 1)))), (mhasHabit, .inl (cyZ, 12, .inl (u.2.2.1 5))), (mfactWords, .inl (cyI, 8, .inl m_factWords)), (mstates, .inl (cyI, 2760, .inl (u.2.2.1 6))), (misMarked, .inl (cyZ, 4, .inl (u.2.2.1 7))), (mmays, .inl (cyZ, 144, .inl m_mays)), (mtall, .inl (cyI, 49152, .inl m_tall))]) args s 0 0) [(mwords, .inl (cyJ, 23, .inr (.inl m_words))), (mtold, .inl (cyI, 240, .inl g11_mtold)), (mop, .inl (cyI, 2200, .inl g7_mop)), (marg, .inl (cyI, 2200, .inl g7_marg)), (mnames, .inl (cyJ, 16, .inr (.inl g7_mnames))), (mhasHabit, .inl (cyZ, 12, .inl g7_mhasHabit)), (mfactWords, .inl (cyI, 8, .inl m_factWords)), (mstates, .inl (cyI, 2760, .inl m_states)), (misMarked, .inl (cyZ, 4, .inl m_isMarked)), (mmays, .inl (cyZ, 144, .inl m_mays)), (mtall, .inl (cyI, 49152, .inl m_tall)), (m0, .inr (11, [.int 0, .ref mtape, .int 0, .int m_taped, .ref msort, .ref mplace, .ref mvalue, .int y7_m0_7, .int y7_m0_8, .ref mwords, .ref mtold, .ref mop, .ref marg, .int y7_m0_13, .ref mnames, .ref mhasHabit, .int m_isNew, .ref mfactWords, .ref mfacts, .ref mpile, .ref mstates, .ref misMarked, .int m_inShelf, .int m_inStack, .int m_inPlace, .ref mrow, .int m_rowMany, .ref mthr, .ref mmays, .ref mtall, .ref mweights, .ref mrowOfWare, .ref mneededOf, .int m_goShelf, .int m_goStack, .int m_goLeft, .ref mtried, .ref mbestRow, .int m_bestCost, .int m_bestMany, .int m_bestShelf, .int m_bestSet, .ref mdigits])), (mtape, .inl (cyI, 1000, .inl m_tape)), (msort, .inl (cyI, 1002, .inl (u_1.2.2.1 0))), (mplace, .inl (cyI, 1002, .inl (u_1.2.2.1 1))), (mvalue, .inl (cyJ, 1002, .inr (.inl (u_1.2.2.2 0))))] 105 [(1, .int x11_1), (0, .ref m0)] [] := by
                        intro k_11
                        induction k_11 with
                        | zero =>
                          intro x11_1 g11_mtold hi_11_0 hi_11_1 hq_11_0 hq_11_1 hm_11
                          exact absurd hm_11 (Nat.not_lt_zero _)
                        | succ k_11 ih_11 =>
                          intro x11_1 g11_mtold hi_11_0 hi_11_1 hq_11_0 hq_11_1 hm_11
                          refine j_iload_n (pc := 105) C dX11_cupboard_105 rfl 0 rfl ?_
                          refine j_bipush (pc := 106) (v := 120) C dX11_cupboard_106 (by decide) ?_
                          refine j_icmp_ge (pc := 108) (tgt := 132) C dX11_cupboard_108 (by decide) (fun c_12 => ?_) (fun c_12 => ?_)
                          · skip
                            have el_120 : (120 : Int32).toInt = 120 := rfl
                            rw [i_le] at c_12
                            have k0c_12 : x11_1.toInt = 120 := by omega
                            refine j_iconst (pc := 132) (v := 0) C dX11_cupboard_132 (by decide) ?_
                            refine j_istore_n (pc := 133) (lv' := [(1, .int 0), (0, .ref m0)]) C dX11_cupboard_133 rfl (by decide) rfl ?_
                            have loop_13 : ∀ (k_13 : Nat) (x13_1 : Int32) (g13_mop : Nat → Int32) (g13_marg : Nat → Int32), (0 ≤ (x13_1).toInt ∧ (x13_1).toInt ≤ 1100) → (∀ j : Nat, 1100 ≤ j → g13_mop j = g7_mop j) → (∀ j : Nat, (j : Int) < x13_1.toInt → g13_mop j = g7_mop (1100 + j)) → (∀ j : Nat, 1100 ≤ j → g13_marg j = g7_marg j) → (∀ j : Nat, (j : Int) < x13_1.toInt → g13_marg j = g7_marg (1100 + j)) → (1100 - x13_1.toInt).toNat < k_13 → J p l e ({ frames := 33, cells := 0, slots := 0, locals := 730 } : Room) s m args below meth c D A 2 0 0 (QX below D (TY cyC cyI cyJ cyZ cyO) A (fun u => some (.int (u.2.1 0))) (fun u => (0 ≤ (u.2.1 1).toInt ∧ (u.2.1 1).toInt ≤ 1000) ∧ (0 ≤ (u.2.1 2).toInt ∧ (u.2.1 2).toInt ≤ 16005) ∧ (0 ≤ (u.2.1 3).toInt ∧ (u.2.1 3).toInt ≤ 1000) ∧ (0 ≤ (u.2.1 4).toInt ∧ (u.2.1 4).toInt ≤ 1) ∧ (Iv 1002 (0) (1000) (u.2.2.1 1)) ∧ (TV (u.2.2.1 2)) ∧ (SV (u.2.2.1 6)) ∧ (WFm (u.2.2.1 2) (u.2.2.1 3) (u.2.2.1 4)) ∧ (SI (u.2.2.1 6) (u.2.2.1 2) (u.2.2.1 7)) ∧ (((u.2.1 4)).toInt = 0 → TALL (u.2.2.1 2) m_mays m_tall) ∧ (((u.2.1 0)).toInt = (cup m_tape (m_taped).toInt.toNat)) ∧ (((u.2.1 0)).toInt = 0 → TDr (u.2.2.1 2) (cupN m_tape (m_taped).toInt.toNat)) ∧ (¬ ((u.2.1 0)).toInt = 0 → Fr 120 m_told (u.2.2.1 2)) ∧ (((u.2.1 0)).toInt = 0 → ME6 (u.2.2.1 2) (u.2.2.1 3) (u.2.2.1 4) (cupE m_tape (m_taped).toInt.toNat)) ∧ (∀ E : (Nat → (Nat → Int32) → Int32), ¬ ((u.2.1 0)).toInt = 0 → ME6 m_told m_op m_arg E → ME6 (u.2.2.1 2) (u.2.2.1 3) (u.2.2.1 4) E) ∧ (¬ ((u.2.1 0)).toInt = 0 ∨ ((u.2.2.1 7) 0).toInt = 0) ∧ (((u.2.1 0)).toInt = 0 ∨ ((u.2.2.1 7) 0).toInt = (m_isMarked 0).toInt) ∧ (¬ ((u.2.1 0)).toInt = 0 ∨ ((u.2.2.1 7) 1).toInt = 0) ∧ (((u.2.1 0)).toInt = 0 ∨ ((u.2.2.1 7) 1).toInt = (m_isMarked 1).toInt) ∧ (¬ ((u.2.1 0)).toInt = 0 ∨ ((u.2.2.1 7) 2).toInt = 0) ∧ (((u.2.1 0)).toInt = 0 ∨ ((u.2.2.1 7) 2).toInt = (m_isMarked 2).toInt) ∧ (¬ ((u.2.1 0)).toInt = 0 ∨ ((u.2.2.1 7) 3).toInt = 0) ∧ (((u.2.1 0)).toInt = 0 ∨ ((u.2.2.1 7) 3).toInt = (m_isMarked 3).toInt) ∧ (IM (((u.2.1 0)).toInt = 0) (∀ j : Nat, j < 460 → (u.2.2.1 6) j = 0)) ∧ (IM (¬ ((u.2.1 0)).toInt = 0) ((u.2.2.1 6) = m_states)) ∧ (((u.2.1 0)).toInt = 0 → ((u.2.2.1 6) 421).toInt = 0) ∧ (¬ ((u.2.1 0)).toInt = 0 → (u.2.2.1 6) 421 = m_states 421) ∧ (∀ j : Nat, 460 ≤ j → (u.2.2.1 6) j = m_states j)) (fun u => [(m0, .inr (11, [.int 0, .ref mtape, .int 0, .int m_taped, .ref msort, .ref mplace, .ref mvalue, .int (u.2.1 1), .int (u.2.1 2), .ref mwords, .ref mtold, .ref mop, .ref marg, .int (u.2.1 3), .ref mnames, .ref mhasHabit, .int (u.2.1 4), .ref mfactWords, .ref mfacts, .ref mpile, .ref mstates, .ref misMarked, .int m_inShelf, .int m_inStack, .int m_inPlace, .ref mrow, .int m_rowMany, .ref mthr, .ref mmays, .ref mtall, .ref mweights, .ref mrowOfWare, .ref mneededOf, .int m_goShelf, .int m_goStack, .int m_goLeft, .ref mtried, .ref mbestRow, .int m_bestCost, .int m_bestMany, .int m_bestShelf, .int m_bestSet, .ref mdigits])), (mtape, .inl (cyI, 1000, .inl m_tape)), (msort, .inl (cyI, 1002, .inl (u.2.2.1 0))), (mplace, .inl (cyI, 1002, .inl (u.2.2.1 1))), (mvalue, .inl (cyJ, 1002, .inr (.inl (u.2.2.2 0)))), (mwords, .inl (cyJ, 23, .inr (.inl m_words))), (mtold, .inl (cyI, 240, .inl (u.2.2.1 2))), (mop, .inl (cyI, 2200, .inl (u.2.2.1 3))), (marg, .inl (cyI, 2200, .inl (u.2.2.1 4))), (mnames, .inl (cyJ, 16, .inr (.inl (u.2.2.2 1)))), (mhasHabit, .inl (cyZ, 12, .inl (u.2.2.1 5))), (mfactWords, .inl (cyI, 8, .inl m_factWords)), (mstates, .inl (cyI, 2760, .inl (u.2.2.1 6))), (misMarked, .inl (cyZ, 4, .inl (u.2.2.1 7))), (mmays, .inl (cyZ, 144, .inl m_mays)), (mtall, .inl (cyI, 49152, .inl m_tall))]) args s 0 0) [(mwords, .inl (cyJ, 23, .inr (.inl m_words))), (mtold, .inl (cyI, 240, .inl g11_mtold)), (mop, .inl (cyI, 2200, .inl g13_mop)), (marg, .inl (cyI, 2200, .inl g13_marg)), (mnames, .inl (cyJ, 16, .inr (.inl g7_mnames))), (mhasHabit, .inl (cyZ, 12, .inl g7_mhasHabit)), (mfactWords, .inl (cyI, 8, .inl m_factWords)), (mstates, .inl (cyI, 2760, .inl m_states)), (misMarked, .inl (cyZ, 4, .inl m_isMarked)), (mmays, .inl (cyZ, 144, .inl m_mays)), (mtall, .inl (cyI, 49152, .inl m_tall)), (m0, .inr (11, [.int 0, .ref mtape, .int 0, .int m_taped, .ref msort, .ref mplace, .ref mvalue, .int y7_m0_7, .int y7_m0_8, .ref mwords, .ref mtold, .ref mop, .ref marg, .int y7_m0_13, .ref mnames, .ref mhasHabit, .int m_isNew, .ref mfactWords, .ref mfacts, .ref mpile, .ref mstates, .ref misMarked, .int m_inShelf, .int m_inStack, .int m_inPlace, .ref mrow, .int m_rowMany, .ref mthr, .ref mmays, .ref mtall, .ref mweights, .ref mrowOfWare, .ref mneededOf, .int m_goShelf, .int m_goStack, .int m_goLeft, .ref mtried, .ref mbestRow, .int m_bestCost, .int m_bestMany, .int m_bestShelf, .int m_bestSet, .ref mdigits])), (mtape, .inl (cyI, 1000, .inl m_tape)), (msort, .inl (cyI, 1002, .inl (u_1.2.2.1 0))), (mplace, .inl (cyI, 1002, .inl (u_1.2.2.1 1))), (mvalue, .inl (cyJ, 1002, .inr (.inl (u_1.2.2.2 0))))] 134 [(1, .int x13_1), (0, .ref m0)] [] := by
                              intro k_13
                              induction k_13 with
                              | zero =>
                                intro x13_1 g13_mop g13_marg hi_13_0 hq_13_0 hq_13_1 hq_13_2 hq_13_3 hm_13
                                exact absurd hm_13 (Nat.not_lt_zero _)
                              | succ k_13 ih_13 =>
                                intro x13_1 g13_mop g13_marg hi_13_0 hq_13_0 hq_13_1 hq_13_2 hq_13_3 hm_13
                                refine j_iload_n (pc := 134) C dX11_cupboard_134 rfl 0 rfl ?_
                                refine j_sipush (pc := 135) (v := 1100) C dX11_cupboard_135 (by decide) ?_
                                refine j_icmp_ge (pc := 138) (tgt := 179) C dX11_cupboard_138 (by decide) (fun c_14 => ?_) (fun c_14 => ?_)
                                · skip
                                  have el_1100 : (1100 : Int32).toInt = 1100 := rfl
                                  rw [i_le] at c_14
                                  have k0c_14 : x13_1.toInt = 1100 := by omega
                                  refine j_iconst (pc := 179) (v := 0) C dX11_cupboard_179 (by decide) ?_
                                  refine j_istore_n (pc := 180) (lv' := [(1, .int 0), (0, .ref m0)]) C dX11_cupboard_180 rfl (by decide) rfl ?_
                                  have loop_15 : ∀ (k_15 : Nat) (x15_1 : Int32) (g15_mstates : Nat → Int32), (0 ≤ (x15_1).toInt ∧ (x15_1).toInt ≤ 460) → (SV g15_mstates) → (∀ j : Nat, 460 ≤ j → g15_mstates j = m_states j) → (∀ j : Nat, (j : Int) < x15_1.toInt → g15_mstates j = 0) → (460 - x15_1.toInt).toNat < k_15 → J p l e ({ frames := 33, cells := 0, slots := 0, locals := 730 } : Room) s m args below meth c D A 2 0 0 (QX below D (TY cyC cyI cyJ cyZ cyO) A (fun u => some (.int (u.2.1 0))) (fun u => (0 ≤ (u.2.1 1).toInt ∧ (u.2.1 1).toInt ≤ 1000) ∧ (0 ≤ (u.2.1 2).toInt ∧ (u.2.1 2).toInt ≤ 16005) ∧ (0 ≤ (u.2.1 3).toInt ∧ (u.2.1 3).toInt ≤ 1000) ∧ (0 ≤ (u.2.1 4).toInt ∧ (u.2.1 4).toInt ≤ 1) ∧ (Iv 1002 (0) (1000) (u.2.2.1 1)) ∧ (TV (u.2.2.1 2)) ∧ (SV (u.2.2.1 6)) ∧ (WFm (u.2.2.1 2) (u.2.2.1 3) (u.2.2.1 4)) ∧ (SI (u.2.2.1 6) (u.2.2.1 2) (u.2.2.1 7)) ∧ (((u.2.1 4)).toInt = 0 → TALL (u.2.2.1 2) m_mays m_tall) ∧ (((u.2.1 0)).toInt = (cup m_tape (m_taped).toInt.toNat)) ∧ (((u.2.1 0)).toInt = 0 → TDr (u.2.2.1 2) (cupN m_tape (m_taped).toInt.toNat)) ∧ (¬ ((u.2.1 0)).toInt = 0 → Fr 120 m_told (u.2.2.1 2)) ∧ (((u.2.1 0)).toInt = 0 → ME6 (u.2.2.1 2) (u.2.2.1 3) (u.2.2.1 4) (cupE m_tape (m_taped).toInt.toNat)) ∧ (∀ E : (Nat → (Nat → Int32) → Int32), ¬ ((u.2.1 0)).toInt = 0 → ME6 m_told m_op m_arg E → ME6 (u.2.2.1 2) (u.2.2.1 3) (u.2.2.1 4) E) ∧ (¬ ((u.2.1 0)).toInt = 0 ∨ ((u.2.2.1 7) 0).toInt = 0) ∧ (((u.2.1 0)).toInt = 0 ∨ ((u.2.2.1 7) 0).toInt = (m_isMarked 0).toInt) ∧ (¬ ((u.2.1 0)).toInt = 0 ∨ ((u.2.2.1 7) 1).toInt = 0) ∧ (((u.2.1 0)).toInt = 0 ∨ ((u.2.2.1 7) 1).toInt = (m_isMarked 1).toInt) ∧ (¬ ((u.2.1 0)).toInt = 0 ∨ ((u.2.2.1 7) 2).toInt = 0) ∧ (((u.2.1 0)).toInt = 0 ∨ ((u.2.2.1 7) 2).toInt = (m_isMarked 2).toInt) ∧ (¬ ((u.2.1 0)).toInt = 0 ∨ ((u.2.2.1 7) 3).toInt = 0) ∧ (((u.2.1 0)).toInt = 0 ∨ ((u.2.2.1 7) 3).toInt = (m_isMarked 3).toInt) ∧ (IM (((u.2.1 0)).toInt = 0) (∀ j : Nat, j < 460 → (u.2.2.1 6) j = 0)) ∧ (IM (¬ ((u.2.1 0)).toInt = 0) ((u.2.2.1 6) = m_states)) ∧ (((u.2.1 0)).toInt = 0 → ((u.2.2.1 6) 421).toInt = 0) ∧ (¬ ((u.2.1 0)).toInt = 0 → (u.2.2.1 6) 421 = m_states 421) ∧ (∀ j : Nat, 460 ≤ j → (u.2.2.1 6) j = m_states j)) (fun u => [(m0, .inr (11, [.int 0, .ref mtape, .int 0, .int m_taped, .ref msort, .ref mplace, .ref mvalue, .int (u.2.1 1), .int (u.2.1 2), .ref mwords, .ref mtold, .ref mop, .ref marg, .int (u.2.1 3), .ref mnames, .ref mhasHabit, .int (u.2.1 4), .ref mfactWords, .ref mfacts, .ref mpile, .ref mstates, .ref misMarked, .int m_inShelf, .int m_inStack, .int m_inPlace, .ref mrow, .int m_rowMany, .ref mthr, .ref mmays, .ref mtall, .ref mweights, .ref mrowOfWare, .ref mneededOf, .int m_goShelf, .int m_goStack, .int m_goLeft, .ref mtried, .ref mbestRow, .int m_bestCost, .int m_bestMany, .int m_bestShelf, .int m_bestSet, .ref mdigits])), (mtape, .inl (cyI, 1000, .inl m_tape)), (msort, .inl (cyI, 1002, .inl (u.2.2.1 0))), (mplace, .inl (cyI, 1002, .inl (u.2.2.1 1))), (mvalue, .inl (cyJ, 1002, .inr (.inl (u.2.2.2 0)))), (mwords, .inl (cyJ, 23, .inr (.inl m_words))), (mtold, .inl (cyI, 240, .inl (u.2.2.1 2))), (mop, .inl (cyI, 2200, .inl (u.2.2.1 3))), (marg, .inl (cyI, 2200, .inl (u.2.2.1 4))), (mnames, .inl (cyJ, 16, .inr (.inl (u.2.2.2 1)))), (mhasHabit, .inl (cyZ, 12, .inl (u.2.2.1 5))), (mfactWords, .inl (cyI, 8, .inl m_factWords)), (mstates, .inl (cyI, 2760, .inl (u.2.2.1 6))), (misMarked, .inl (cyZ, 4, .inl (u.2.2.1 7))), (mmays, .inl (cyZ, 144, .inl m_mays)), (mtall, .inl (cyI, 49152, .inl m_tall))]) args s 0 0) [(mwords, .inl (cyJ, 23, .inr (.inl m_words))), (mtold, .inl (cyI, 240, .inl g11_mtold)), (mop, .inl (cyI, 2200, .inl g13_mop)), (marg, .inl (cyI, 2200, .inl g13_marg)), (mnames, .inl (cyJ, 16, .inr (.inl g7_mnames))), (mhasHabit, .inl (cyZ, 12, .inl g7_mhasHabit)), (mfactWords, .inl (cyI, 8, .inl m_factWords)), (mstates, .inl (cyI, 2760, .inl g15_mstates)), (misMarked, .inl (cyZ, 4, .inl m_isMarked)), (mmays, .inl (cyZ, 144, .inl m_mays)), (mtall, .inl (cyI, 49152, .inl m_tall)), (m0, .inr (11, [.int 0, .ref mtape, .int 0, .int m_taped, .ref msort, .ref mplace, .ref mvalue, .int y7_m0_7, .int y7_m0_8, .ref mwords, .ref mtold, .ref mop, .ref marg, .int y7_m0_13, .ref mnames, .ref mhasHabit, .int m_isNew, .ref mfactWords, .ref mfacts, .ref mpile, .ref mstates, .ref misMarked, .int m_inShelf, .int m_inStack, .int m_inPlace, .ref mrow, .int m_rowMany, .ref mthr, .ref mmays, .ref mtall, .ref mweights, .ref mrowOfWare, .ref mneededOf, .int m_goShelf, .int m_goStack, .int m_goLeft, .ref mtried, .ref mbestRow, .int m_bestCost, .int m_bestMany, .int m_bestShelf, .int m_bestSet, .ref mdigits])), (mtape, .inl (cyI, 1000, .inl m_tape)), (msort, .inl (cyI, 1002, .inl (u_1.2.2.1 0))), (mplace, .inl (cyI, 1002, .inl (u_1.2.2.1 1))), (mvalue, .inl (cyJ, 1002, .inr (.inl (u_1.2.2.2 0))))] 181 [(1, .int x15_1), (0, .ref m0)] [] := by
                                    intro k_15
                                    induction k_15 with
                                    | zero =>
                                      intro x15_1 g15_mstates hi_15_0 hi_15_1 hq_15_0 hq_15_1 hm_15
                                      exact absurd hm_15 (Nat.not_lt_zero _)
                                    | succ k_15 ih_15 =>
                                      intro x15_1 g15_mstates hi_15_0 hi_15_1 hq_15_0 hq_15_1 hm_15
                                      refine j_iload_n (pc := 181) C dX11_cupboard_181 rfl 0 rfl ?_
                                      refine j_sipush (pc := 182) (v := 460) C dX11_cupboard_182 (by decide) ?_
                                      refine j_icmp_ge (pc := 185) (tgt := 201) C dX11_cupboard_185 (by decide) (fun c_16 => ?_) (fun c_16 => ?_)
                                      · skip
                                        have el_460 : (460 : Int32).toInt = 460 := rfl
                                        rw [i_le] at c_16
                                        have k0c_16 : x15_1.toInt = 460 := by omega
                                        refine j_iconst (pc := 201) (v := 0) C dX11_cupboard_201 (by decide) ?_
                                        refine j_istore_n (pc := 202) (lv' := [(1, .int 0), (0, .ref m0)]) C dX11_cupboard_202 rfl (by decide) rfl ?_
                                        have loop_17 : ∀ (k_17 : Nat) (x17_1 : Int32) (g17_misMarked : Nat → Int32), (0 ≤ (x17_1).toInt ∧ (x17_1).toInt ≤ 4) → (∀ j : Nat, (j : Int) < x17_1.toInt → (g17_misMarked j).toInt = 0) → (4 - x17_1.toInt).toNat < k_17 → J p l e ({ frames := 33, cells := 0, slots := 0, locals := 730 } : Room) s m args below meth c D A 2 0 0 (QX below D (TY cyC cyI cyJ cyZ cyO) A (fun u => some (.int (u.2.1 0))) (fun u => (0 ≤ (u.2.1 1).toInt ∧ (u.2.1 1).toInt ≤ 1000) ∧ (0 ≤ (u.2.1 2).toInt ∧ (u.2.1 2).toInt ≤ 16005) ∧ (0 ≤ (u.2.1 3).toInt ∧ (u.2.1 3).toInt ≤ 1000) ∧ (0 ≤ (u.2.1 4).toInt ∧ (u.2.1 4).toInt ≤ 1) ∧ (Iv 1002 (0) (1000) (u.2.2.1 1)) ∧ (TV (u.2.2.1 2)) ∧ (SV (u.2.2.1 6)) ∧ (WFm (u.2.2.1 2) (u.2.2.1 3) (u.2.2.1 4)) ∧ (SI (u.2.2.1 6) (u.2.2.1 2) (u.2.2.1 7)) ∧ (((u.2.1 4)).toInt = 0 → TALL (u.2.2.1 2) m_mays m_tall) ∧ (((u.2.1 0)).toInt = (cup m_tape (m_taped).toInt.toNat)) ∧ (((u.2.1 0)).toInt = 0 → TDr (u.2.2.1 2) (cupN m_tape (m_taped).toInt.toNat)) ∧ (¬ ((u.2.1 0)).toInt = 0 → Fr 120 m_told (u.2.2.1 2)) ∧ (((u.2.1 0)).toInt = 0 → ME6 (u.2.2.1 2) (u.2.2.1 3) (u.2.2.1 4) (cupE m_tape (m_taped).toInt.toNat)) ∧ (∀ E : (Nat → (Nat → Int32) → Int32), ¬ ((u.2.1 0)).toInt = 0 → ME6 m_told m_op m_arg E → ME6 (u.2.2.1 2) (u.2.2.1 3) (u.2.2.1 4) E) ∧ (¬ ((u.2.1 0)).toInt = 0 ∨ ((u.2.2.1 7) 0).toInt = 0) ∧ (((u.2.1 0)).toInt = 0 ∨ ((u.2.2.1 7) 0).toInt = (m_isMarked 0).toInt) ∧ (¬ ((u.2.1 0)).toInt = 0 ∨ ((u.2.2.1 7) 1).toInt = 0) ∧ (((u.2.1 0)).toInt = 0 ∨ ((u.2.2.1 7) 1).toInt = (m_isMarked 1).toInt) ∧ (¬ ((u.2.1 0)).toInt = 0 ∨ ((u.2.2.1 7) 2).toInt = 0) ∧ (((u.2.1 0)).toInt = 0 ∨ ((u.2.2.1 7) 2).toInt = (m_isMarked 2).toInt) ∧ (¬ ((u.2.1 0)).toInt = 0 ∨ ((u.2.2.1 7) 3).toInt = 0) ∧ (((u.2.1 0)).toInt = 0 ∨ ((u.2.2.1 7) 3).toInt = (m_isMarked 3).toInt) ∧ (IM (((u.2.1 0)).toInt = 0) (∀ j : Nat, j < 460 → (u.2.2.1 6) j = 0)) ∧ (IM (¬ ((u.2.1 0)).toInt = 0) ((u.2.2.1 6) = m_states)) ∧ (((u.2.1 0)).toInt = 0 → ((u.2.2.1 6) 421).toInt = 0) ∧ (¬ ((u.2.1 0)).toInt = 0 → (u.2.2.1 6) 421 = m_states 421) ∧ (∀ j : Nat, 460 ≤ j → (u.2.2.1 6) j = m_states j)) (fun u => [(m0, .inr (11, [.int 0, .ref mtape, .int 0, .int m_taped, .ref msort, .ref mplace, .ref mvalue, .int (u.2.1 1), .int (u.2.1 2), .ref mwords, .ref mtold, .ref mop, .ref marg, .int (u.2.1 3), .ref mnames, .ref mhasHabit, .int (u.2.1 4), .ref mfactWords, .ref mfacts, .ref mpile, .ref mstates, .ref misMarked, .int m_inShelf, .int m_inStack, .int m_inPlace, .ref mrow, .int m_rowMany, .ref mthr, .ref mmays, .ref mtall, .ref mweights, .ref mrowOfWare, .ref mneededOf, .int m_goShelf, .int m_goStack, .int m_goLeft, .ref mtried, .ref mbestRow, .int m_bestCost, .int m_bestMany, .int m_bestShelf, .int m_bestSet, .ref mdigits])), (mtape, .inl (cyI, 1000, .inl m_tape)), (msort, .inl (cyI, 1002, .inl (u.2.2.1 0))), (mplace, .inl (cyI, 1002, .inl (u.2.2.1 1))), (mvalue, .inl (cyJ, 1002, .inr (.inl (u.2.2.2 0)))), (mwords, .inl (cyJ, 23, .inr (.inl m_words))), (mtold, .inl (cyI, 240, .inl (u.2.2.1 2))), (mop, .inl (cyI, 2200, .inl (u.2.2.1 3))), (marg, .inl (cyI, 2200, .inl (u.2.2.1 4))), (mnames, .inl (cyJ, 16, .inr (.inl (u.2.2.2 1)))), (mhasHabit, .inl (cyZ, 12, .inl (u.2.2.1 5))), (mfactWords, .inl (cyI, 8, .inl m_factWords)), (mstates, .inl (cyI, 2760, .inl (u.2.2.1 6))), (misMarked, .inl (cyZ, 4, .inl (u.2.2.1 7))), (mmays, .inl (cyZ, 144, .inl m_mays)), (mtall, .inl (cyI, 49152, .inl m_tall))]) args s 0 0) [(mwords, .inl (cyJ, 23, .inr (.inl m_words))), (mtold, .inl (cyI, 240, .inl g11_mtold)), (mop, .inl (cyI, 2200, .inl g13_mop)), (marg, .inl (cyI, 2200, .inl g13_marg)), (mnames, .inl (cyJ, 16, .inr (.inl g7_mnames))), (mhasHabit, .inl (cyZ, 12, .inl g7_mhasHabit)), (mfactWords, .inl (cyI, 8, .inl m_factWords)), (mstates, .inl (cyI, 2760, .inl g15_mstates)), (misMarked, .inl (cyZ, 4, .inl g17_misMarked)), (mmays, .inl (cyZ, 144, .inl m_mays)), (mtall, .inl (cyI, 49152, .inl m_tall)), (m0, .inr (11, [.int 0, .ref mtape, .int 0, .int m_taped, .ref msort, .ref mplace, .ref mvalue, .int y7_m0_7, .int y7_m0_8, .ref mwords, .ref mtold, .ref mop, .ref marg, .int y7_m0_13, .ref mnames, .ref mhasHabit, .int m_isNew, .ref mfactWords, .ref mfacts, .ref mpile, .ref mstates, .ref misMarked, .int m_inShelf, .int m_inStack, .int m_inPlace, .ref mrow, .int m_rowMany, .ref mthr, .ref mmays, .ref mtall, .ref mweights, .ref mrowOfWare, .ref mneededOf, .int m_goShelf, .int m_goStack, .int m_goLeft, .ref mtried, .ref mbestRow, .int m_bestCost, .int m_bestMany, .int m_bestShelf, .int m_bestSet, .ref mdigits])), (mtape, .inl (cyI, 1000, .inl m_tape)), (msort, .inl (cyI, 1002, .inl (u_1.2.2.1 0))), (mplace, .inl (cyI, 1002, .inl (u_1.2.2.1 1))), (mvalue, .inl (cyJ, 1002, .inr (.inl (u_1.2.2.2 0))))] 203 [(1, .int x17_1), (0, .ref m0)] [] := by
                                          intro k_17
                                          induction k_17 with
                                          | zero =>
                                            intro x17_1 g17_misMarked hi_17_0 hq_17_0 hm_17
                                            exact absurd hm_17 (Nat.not_lt_zero _)
                                          | succ k_17 ih_17 =>
                                            intro x17_1 g17_misMarked hi_17_0 hq_17_0 hm_17
                                            refine j_iload_n (pc := 203) C dX11_cupboard_203 rfl 0 rfl ?_
                                            refine j_iconst (pc := 204) (v := 4) C dX11_cupboard_204 (by decide) ?_
                                            refine j_icmp_ge (pc := 205) (tgt := 221) C dX11_cupboard_205 (by decide) (fun c_18 => ?_) (fun c_18 => ?_)
                                            · skip
                                              have el_4 : (4 : Int32).toInt = 4 := rfl
                                              rw [i_le] at c_18
                                              have k0c_18 : x17_1.toInt = 4 := by omega
                                              refine j_aload_n (pc := 221) C dX11_cupboard_221 rfl 1 rfl ?_
                                              refine j_iconst (pc := 222) (v := 1) C dX11_cupboard_222 (by decide) ?_
                                              refine j_put (pc := 223) (ci := 11) (v := .int 1) (ws' := [(mwords, .inl (cyJ, 23, .inr (.inl m_words))), (mtold, .inl (cyI, 240, .inl g11_mtold)), (mop, .inl (cyI, 2200, .inl g13_mop)), (marg, .inl (cyI, 2200, .inl g13_marg)), (mnames, .inl (cyJ, 16, .inr (.inl g7_mnames))), (mhasHabit, .inl (cyZ, 12, .inl g7_mhasHabit)), (mfactWords, .inl (cyI, 8, .inl m_factWords)), (mstates, .inl (cyI, 2760, .inl g15_mstates)), (misMarked, .inl (cyZ, 4, .inl g17_misMarked)), (mmays, .inl (cyZ, 144, .inl m_mays)), (mtall, .inl (cyI, 49152, .inl m_tall)), (m0, .inr (11, [.int 0, .ref mtape, .int 0, .int m_taped, .ref msort, .ref mplace, .ref mvalue, .int y7_m0_7, .int y7_m0_8, .ref mwords, .ref mtold, .ref mop, .ref marg, .int y7_m0_13, .ref mnames, .ref mhasHabit, .int 1, .ref mfactWords, .ref mfacts, .ref mpile, .ref mstates, .ref misMarked, .int m_inShelf, .int m_inStack, .int m_inPlace, .ref mrow, .int m_rowMany, .ref mthr, .ref mmays, .ref mtall, .ref mweights, .ref mrowOfWare, .ref mneededOf, .int m_goShelf, .int m_goStack, .int m_goLeft, .ref mtried, .ref mbestRow, .int m_bestCost, .int m_bestMany, .int m_bestShelf, .int m_bestSet, .ref mdigits])), (mtape, .inl (cyI, 1000, .inl m_tape)), (msort, .inl (cyI, 1002, .inl (u_1.2.2.1 0))), (mplace, .inl (cyI, 1002, .inl (u_1.2.2.1 1))), (mvalue, .inl (cyJ, 1002, .inr (.inl (u_1.2.2.2 0))))]) C inw_11 11 rfl rfl 16 (by decide) wd_906 rfl tyX11_ok nmX11 rfl (tyX11_ok 16 (by decide)) rfl rfl (Nat.le_of_ble_eq_true rfl) dX11_cupboard_223 rfl ?_
                                              refine j_iconst (pc := 226) (v := 0) C dX11_cupboard_226 (by decide) ?_
                                              have el_1 : (1 : Int32).toInt = 1 := rfl
                                              have el_0 : (0 : Int32).toInt = 0 := rfl
                                              have el_1 : (1 : Int32).toInt = 1 := rfl
                                              have el_0 : (0 : Int32).toInt = 0 := rfl
                                              have el_1 : (1 : Int32).toInt = 1 := rfl
                                              have el_0 : (0 : Int32).toInt = 0 := rfl
                                              have el_1 : (1 : Int32).toInt = 1 := rfl
                                              have el_0 : (0 : Int32).toInt = 0 := rfl
                                              have el_1 : (1 : Int32).toInt = 1 := rfl
                                              have el_0 : (0 : Int32).toInt = 0 := rfl
                                              have el_1 : (1 : Int32).toInt = 1 := rfl
                                              have el_0 : (0 : Int32).toInt = 0 := rfl
                                              have el_1 : (1 : Int32).toInt = 1 := rfl
                                              have el_0 : (0 : Int32).toInt = 0 := rfl
                                              have el_1 : (1 : Int32).toInt = 1 := rfl
                                              have el_0 : (0 : Int32).toInt = 0 := rfl
                                              have el_1 : (1 : Int32).toInt = 1 := rfl
                                              have el_0 : (0 : Int32).toInt = 0 := rfl
                                              have el_1 : (1 : Int32).toInt = 1 := rfl
                                              have el_0 : (0 : Int32).toInt = 0 := rfl
                                              have el_1 : (1 : Int32).toInt = 1 := rfl
                                              have el_0 : (0 : Int32).toInt = 0 := rfl
                                              have el_1 : (1 : Int32).toInt = 1 := rfl
                                              have el_0 : (0 : Int32).toInt = 0 := rfl
                                              have el_1 : (1 : Int32).toInt = 1 := rfl
                                              have el_0 : (0 : Int32).toInt = 0 := rfl
                                              have el_1 : (1 : Int32).toInt = 1 := rfl
                                              have el_0 : (0 : Int32).toInt = 0 := rfl
                                              have el_1 : (1 : Int32).toInt = 1 := rfl
                                              have el_0 : (0 : Int32).toInt = 0 := rfl
                                              have el_1 : (1 : Int32).toInt = 1 := rfl
                                              have el_0 : (0 : Int32).toInt = 0 := rfl
                                              have el_1 : (1 : Int32).toInt = 1 := rfl
                                              have el_0 : (0 : Int32).toInt = 0 := rfl
                                              have el_1 : (1 : Int32).toInt = 1 := rfl
                                              have el_0 : (0 : Int32).toInt = 0 := rfl
                                              have el_1 : (1 : Int32).toInt = 1 := rfl
                                              have el_0 : (0 : Int32).toInt = 0 := rfl
                                              have el_1 : (1 : Int32).toInt = 1 := rfl
                                              have el_0 : (0 : Int32).toInt = 0 := rfl
                                              have el_1 : (1 : Int32).toInt = 1 := rfl
                                              have el_0 : (0 : Int32).toInt = 0 := rfl
                                              have el_1 : (1 : Int32).toInt = 1 := rfl
                                              exact j_iret (pc := 227) C hr hk (fun i => [].getD i 0, fun i => [0, y7_m0_7, y7_m0_8, y7_m0_13, 1].getD i 0, fun i => [(u_1.2.2.1 0), (u_1.2.2.1 1), g11_mtold, g13_mop, g13_marg, g7_mhasHabit, g15_mstates, g17_misMarked].getD i (fun _ => 0), fun i => [(u_1.2.2.2 0), g7_mnames].getD i (fun _ => 0)) rfl (show (0 ≤ (y7_m0_7).toInt ∧ (y7_m0_7).toInt ≤ 1000) ∧ (0 ≤ (y7_m0_8).toInt ∧ (y7_m0_8).toInt ≤ 16005) ∧ (0 ≤ (y7_m0_13).toInt ∧ (y7_m0_13).toInt ≤ 1000) ∧ (0 ≤ ((1 : Int32)).toInt ∧ ((1 : Int32)).toInt ≤ 1) ∧ (Iv 1002 (0) (1000) (u_1.2.2.1 1)) ∧ (TV g11_mtold) ∧ (SV g15_mstates) ∧ (WFm g11_mtold g13_mop g13_marg) ∧ (SI g15_mstates g11_mtold g17_misMarked) ∧ (((1 : Int32)).toInt = 0 → TALL g11_mtold m_mays m_tall) ∧ (((0 : Int32)).toInt = (cup m_tape (m_taped).toInt.toNat)) ∧ (((0 : Int32)).toInt = 0 → TDr g11_mtold (cupN m_tape (m_taped).toInt.toNat)) ∧ (¬ ((0 : Int32)).toInt = 0 → Fr 120 m_told g11_mtold) ∧ (((0 : Int32)).toInt = 0 → ME6 g11_mtold g13_mop g13_marg (cupE m_tape (m_taped).toInt.toNat)) ∧ (∀ E : (Nat → (Nat → Int32) → Int32), ¬ ((0 : Int32)).toInt = 0 → ME6 m_told m_op m_arg E → ME6 g11_mtold g13_mop g13_marg E) ∧ (¬ ((0 : Int32)).toInt = 0 ∨ (g17_misMarked 0).toInt = 0) ∧ (((0 : Int32)).toInt = 0 ∨ (g17_misMarked 0).toInt = (m_isMarked 0).toInt) ∧ (¬ ((0 : Int32)).toInt = 0 ∨ (g17_misMarked 1).toInt = 0) ∧ (((0 : Int32)).toInt = 0 ∨ (g17_misMarked 1).toInt = (m_isMarked 1).toInt) ∧ (¬ ((0 : Int32)).toInt = 0 ∨ (g17_misMarked 2).toInt = 0) ∧ (((0 : Int32)).toInt = 0 ∨ (g17_misMarked 2).toInt = (m_isMarked 2).toInt) ∧ (¬ ((0 : Int32)).toInt = 0 ∨ (g17_misMarked 3).toInt = 0) ∧ (((0 : Int32)).toInt = 0 ∨ (g17_misMarked 3).toInt = (m_isMarked 3).toInt) ∧ (IM (((0 : Int32)).toInt = 0) (∀ j : Nat, j < 460 → g15_mstates j = 0)) ∧ (IM (¬ ((0 : Int32)).toInt = 0) (g15_mstates = m_states)) ∧ (((0 : Int32)).toInt = 0 → (g15_mstates 421).toInt = 0) ∧ (¬ ((0 : Int32)).toInt = 0 → g15_mstates 421 = m_states 421) ∧ (∀ j : Nat, 460 ≤ j → g15_mstates j = m_states j) from ⟨hi_7_5, hi_7_6, hi_7_7, by omega, hw_2_0, hi_11_1, hi_15_1, (WFm.of (hq_7_3 (by omega)) (by omega) (fun j hj => hq_11_1 j (by omega)) (fun j hj => hq_13_1 j (by omega)) (fun j hj => hq_13_3 j (by omega)) (hi_7_0 122 (by decide)).2 (fun k hk => (hi_7_0 (231 + k) (by omega)).1)), (SI.new hSI (fun j hj => hq_15_1 j (by omega)) hq_15_0 (fun m hm => hq_17_0 m (by omega)) hi_11_1), (fun h => absurd h (by decide)), (by omega), (fun hz => ⟨_, _, _, (hF8.2 (by omega)).1, (hF8.2 (by omega)).2.1, fun j hj => hq_11_1 j (by omega)⟩), (fun hz => by exfalso; omega), (fun hz => ME6.of (hF8.2 (by omega)).2.2 (by omega) (hi_7_0 122 (by decide)).2 (fun k hk => (hi_7_0 (231 + k) (by omega)).1) (fun j hj => hq_11_1 j (by omega)) (fun j hj => hq_13_1 j (by omega)) (fun j hj => hq_13_3 j (by omega))), (fun E hz => by exfalso; omega), (Or.inr (hq_17_0 0 (by omega))), (Or.inl (by omega)), (Or.inr (hq_17_0 1 (by omega))), (Or.inl (by omega)), (Or.inr (hq_17_0 2 (by omega))), (Or.inl (by omega)), (Or.inr (hq_17_0 3 (by omega))), (Or.inl (by omega)), (fun hz j hj => hq_15_1 j (by omega)), (fun hz => by exfalso; omega), (fun hz => by rw [hq_15_1 421 (by omega)]; rfl), (fun hz => by exfalso; omega), hq_15_0⟩) [11, 12, 13, 14, 15, 0, 1, 2, 3, 4, 5, 6, 7, 8, 9, 10] (by decide) rfl (by decide) (by decide) dX11_cupboard_227
                                            · skip
                                              have el_4 : (4 : Int32).toInt = 4 := rfl
                                              rw [i_le] at c_18
                                              refine j_aload_n (pc := 208) C dX11_cupboard_208 rfl 1 rfl ?_
                                              refine j_get (pc := 209) (ci := 11) (v := .ref misMarked) C inw_11 11 rfl rfl 21 (by decide) wd_861 rfl rfl dX11_cupboard_209 ?_
                                              refine j_iload_n (pc := 212) C dX11_cupboard_212 rfl 0 rfl ?_
                                              refine j_iconst (pc := 213) (v := 0) C dX11_cupboard_213 (by decide) ?_
                                              obtain ⟨f_19, ef_19⟩ : ∃ z, z = upd g17_misMarked (x17_1).toInt.toNat (vp_nar .boolean 0) := ⟨_, rfl⟩
                                              refine j_zast (pc := 214) (k := (x17_1).toInt.toNat) (ws' := [(mwords, .inl (cyJ, 23, .inr (.inl m_words))), (mtold, .inl (cyI, 240, .inl g11_mtold)), (mop, .inl (cyI, 2200, .inl g13_mop)), (marg, .inl (cyI, 2200, .inl g13_marg)), (mnames, .inl (cyJ, 16, .inr (.inl g7_mnames))), (mhasHabit, .inl (cyZ, 12, .inl g7_mhasHabit)), (mfactWords, .inl (cyI, 8, .inl m_factWords)), (mstates, .inl (cyI, 2760, .inl g15_mstates)), (misMarked, .inl (cyZ, 4, .inl f_19)), (mmays, .inl (cyZ, 144, .inl m_mays)), (mtall, .inl (cyI, 49152, .inl m_tall)), (m0, .inr (11, [.int 0, .ref mtape, .int 0, .int m_taped, .ref msort, .ref mplace, .ref mvalue, .int y7_m0_7, .int y7_m0_8, .ref mwords, .ref mtold, .ref mop, .ref marg, .int y7_m0_13, .ref mnames, .ref mhasHabit, .int m_isNew, .ref mfactWords, .ref mfacts, .ref mpile, .ref mstates, .ref misMarked, .int m_inShelf, .int m_inStack, .int m_inPlace, .ref mrow, .int m_rowMany, .ref mthr, .ref mmays, .ref mtall, .ref mweights, .ref mrowOfWare, .ref mneededOf, .int m_goShelf, .int m_goStack, .int m_goLeft, .ref mtried, .ref mbestRow, .int m_bestCost, .int m_bestMany, .int m_bestShelf, .int m_bestSet, .ref mdigits])), (mtape, .inl (cyI, 1000, .inl m_tape)), (msort, .inl (cyI, 1002, .inl (u_1.2.2.1 0))), (mplace, .inl (cyI, 1002, .inl (u_1.2.2.1 1))), (mvalue, .inl (cyJ, 1002, .inr (.inl (u_1.2.2.2 0))))]) C 8 3 rfl rfl (i_nn hi_17_0.1) rfl (i_lt_n hi_17_0.1 (by omega)) dX11_cupboard_214 (by rw [ef_19]; rfl) ?_
                                              obtain ⟨v_20, ev_20⟩ : ∃ z : Int32, x17_1 + 1 = z := ⟨_, rfl⟩
                                              have el_1 : (1 : Int32).toInt = 1 := rfl
                                              have hv_20 : v_20.toInt = x17_1.toInt + (1 : Int32).toInt := by rw [← ev_20]; exact fb_addI (by omega) (by omega)
                                              refine j_iinc (pc := 215) (v := v_20) (lv' := [(1, .int v_20), (0, .ref m0)]) C dX11_cupboard_215 0 rfl ev_20 (by decide) rfl ?_
                                              refine j_goto (pc := 218) (tgt := 203) C dX11_cupboard_218 (by decide) ?_
                                              exact j_lv [0, 1] rfl (ih_17 v_20 f_19 (by omega) (fun j hj => by rcases Int.lt_or_le (j : Int) (x17_1).toInt with q | q; (rw [ef_19, pk_un (show ¬ j = (x17_1).toInt.toNat from (by omega))]; exact hq_17_0 j q); (rw [ef_19, show j = (x17_1).toInt.toNat from (by omega), pk_us]; try rfl)) (by omega))
                                        have el_0 : (0 : Int32).toInt = 0 := rfl
                                        exact j_lv [0, 1] rfl (loop_17 4096 0 m_isMarked (by decide) (fun j h0 => absurd h0 (by omega)) (by omega))
                                      · skip
                                        have el_460 : (460 : Int32).toInt = 460 := rfl
                                        rw [i_le] at c_16
                                        refine j_aload_n (pc := 188) C dX11_cupboard_188 rfl 1 rfl ?_
                                        refine j_get (pc := 189) (ci := 11) (v := .ref mstates) C inw_11 11 rfl rfl 20 (by decide) wd_764 rfl rfl dX11_cupboard_189 ?_
                                        refine j_iload_n (pc := 192) C dX11_cupboard_192 rfl 0 rfl ?_
                                        refine j_iconst (pc := 193) (v := 0) C dX11_cupboard_193 (by decide) ?_
                                        obtain ⟨f_21, ef_21⟩ : ∃ z, z = upd g15_mstates (x15_1).toInt.toNat 0 := ⟨_, rfl⟩
                                        have el_0 : (0 : Int32).toInt = 0 := rfl
                                        have el_0 : (0 : Int32).toInt = 0 := rfl
                                        have hf_21 : SV f_21 := by rw [ef_21]; exact SV.wr hi_15_1 (Or.inr ⟨by omega, by have h9 := (hiS_0 ((x15_1).toInt.toNat)).1; omega⟩)
                                        refine j_iast (pc := 194) (k := (x15_1).toInt.toNat) (ws' := [(mwords, .inl (cyJ, 23, .inr (.inl m_words))), (mtold, .inl (cyI, 240, .inl g11_mtold)), (mop, .inl (cyI, 2200, .inl g13_mop)), (marg, .inl (cyI, 2200, .inl g13_marg)), (mnames, .inl (cyJ, 16, .inr (.inl g7_mnames))), (mhasHabit, .inl (cyZ, 12, .inl g7_mhasHabit)), (mfactWords, .inl (cyI, 8, .inl m_factWords)), (mstates, .inl (cyI, 2760, .inl f_21)), (misMarked, .inl (cyZ, 4, .inl m_isMarked)), (mmays, .inl (cyZ, 144, .inl m_mays)), (mtall, .inl (cyI, 49152, .inl m_tall)), (m0, .inr (11, [.int 0, .ref mtape, .int 0, .int m_taped, .ref msort, .ref mplace, .ref mvalue, .int y7_m0_7, .int y7_m0_8, .ref mwords, .ref mtold, .ref mop, .ref marg, .int y7_m0_13, .ref mnames, .ref mhasHabit, .int m_isNew, .ref mfactWords, .ref mfacts, .ref mpile, .ref mstates, .ref misMarked, .int m_inShelf, .int m_inStack, .int m_inPlace, .ref mrow, .int m_rowMany, .ref mthr, .ref mmays, .ref mtall, .ref mweights, .ref mrowOfWare, .ref mneededOf, .int m_goShelf, .int m_goStack, .int m_goLeft, .ref mtried, .ref mbestRow, .int m_bestCost, .int m_bestMany, .int m_bestShelf, .int m_bestSet, .ref mdigits])), (mtape, .inl (cyI, 1000, .inl m_tape)), (msort, .inl (cyI, 1002, .inl (u_1.2.2.1 0))), (mplace, .inl (cyI, 1002, .inl (u_1.2.2.1 1))), (mvalue, .inl (cyJ, 1002, .inr (.inl (u_1.2.2.2 0))))]) C 7 1 rfl rfl (i_nn hi_15_0.1) rfl (i_lt_n hi_15_0.1 (Int.lt_of_le_of_lt hi_15_0.2 (by decide))) dX11_cupboard_194 (by rw [ef_21]; rfl) ?_
                                        obtain ⟨v_22, ev_22⟩ : ∃ z : Int32, x15_1 + 1 = z := ⟨_, rfl⟩
                                        have el_1 : (1 : Int32).toInt = 1 := rfl
                                        have hv_22 : v_22.toInt = x15_1.toInt + (1 : Int32).toInt := by rw [← ev_22]; exact fb_addI (by omega) (by omega)
                                        refine j_iinc (pc := 195) (v := v_22) (lv' := [(1, .int v_22), (0, .ref m0)]) C dX11_cupboard_195 0 rfl ev_22 (by decide) rfl ?_
                                        refine j_goto (pc := 198) (tgt := 181) C dX11_cupboard_198 (by decide) ?_
                                        exact j_lv [0, 1] rfl (ih_15 v_22 f_21 (by omega) hf_21 (fun j hj => by rw [ef_21, pk_un (show ¬ j = (x15_1).toInt.toNat from (by omega))]; exact hq_15_0 j hj) (fun j hj => by rcases Int.lt_or_le (j : Int) (x15_1).toInt with q | q; (rw [ef_21, pk_un (show ¬ j = (x15_1).toInt.toNat from (by omega))]; exact hq_15_1 j q); (rw [ef_21, show j = (x15_1).toInt.toNat from (by omega), pk_us]; try rfl)) (by omega))
                                  have el_0 : (0 : Int32).toInt = 0 := rfl
                                  exact j_lv [0, 1] rfl (loop_15 4096 0 m_states (by decide) h_m_states (fun j _ => rfl) (fun j h0 => absurd h0 (by omega)) (by omega))
                                · skip
                                  have el_1100 : (1100 : Int32).toInt = 1100 := rfl
                                  rw [i_le] at c_14
                                  refine j_aload_n (pc := 141) C dX11_cupboard_141 rfl 1 rfl ?_
                                  refine j_get (pc := 142) (ci := 11) (v := .ref mop) C inw_11 11 rfl rfl 11 (by decide) wd_696 rfl rfl dX11_cupboard_142 ?_
                                  refine j_iload_n (pc := 145) C dX11_cupboard_145 rfl 0 rfl ?_
                                  refine j_aload_n (pc := 146) C dX11_cupboard_146 rfl 1 rfl ?_
                                  refine j_get (pc := 147) (ci := 11) (v := .ref mop) C inw_11 11 rfl rfl 11 (by decide) wd_696 rfl rfl dX11_cupboard_147 ?_
                                  refine j_sipush (pc := 150) (v := 1100) C dX11_cupboard_150 (by decide) ?_
                                  refine j_iload_n (pc := 153) C dX11_cupboard_153 rfl 0 rfl ?_
                                  obtain ⟨v_23, ev_23⟩ : ∃ z : Int32, 1100 + x13_1 = z := ⟨_, rfl⟩
                                  have el_1100 : (1100 : Int32).toInt = 1100 := rfl
                                  have hv_23 : v_23.toInt = (1100 : Int32).toInt + x13_1.toInt := by rw [← ev_23]; exact fb_addI (by omega) (by omega)
                                  refine j_iadd (pc := 154) (v := v_23) C dX11_cupboard_154 ev_23 ?_
                                  obtain ⟨v_24, ev_24⟩ : ∃ z, g13_mop (v_23).toInt.toNat = z := ⟨_, rfl⟩
                                  have env_24 : (g13_mop (v_23).toInt.toNat).toInt = v_24.toInt := by rw [ev_24]
                                  refine j_iald (pc := 155) (v := v_24) (k := (v_23).toInt.toNat) C 2 1 rfl rfl (i_nn (by omega)) rfl (i_lt_n (by omega) (by omega)) ev_24 dX11_cupboard_155 ?_
                                  obtain ⟨f_25, ef_25⟩ : ∃ z, z = upd g13_mop (x13_1).toInt.toNat v_24 := ⟨_, rfl⟩
                                  refine j_iast (pc := 156) (k := (x13_1).toInt.toNat) (ws' := [(mwords, .inl (cyJ, 23, .inr (.inl m_words))), (mtold, .inl (cyI, 240, .inl g11_mtold)), (mop, .inl (cyI, 2200, .inl f_25)), (marg, .inl (cyI, 2200, .inl g13_marg)), (mnames, .inl (cyJ, 16, .inr (.inl g7_mnames))), (mhasHabit, .inl (cyZ, 12, .inl g7_mhasHabit)), (mfactWords, .inl (cyI, 8, .inl m_factWords)), (mstates, .inl (cyI, 2760, .inl m_states)), (misMarked, .inl (cyZ, 4, .inl m_isMarked)), (mmays, .inl (cyZ, 144, .inl m_mays)), (mtall, .inl (cyI, 49152, .inl m_tall)), (m0, .inr (11, [.int 0, .ref mtape, .int 0, .int m_taped, .ref msort, .ref mplace, .ref mvalue, .int y7_m0_7, .int y7_m0_8, .ref mwords, .ref mtold, .ref mop, .ref marg, .int y7_m0_13, .ref mnames, .ref mhasHabit, .int m_isNew, .ref mfactWords, .ref mfacts, .ref mpile, .ref mstates, .ref misMarked, .int m_inShelf, .int m_inStack, .int m_inPlace, .ref mrow, .int m_rowMany, .ref mthr, .ref mmays, .ref mtall, .ref mweights, .ref mrowOfWare, .ref mneededOf, .int m_goShelf, .int m_goStack, .int m_goLeft, .ref mtried, .ref mbestRow, .int m_bestCost, .int m_bestMany, .int m_bestShelf, .int m_bestSet, .ref mdigits])), (mtape, .inl (cyI, 1000, .inl m_tape)), (msort, .inl (cyI, 1002, .inl (u_1.2.2.1 0))), (mplace, .inl (cyI, 1002, .inl (u_1.2.2.1 1))), (mvalue, .inl (cyJ, 1002, .inr (.inl (u_1.2.2.2 0))))]) C 2 1 rfl rfl (i_nn hi_13_0.1) rfl (i_lt_n hi_13_0.1 (Int.lt_of_le_of_lt hi_13_0.2 (by decide))) dX11_cupboard_156 (by rw [ef_25]; rfl) ?_
                                  refine j_aload_n (pc := 157) C dX11_cupboard_157 rfl 1 rfl ?_
                                  refine j_get (pc := 158) (ci := 11) (v := .ref marg) C inw_11 11 rfl rfl 12 (by decide) wd_698 rfl rfl dX11_cupboard_158 ?_
                                  refine j_iload_n (pc := 161) C dX11_cupboard_161 rfl 0 rfl ?_
                                  refine j_aload_n (pc := 162) C dX11_cupboard_162 rfl 1 rfl ?_
                                  refine j_get (pc := 163) (ci := 11) (v := .ref marg) C inw_11 11 rfl rfl 12 (by decide) wd_698 rfl rfl dX11_cupboard_163 ?_
                                  refine j_sipush (pc := 166) (v := 1100) C dX11_cupboard_166 (by decide) ?_
                                  refine j_iload_n (pc := 169) C dX11_cupboard_169 rfl 0 rfl ?_
                                  obtain ⟨v_26, ev_26⟩ : ∃ z : Int32, 1100 + x13_1 = z := ⟨_, rfl⟩
                                  have el_1100 : (1100 : Int32).toInt = 1100 := rfl
                                  have hv_26 : v_26.toInt = (1100 : Int32).toInt + x13_1.toInt := by rw [← ev_26]; exact fb_addI (by omega) (by omega)
                                  refine j_iadd (pc := 170) (v := v_26) C dX11_cupboard_170 ev_26 ?_
                                  obtain ⟨v_27, ev_27⟩ : ∃ z, g13_marg (v_26).toInt.toNat = z := ⟨_, rfl⟩
                                  have env_27 : (g13_marg (v_26).toInt.toNat).toInt = v_27.toInt := by rw [ev_27]
                                  refine j_iald (pc := 171) (v := v_27) (k := (v_26).toInt.toNat) C 3 1 rfl rfl (i_nn (by omega)) rfl (i_lt_n (by omega) (by omega)) ev_27 dX11_cupboard_171 ?_
                                  obtain ⟨f_28, ef_28⟩ : ∃ z, z = upd g13_marg (x13_1).toInt.toNat v_27 := ⟨_, rfl⟩
                                  refine j_iast (pc := 172) (k := (x13_1).toInt.toNat) (ws' := [(mwords, .inl (cyJ, 23, .inr (.inl m_words))), (mtold, .inl (cyI, 240, .inl g11_mtold)), (mop, .inl (cyI, 2200, .inl f_25)), (marg, .inl (cyI, 2200, .inl f_28)), (mnames, .inl (cyJ, 16, .inr (.inl g7_mnames))), (mhasHabit, .inl (cyZ, 12, .inl g7_mhasHabit)), (mfactWords, .inl (cyI, 8, .inl m_factWords)), (mstates, .inl (cyI, 2760, .inl m_states)), (misMarked, .inl (cyZ, 4, .inl m_isMarked)), (mmays, .inl (cyZ, 144, .inl m_mays)), (mtall, .inl (cyI, 49152, .inl m_tall)), (m0, .inr (11, [.int 0, .ref mtape, .int 0, .int m_taped, .ref msort, .ref mplace, .ref mvalue, .int y7_m0_7, .int y7_m0_8, .ref mwords, .ref mtold, .ref mop, .ref marg, .int y7_m0_13, .ref mnames, .ref mhasHabit, .int m_isNew, .ref mfactWords, .ref mfacts, .ref mpile, .ref mstates, .ref misMarked, .int m_inShelf, .int m_inStack, .int m_inPlace, .ref mrow, .int m_rowMany, .ref mthr, .ref mmays, .ref mtall, .ref mweights, .ref mrowOfWare, .ref mneededOf, .int m_goShelf, .int m_goStack, .int m_goLeft, .ref mtried, .ref mbestRow, .int m_bestCost, .int m_bestMany, .int m_bestShelf, .int m_bestSet, .ref mdigits])), (mtape, .inl (cyI, 1000, .inl m_tape)), (msort, .inl (cyI, 1002, .inl (u_1.2.2.1 0))), (mplace, .inl (cyI, 1002, .inl (u_1.2.2.1 1))), (mvalue, .inl (cyJ, 1002, .inr (.inl (u_1.2.2.2 0))))]) C 3 1 rfl rfl (i_nn hi_13_0.1) rfl (i_lt_n hi_13_0.1 (Int.lt_of_le_of_lt hi_13_0.2 (by decide))) dX11_cupboard_172 (by rw [ef_28]; rfl) ?_
                                  obtain ⟨v_29, ev_29⟩ : ∃ z : Int32, x13_1 + 1 = z := ⟨_, rfl⟩
                                  have el_1 : (1 : Int32).toInt = 1 := rfl
                                  have hv_29 : v_29.toInt = x13_1.toInt + (1 : Int32).toInt := by rw [← ev_29]; exact fb_addI (by omega) (by omega)
                                  refine j_iinc (pc := 173) (v := v_29) (lv' := [(1, .int v_29), (0, .ref m0)]) C dX11_cupboard_173 0 rfl ev_29 (by decide) rfl ?_
                                  refine j_goto (pc := 176) (tgt := 134) C dX11_cupboard_176 (by decide) ?_
                                  exact j_lv [0, 1] rfl (ih_13 v_29 f_25 f_28 (by omega) (fun j hj => by rw [ef_25, pk_un (show ¬ j = (x13_1).toInt.toNat from (by omega))]; exact hq_13_0 j hj) (fun j hj => by rcases Int.lt_or_le (j : Int) (x13_1).toInt with q | q; (rw [ef_25, pk_un (show ¬ j = (x13_1).toInt.toNat from (by omega))]; exact hq_13_1 j q); (rw [ef_25, show j = (x13_1).toInt.toNat from (by omega), pk_us, ← ev_24, show 1100 + (x13_1).toInt.toNat = (v_23).toInt.toNat from (by omega)]; exact hq_13_0 _ (by omega))) (fun j hj => by rw [ef_28, pk_un (show ¬ j = (x13_1).toInt.toNat from (by omega))]; exact hq_13_2 j hj) (fun j hj => by rcases Int.lt_or_le (j : Int) (x13_1).toInt with q | q; (rw [ef_28, pk_un (show ¬ j = (x13_1).toInt.toNat from (by omega))]; exact hq_13_3 j q); (rw [ef_28, show j = (x13_1).toInt.toNat from (by omega), pk_us, ← ev_27, show 1100 + (x13_1).toInt.toNat = (v_26).toInt.toNat from (by omega)]; exact hq_13_2 _ (by omega))) (by omega))
                            have el_0 : (0 : Int32).toInt = 0 := rfl
                            exact j_lv [0, 1] rfl (loop_13 4096 0 g7_mop g7_marg (by decide) (fun j _ => rfl) (fun j h0 => absurd h0 (by omega)) (fun j _ => rfl) (fun j h0 => absurd h0 (by omega)) (by omega))
                          · skip
                            have el_120 : (120 : Int32).toInt = 120 := rfl
                            rw [i_le] at c_12
                            refine j_aload_n (pc := 111) C dX11_cupboard_111 rfl 1 rfl ?_
                            refine j_get (pc := 112) (ci := 11) (v := .ref mtold) C inw_11 11 rfl rfl 10 (by decide) wd_669 rfl rfl dX11_cupboard_112 ?_
                            refine j_iload_n (pc := 115) C dX11_cupboard_115 rfl 0 rfl ?_
                            refine j_aload_n (pc := 116) C dX11_cupboard_116 rfl 1 rfl ?_
                            refine j_get (pc := 117) (ci := 11) (v := .ref mtold) C inw_11 11 rfl rfl 10 (by decide) wd_669 rfl rfl dX11_cupboard_117 ?_
                            refine j_bipush (pc := 120) (v := 120) C dX11_cupboard_120 (by decide) ?_
                            refine j_iload_n (pc := 122) C dX11_cupboard_122 rfl 0 rfl ?_
                            obtain ⟨v_30, ev_30⟩ : ∃ z : Int32, 120 + x11_1 = z := ⟨_, rfl⟩
                            have el_120 : (120 : Int32).toInt = 120 := rfl
                            have hv_30 : v_30.toInt = (120 : Int32).toInt + x11_1.toInt := by rw [← ev_30]; exact fb_addI (by omega) (by omega)
                            refine j_iadd (pc := 123) (v := v_30) C dX11_cupboard_123 ev_30 ?_
                            obtain ⟨v_31, ev_31⟩ : ∃ z, g11_mtold (v_30).toInt.toNat = z := ⟨_, rfl⟩
                            have env_31 : (g11_mtold (v_30).toInt.toNat).toInt = v_31.toInt := by rw [ev_31]
                            have hv_31 : 0 ≤ v_31.toInt ∧ v_31.toInt ≤ 1000 := by rw [← ev_31]; exact TV.any hi_11_1 (by omega)
                            refine j_iald (pc := 124) (v := v_31) (k := (v_30).toInt.toNat) C 1 1 rfl rfl (i_nn (by omega)) rfl (i_lt_n (by omega) (by omega)) ev_31 dX11_cupboard_124 ?_
                            obtain ⟨f_32, ef_32⟩ : ∃ z, z = upd g11_mtold (x11_1).toInt.toNat v_31 := ⟨_, rfl⟩
                            have hf_32 : TV f_32 := by rw [ef_32]; exact tv_cp (i := (v_30).toInt.toNat) hi_11_1 (by omega) (by omega) ev_31
                            refine j_iast (pc := 125) (k := (x11_1).toInt.toNat) (ws' := [(mwords, .inl (cyJ, 23, .inr (.inl m_words))), (mtold, .inl (cyI, 240, .inl f_32)), (mop, .inl (cyI, 2200, .inl g7_mop)), (marg, .inl (cyI, 2200, .inl g7_marg)), (mnames, .inl (cyJ, 16, .inr (.inl g7_mnames))), (mhasHabit, .inl (cyZ, 12, .inl g7_mhasHabit)), (mfactWords, .inl (cyI, 8, .inl m_factWords)), (mstates, .inl (cyI, 2760, .inl m_states)), (misMarked, .inl (cyZ, 4, .inl m_isMarked)), (mmays, .inl (cyZ, 144, .inl m_mays)), (mtall, .inl (cyI, 49152, .inl m_tall)), (m0, .inr (11, [.int 0, .ref mtape, .int 0, .int m_taped, .ref msort, .ref mplace, .ref mvalue, .int y7_m0_7, .int y7_m0_8, .ref mwords, .ref mtold, .ref mop, .ref marg, .int y7_m0_13, .ref mnames, .ref mhasHabit, .int m_isNew, .ref mfactWords, .ref mfacts, .ref mpile, .ref mstates, .ref misMarked, .int m_inShelf, .int m_inStack, .int m_inPlace, .ref mrow, .int m_rowMany, .ref mthr, .ref mmays, .ref mtall, .ref mweights, .ref mrowOfWare, .ref mneededOf, .int m_goShelf, .int m_goStack, .int m_goLeft, .ref mtried, .ref mbestRow, .int m_bestCost, .int m_bestMany, .int m_bestShelf, .int m_bestSet, .ref mdigits])), (mtape, .inl (cyI, 1000, .inl m_tape)), (msort, .inl (cyI, 1002, .inl (u_1.2.2.1 0))), (mplace, .inl (cyI, 1002, .inl (u_1.2.2.1 1))), (mvalue, .inl (cyJ, 1002, .inr (.inl (u_1.2.2.2 0))))]) C 1 1 rfl rfl (i_nn hi_11_0.1) rfl (i_lt_n hi_11_0.1 (Int.lt_of_le_of_lt hi_11_0.2 (by decide))) dX11_cupboard_125 (by rw [ef_32]; rfl) ?_
                            obtain ⟨v_33, ev_33⟩ : ∃ z : Int32, x11_1 + 1 = z := ⟨_, rfl⟩
                            have el_1 : (1 : Int32).toInt = 1 := rfl
                            have hv_33 : v_33.toInt = x11_1.toInt + (1 : Int32).toInt := by rw [← ev_33]; exact fb_addI (by omega) (by omega)
                            refine j_iinc (pc := 126) (v := v_33) (lv' := [(1, .int v_33), (0, .ref m0)]) C dX11_cupboard_126 0 rfl ev_33 (by decide) rfl ?_
                            refine j_goto (pc := 129) (tgt := 105) C dX11_cupboard_129 (by decide) ?_
                            exact j_lv [0, 1] rfl (ih_11 v_33 f_32 (by omega) hf_32 (fun j hj => by rw [ef_32, pk_un (show ¬ j = (x11_1).toInt.toNat from (by omega))]; exact hq_11_0 j hj) (fun j hj => by rcases Int.lt_or_le (j : Int) (x11_1).toInt with q | q; (rw [ef_32, pk_un (show ¬ j = (x11_1).toInt.toNat from (by omega))]; exact hq_11_1 j q); (rw [ef_32, show j = (x11_1).toInt.toNat from (by omega), pk_us, ← ev_31, show 120 + (x11_1).toInt.toNat = (v_30).toInt.toNat from (by omega)]; exact hq_11_0 _ (by omega))) (by omega))
                      have el_0 : (0 : Int32).toInt = 0 := rfl
                      exact j_lv [0, 1] rfl (loop_11 4096 0 g7_mtold (by decide) hi_7_0 (fun j _ => rfl) (fun j h0 => absurd h0 (by omega)) (by omega))
                    · skip
                      have el_0 : (0 : Int32).toInt = 0 := rfl
                      rw [i_eq] at c_10
                      refine j_aload_n (pc := 78) C dX11_cupboard_78 rfl 0 rfl ?_
                      refine j_callV (pc := 79) (As := []) (rest := []) (wr := [(mstates, .inl (cyI, 2760, .inl m_states)), (misMarked, .inl (cyZ, 4, .inl m_isMarked)), (mmays, .inl (cyZ, 144, .inl m_mays)), (mtall, .inl (cyI, 49152, .inl m_tall)), (mtape, .inl (cyI, 1000, .inl m_tape))]) C (c_X11_readLine l D cyC cyI cyJ cyZ cyO m0 msort mplace mvalue mwords mtold mop marg mnames mhasHabit mfactWords mtape mfacts mpile mstates misMarked mrow mthr mmays mtall mweights mrowOfWare mneededOf mtried mbestRow mdigits 0 0 m_taped y7_m0_7 y7_m0_8 y7_m0_13 m_isNew m_inShelf m_inStack m_inPlace m_rowMany m_goShelf m_goStack m_goLeft m_bestCost m_bestMany m_bestShelf m_bestSet (u_1.2.2.1 0) (u_1.2.2.1 1) (u_1.2.2.2 0) m_words g7_mtold g7_mop g7_marg g7_mnames g7_mhasHabit m_factWords (TKS m_tape (m_taped).toInt.toNat) S9 N9 (by decide) h_m_taped hi_7_5 hi_7_6 hi_7_7 h_m_isNew h_m_inShelf h_m_inStack h_m_inPlace h_m_rowMany h_m_goShelf h_m_bestMany h_m_bestShelf hw_2_0 h_m_factWords hi_7_0 (by omega) (by omega) (by omega) hw_2_2 hWO hFW (PT_TKS (f := m_tape) (n := (m_taped).toInt.toNat) (by omega)) (hS9 (by omega)).1 (hS9 (by omega)).2.1) wd_953 wd_624 wd_954 wd_955 wd_956 ⟨by decide, by decide, rfl⟩ rfl ⟨rfl, rfl, by decide, by decide⟩ ⟨by decide, by decide⟩ [11, 13, 14, 15, 0, 1, 2, 3, 4, 5, 6] [7, 8, 9, 10, 12] rfl rfl ⟨by decide, by decide, by decide⟩ 11 rfl rfl rfl (Nat.le_of_ble_eq_true rfl) dX11_cupboard_79 (fun u_34 hw_35 => ?_)
                      refine j_eq (ws2 := [(mstates, .inl (cyI, 2760, .inl m_states)), (misMarked, .inl (cyZ, 4, .inl m_isMarked)), (mmays, .inl (cyZ, 144, .inl m_mays)), (mtall, .inl (cyI, 49152, .inl m_tall)), (mtape, .inl (cyI, 1000, .inl m_tape)), (m0, .inr (11, [.int 0, .ref mtape, .int 0, .int m_taped, .ref msort, .ref mplace, .ref mvalue, .int (u_34.2.1 0), .int (u_34.2.1 1), .ref mwords, .ref mtold, .ref mop, .ref marg, .int (u_34.2.1 2), .ref mnames, .ref mhasHabit, .int m_isNew, .ref mfactWords, .ref mfacts, .ref mpile, .ref mstates, .ref misMarked, .int m_inShelf, .int m_inStack, .int m_inPlace, .ref mrow, .int m_rowMany, .ref mthr, .ref mmays, .ref mtall, .ref mweights, .ref mrowOfWare, .ref mneededOf, .int m_goShelf, .int m_goStack, .int m_goLeft, .ref mtried, .ref mbestRow, .int m_bestCost, .int m_bestMany, .int m_bestShelf, .int m_bestSet, .ref mdigits])), (msort, .inl (cyI, 1002, .inl (u_1.2.2.1 0))), (mplace, .inl (cyI, 1002, .inl (u_1.2.2.1 1))), (mvalue, .inl (cyJ, 1002, .inr (.inl (u_1.2.2.2 0)))), (mwords, .inl (cyJ, 23, .inr (.inl m_words))), (mtold, .inl (cyI, 240, .inl (u_34.2.2.1 0))), (mop, .inl (cyI, 2200, .inl (u_34.2.2.1 1))), (marg, .inl (cyI, 2200, .inl (u_34.2.2.1 2))), (mnames, .inl (cyJ, 16, .inr (.inl (u_34.2.2.2 0)))), (mhasHabit, .inl (cyZ, 12, .inl (u_34.2.2.1 3))), (mfactWords, .inl (cyI, 8, .inl m_factWords))]) (pc2 := 82) (lv2 := [(0, .ref m0)]) (st2 := []) rfl rfl rfl rfl ?_
                      obtain ⟨hw_35_0, hw_35_1, hw_35_2, hw_35_3, hw_35_4, hw_35_5, hw_35_6, hw_35_7, hw_35_8, hw_35_9, hw_35_10, hw_35_11, hw_35_12, hw_35_13, hw_35_14, hw_35_15, hw_35_16⟩ := hw_35
                      refine j_aload_n (pc := 82) C dX11_cupboard_82 rfl 0 rfl ?_
                      refine j_bipush (pc := 83) (v := 59) C dX11_cupboard_83 (by decide) ?_
                      refine j_callV (pc := 85) (As := [.int 59]) (rest := []) (wr := [(mstates, .inl (cyI, 2760, .inl m_states)), (misMarked, .inl (cyZ, 4, .inl m_isMarked)), (mmays, .inl (cyZ, 144, .inl m_mays)), (mtall, .inl (cyI, 49152, .inl m_tall)), (mtape, .inl (cyI, 1000, .inl m_tape)), (mtold, .inl (cyI, 240, .inl (u_34.2.2.1 0))), (mop, .inl (cyI, 2200, .inl (u_34.2.2.1 1))), (marg, .inl (cyI, 2200, .inl (u_34.2.2.1 2))), (mnames, .inl (cyJ, 16, .inr (.inl (u_34.2.2.2 0)))), (mhasHabit, .inl (cyZ, 12, .inl (u_34.2.2.1 3))), (mfactWords, .inl (cyI, 8, .inl m_factWords))]) C (c_X11_takeSign l D cyC cyI cyJ cyZ cyO m0 msort mplace mvalue mwords mtape mtold mop marg mnames mhasHabit mfactWords mfacts mpile mstates misMarked mrow mthr mmays mtall mweights mrowOfWare mneededOf mtried mbestRow mdigits 59 0 0 m_taped (u_34.2.1 0) (u_34.2.1 1) (u_34.2.1 2) m_isNew m_inShelf m_inStack m_inPlace m_rowMany m_goShelf m_goStack m_goLeft m_bestCost m_bestMany m_bestShelf m_bestSet (u_1.2.2.1 0) (u_1.2.2.1 1) (u_1.2.2.2 0) m_words (TKS m_tape (m_taped).toInt.toNat) (by decide) h_m_taped hw_35_0 hw_35_1 hw_35_2 h_m_isNew h_m_inShelf h_m_inStack h_m_inPlace h_m_rowMany h_m_goShelf h_m_bestMany h_m_bestShelf hw_2_0 (by omega) (by omega) hw_2_2 hWO) wd_728 wd_624 wd_729 wd_730 wd_731 ⟨by decide, by decide, rfl⟩ rfl ⟨rfl, rfl, by decide, by decide⟩ ⟨by decide, by decide⟩ [5, 6, 7, 8, 9] [0, 1, 2, 3, 4, 10, 11, 12, 13, 14, 15] rfl rfl ⟨by decide, by decide, by decide⟩ 5 rfl rfl rfl (Nat.le_of_ble_eq_true rfl) dX11_cupboard_85 (fun u_36 hw_37 => ?_)
                      refine j_eq (ws2 := [(mstates, .inl (cyI, 2760, .inl m_states)), (misMarked, .inl (cyZ, 4, .inl m_isMarked)), (mmays, .inl (cyZ, 144, .inl m_mays)), (mtall, .inl (cyI, 49152, .inl m_tall)), (mtape, .inl (cyI, 1000, .inl m_tape)), (mtold, .inl (cyI, 240, .inl (u_34.2.2.1 0))), (mop, .inl (cyI, 2200, .inl (u_34.2.2.1 1))), (marg, .inl (cyI, 2200, .inl (u_34.2.2.1 2))), (mnames, .inl (cyJ, 16, .inr (.inl (u_34.2.2.2 0)))), (mhasHabit, .inl (cyZ, 12, .inl (u_34.2.2.1 3))), (mfactWords, .inl (cyI, 8, .inl m_factWords)), (m0, .inr (11, [.int 0, .ref mtape, .int 0, .int m_taped, .ref msort, .ref mplace, .ref mvalue, .int (u_36.2.1 0), .int (u_36.2.1 1), .ref mwords, .ref mtold, .ref mop, .ref marg, .int (u_34.2.1 2), .ref mnames, .ref mhasHabit, .int m_isNew, .ref mfactWords, .ref mfacts, .ref mpile, .ref mstates, .ref misMarked, .int m_inShelf, .int m_inStack, .int m_inPlace, .ref mrow, .int m_rowMany, .ref mthr, .ref mmays, .ref mtall, .ref mweights, .ref mrowOfWare, .ref mneededOf, .int m_goShelf, .int m_goStack, .int m_goLeft, .ref mtried, .ref mbestRow, .int m_bestCost, .int m_bestMany, .int m_bestShelf, .int m_bestSet, .ref mdigits])), (msort, .inl (cyI, 1002, .inl (u_1.2.2.1 0))), (mplace, .inl (cyI, 1002, .inl (u_1.2.2.1 1))), (mvalue, .inl (cyJ, 1002, .inr (.inl (u_1.2.2.2 0)))), (mwords, .inl (cyJ, 23, .inr (.inl m_words)))]) (pc2 := 88) (lv2 := [(0, .ref m0)]) (st2 := []) rfl rfl rfl rfl ?_
                      obtain ⟨hw_37_0, hw_37_1, hw_37_2, hw_37_3, hw_37_4, hw_37_5, hw_37_6⟩ := hw_37
                      rcases (by omega : ((u_36.2.1 1)).toInt = 0 ∨ ¬ ((u_36.2.1 1)).toInt = 0) with hf9 | hf9
                      · skip
                        refine j_goto (pc := 88) (tgt := 59) C dX11_cupboard_88 (by decide) ?_
                        refine j_subG (ws' := [(mwords, .inl (cyJ, 23, .inr (.inl m_words))), (mtold, .inl (cyI, 240, .inl (u_34.2.2.1 0))), (mop, .inl (cyI, 2200, .inl (u_34.2.2.1 1))), (marg, .inl (cyI, 2200, .inl (u_34.2.2.1 2))), (mnames, .inl (cyJ, 16, .inr (.inl (u_34.2.2.2 0)))), (mhasHabit, .inl (cyZ, 12, .inl (u_34.2.2.1 3))), (mfactWords, .inl (cyI, 8, .inl m_factWords)), (mstates, .inl (cyI, 2760, .inl m_states)), (misMarked, .inl (cyZ, 4, .inl m_isMarked)), (mmays, .inl (cyZ, 144, .inl m_mays)), (mtall, .inl (cyI, 49152, .inl m_tall)), (m0, .inr (11, [.int 0, .ref mtape, .int 0, .int m_taped, .ref msort, .ref mplace, .ref mvalue, .int (u_36.2.1 0), .int (u_36.2.1 1), .ref mwords, .ref mtold, .ref mop, .ref marg, .int (u_34.2.1 2), .ref mnames, .ref mhasHabit, .int m_isNew, .ref mfactWords, .ref mfacts, .ref mpile, .ref mstates, .ref misMarked, .int m_inShelf, .int m_inStack, .int m_inPlace, .ref mrow, .int m_rowMany, .ref mthr, .ref mmays, .ref mtall, .ref mweights, .ref mrowOfWare, .ref mneededOf, .int m_goShelf, .int m_goStack, .int m_goLeft, .ref mtried, .ref mbestRow, .int m_bestCost, .int m_bestMany, .int m_bestShelf, .int m_bestSet, .ref mdigits])), (mtape, .inl (cyI, 1000, .inl m_tape)), (msort, .inl (cyI, 1002, .inl (u_1.2.2.1 0))), (mplace, .inl (cyI, 1002, .inl (u_1.2.2.1 1))), (mvalue, .inl (cyJ, 1002, .inr (.inl (u_1.2.2.2 0))))]) [15, 5, 6, 7, 8, 9, 10, 0, 1, 2, 3, 11, 4, 12, 13, 14] (by decide) rfl ?_
                        exact j_lv [0] rfl (ih_7 (u_34.2.2.1 0) (u_34.2.2.1 1) (u_34.2.2.1 2) (u_34.2.2.2 0) (u_34.2.2.1 3) (u_36.2.1 0) (u_36.2.1 1) (u_34.2.1 2) hw_35_3 hw_37_0 hw_37_1 hw_35_2 (by omega) (Fr.trans hq_7_0 hw_35_11 (Nat.le_refl _)) (Fr.trans hq_7_1 hw_35_9 (Nat.le_refl _)) (Fr.trans hq_7_2 hw_35_10 (Nat.le_refl _)) (fun hz => hw_35_12 (by omega) (hq_7_3 (by omega))) (RGE.step (PT_TKS (f := m_tape) (n := (m_taped).toInt.toNat) (by omega)) hS9 (by omega) (by have z8 := (hw_2_2 (y7_m0_7).toInt.toNat (by omega)).1; omega) hw_35_15 hw_37_6 (fun y => by omega) hw_35_16 hw_35_14 hw_35_13) (by omega))
                      · skip
                        refine j_goto (pc := 88) (tgt := 59) C dX11_cupboard_88 (by decide) ?_
                        refine j_aload_n (pc := 59) C dX11_cupboard_59 rfl 0 rfl ?_
                        refine j_get (pc := 60) (ci := 11) (v := .int (u_36.2.1 1)) C inw_11 11 rfl rfl 8 (by decide) wd_638 rfl rfl dX11_cupboard_60 ?_
                        have el_0 : (0 : Int32).toInt = 0 := rfl
                        refine j_if_ne_t (pc := 63) (tgt := 91) C dX11_cupboard_63 (by decide) (by rw [i_eq]; omega) ?_
                        have hF9 := ((RGE.step (PT_TKS (f := m_tape) (n := (m_taped).toInt.toNat) (by omega)) hS9 (by omega) (by have z8 := (hw_2_2 (y7_m0_7).toInt.toNat (by omega)).1; omega) hw_35_15 hw_37_6 (fun y => by omega) hw_35_16 hw_35_14 hw_35_13)).2 (by omega)
                        refine j_aload_n (pc := 91) C dX11_cupboard_91 rfl 0 rfl ?_
                        refine j_get (pc := 92) (ci := 11) (v := .int (u_36.2.1 1)) C inw_11 11 rfl rfl 8 (by decide) wd_638 rfl rfl dX11_cupboard_92 ?_
                        have el_0 : (0 : Int32).toInt = 0 := rfl
                        refine j_if_le_f (pc := 95) (tgt := 103) C dX11_cupboard_95 (by decide) (by rw [i_le]; omega) ?_
                        refine j_aload_n (pc := 98) C dX11_cupboard_98 rfl 0 rfl ?_
                        refine j_get (pc := 99) (ci := 11) (v := .int (u_36.2.1 1)) C inw_11 11 rfl rfl 8 (by decide) wd_638 rfl rfl dX11_cupboard_99 ?_
                        exact j_iret (pc := 102) C hr hk (fun i => [].getD i 0, fun i => [(u_36.2.1 1), (u_36.2.1 0), (u_36.2.1 1), (u_34.2.1 2), m_isNew].getD i 0, fun i => [(u_1.2.2.1 0), (u_1.2.2.1 1), (u_34.2.2.1 0), (u_34.2.2.1 1), (u_34.2.2.1 2), (u_34.2.2.1 3), m_states, m_isMarked].getD i (fun _ => 0), fun i => [(u_1.2.2.2 0), (u_34.2.2.2 0)].getD i (fun _ => 0)) rfl (show (0 ≤ ((u_36.2.1 0)).toInt ∧ ((u_36.2.1 0)).toInt ≤ 1000) ∧ (0 ≤ ((u_36.2.1 1)).toInt ∧ ((u_36.2.1 1)).toInt ≤ 16005) ∧ (0 ≤ ((u_34.2.1 2)).toInt ∧ ((u_34.2.1 2)).toInt ≤ 1000) ∧ (0 ≤ (m_isNew).toInt ∧ (m_isNew).toInt ≤ 1) ∧ (Iv 1002 (0) (1000) (u_1.2.2.1 1)) ∧ (TV (u_34.2.2.1 0)) ∧ (SV m_states) ∧ (WFm (u_34.2.2.1 0) (u_34.2.2.1 1) (u_34.2.2.1 2)) ∧ (SI m_states (u_34.2.2.1 0) m_isMarked) ∧ ((m_isNew).toInt = 0 → TALL (u_34.2.2.1 0) m_mays m_tall) ∧ (((u_36.2.1 1)).toInt = (cup m_tape (m_taped).toInt.toNat)) ∧ (((u_36.2.1 1)).toInt = 0 → TDr (u_34.2.2.1 0) (cupN m_tape (m_taped).toInt.toNat)) ∧ (¬ ((u_36.2.1 1)).toInt = 0 → Fr 120 m_told (u_34.2.2.1 0)) ∧ (((u_36.2.1 1)).toInt = 0 → ME6 (u_34.2.2.1 0) (u_34.2.2.1 1) (u_34.2.2.1 2) (cupE m_tape (m_taped).toInt.toNat)) ∧ (∀ E : (Nat → (Nat → Int32) → Int32), ¬ ((u_36.2.1 1)).toInt = 0 → ME6 m_told m_op m_arg E → ME6 (u_34.2.2.1 0) (u_34.2.2.1 1) (u_34.2.2.1 2) E) ∧ (¬ ((u_36.2.1 1)).toInt = 0 ∨ (m_isMarked 0).toInt = 0) ∧ (((u_36.2.1 1)).toInt = 0 ∨ (m_isMarked 0).toInt = (m_isMarked 0).toInt) ∧ (¬ ((u_36.2.1 1)).toInt = 0 ∨ (m_isMarked 1).toInt = 0) ∧ (((u_36.2.1 1)).toInt = 0 ∨ (m_isMarked 1).toInt = (m_isMarked 1).toInt) ∧ (¬ ((u_36.2.1 1)).toInt = 0 ∨ (m_isMarked 2).toInt = 0) ∧ (((u_36.2.1 1)).toInt = 0 ∨ (m_isMarked 2).toInt = (m_isMarked 2).toInt) ∧ (¬ ((u_36.2.1 1)).toInt = 0 ∨ (m_isMarked 3).toInt = 0) ∧ (((u_36.2.1 1)).toInt = 0 ∨ (m_isMarked 3).toInt = (m_isMarked 3).toInt) ∧ (IM (((u_36.2.1 1)).toInt = 0) (∀ j : Nat, j < 460 → m_states j = 0)) ∧ (IM (¬ ((u_36.2.1 1)).toInt = 0) (m_states = m_states)) ∧ (((u_36.2.1 1)).toInt = 0 → (m_states 421).toInt = 0) ∧ (¬ ((u_36.2.1 1)).toInt = 0 → m_states 421 = m_states 421) ∧ (∀ j : Nat, 460 ≤ j → m_states j = m_states j) from ⟨hw_37_0, hw_37_1, hw_35_2, h_m_isNew, hw_2_0, hw_35_3, h_m_states, (WFm.fr hwf (h_m_told 2 (by decide)).2 (Fr.trans hq_7_0 hw_35_11 (Nat.le_refl _)) (Fr.trans hq_7_1 hw_35_9 (Nat.le_refl _)) (Fr.trans hq_7_2 hw_35_10 (Nat.le_refl _))), (SI.told hSI (Fr.trans hq_7_0 hw_35_11 (Nat.le_refl _))), (fun h => TALL.told (hTA h) (h_m_told 0 (by decide)).2 (Fr.trans hq_7_0 hw_35_11 (Nat.le_refl _))), (by omega), (fun hz => by exfalso; omega), (fun _ => (Fr.trans hq_7_0 hw_35_11 (Nat.le_refl _))), (fun hz => by exfalso; omega), (fun E hz hE => ME6.fr hE (fun k hk => by obtain ⟨e, s1, s2, s3⟩ := hwf k hk; exact ⟨e, s2, s3, s1.1⟩) (h_m_told 2 (by decide)).2 (Fr.trans hq_7_0 hw_35_11 (Nat.le_refl _)) (Fr.trans hq_7_1 hw_35_9 (Nat.le_refl _)) (Fr.trans hq_7_2 hw_35_10 (Nat.le_refl _))), (Or.inl (by omega)), (Or.inr rfl), (Or.inl (by omega)), (Or.inr rfl), (Or.inl (by omega)), (Or.inr rfl), (Or.inl (by omega)), (Or.inr rfl), (fun hz => by exfalso; omega), (fun hz => rfl), (fun hz => by exfalso; omega), (fun hz => rfl), (fun j hj => rfl)⟩) [11, 4, 12, 13, 14, 15, 5, 6, 7, 8, 9, 10, 0, 1, 2, 3] (by decide) rfl (by decide) (by decide) dX11_cupboard_102
              have el_0 : (0 : Int32).toInt = 0 := rfl
              have el_0 : (0 : Int32).toInt = 0 := rfl
              have el_0 : (0 : Int32).toInt = 0 := rfl
              exact j_lv [1] rfl (loop_7 4096 g3_mtold m_op m_arg m_names g5_mhasHabit 0 0 0 hi_3_1 (by decide) (by decide) (by decide) (by omega) hq_3_0 Fr.rf Fr.rf (fun _ k hk => absurd hk (by rw [show g3_mtold 122 = 0 from hq_3_1 2 (by omega)]; have h9 : (0 : Int32).toInt = 0 := rfl; omega)) (RGE.start rfl rfl (fun j hj => hq_3_1 j (by omega)) (fun j hj => hq_5_0 j (by omega)) (by have z9 := hw_2_3; show rAll _ 1000 S0 _ = rAll _ 1000 S0 _; rw [show ((u_1.2.2.1 1) 0).toInt.toNat = tP m_tape (m_taped).toInt.toNat 0 from (by omega)]) (by have z9 := hw_2_3; show rFin _ 1000 S0 N0 _ = rFin _ 1000 S0 N0 _; rw [show ((u_1.2.2.1 1) 0).toInt.toNat = tP m_tape (m_taped).toInt.toNat 0 from (by omega)]) (by have z9 := hw_2_3; show eFin _ 1000 S0 E0 _ = eFin _ 1000 S0 E0 _; rw [show ((u_1.2.2.1 1) 0).toInt.toNat = tP m_tape (m_taped).toInt.toNat 0 from (by omega)])) (by omega))
            · skip
              have el_12 : (12 : Int32).toInt = 12 := rfl
              rw [i_le] at c_6
              refine j_aload_n (pc := 46) C dX11_cupboard_46 rfl 1 rfl ?_
              refine j_get (pc := 47) (ci := 11) (v := .ref mhasHabit) C inw_11 11 rfl rfl 15 (by decide) wd_695 rfl rfl dX11_cupboard_47 ?_
              refine j_iload_n (pc := 50) C dX11_cupboard_50 rfl 0 rfl ?_
              refine j_iconst (pc := 51) (v := 0) C dX11_cupboard_51 (by decide) ?_
              obtain ⟨f_38, ef_38⟩ : ∃ z, z = upd g5_mhasHabit (x5_1).toInt.toNat (vp_nar .boolean 0) := ⟨_, rfl⟩
              refine j_zast (pc := 52) (k := (x5_1).toInt.toNat) (ws' := [(mwords, .inl (cyJ, 23, .inr (.inl m_words))), (mtold, .inl (cyI, 240, .inl g3_mtold)), (mop, .inl (cyI, 2200, .inl m_op)), (marg, .inl (cyI, 2200, .inl m_arg)), (mnames, .inl (cyJ, 16, .inr (.inl m_names))), (mhasHabit, .inl (cyZ, 12, .inl f_38)), (mfactWords, .inl (cyI, 8, .inl m_factWords)), (mstates, .inl (cyI, 2760, .inl m_states)), (misMarked, .inl (cyZ, 4, .inl m_isMarked)), (mmays, .inl (cyZ, 144, .inl m_mays)), (mtall, .inl (cyI, 49152, .inl m_tall)), (m0, .inr (11, [.int 0, .ref mtape, .int 0, .int m_taped, .ref msort, .ref mplace, .ref mvalue, .int 0, .int 0, .ref mwords, .ref mtold, .ref mop, .ref marg, .int 0, .ref mnames, .ref mhasHabit, .int m_isNew, .ref mfactWords, .ref mfacts, .ref mpile, .ref mstates, .ref misMarked, .int m_inShelf, .int m_inStack, .int m_inPlace, .ref mrow, .int m_rowMany, .ref mthr, .ref mmays, .ref mtall, .ref mweights, .ref mrowOfWare, .ref mneededOf, .int m_goShelf, .int m_goStack, .int m_goLeft, .ref mtried, .ref mbestRow, .int m_bestCost, .int m_bestMany, .int m_bestShelf, .int m_bestSet, .ref mdigits])), (mtape, .inl (cyI, 1000, .inl m_tape)), (msort, .inl (cyI, 1002, .inl (u_1.2.2.1 0))), (mplace, .inl (cyI, 1002, .inl (u_1.2.2.1 1))), (mvalue, .inl (cyJ, 1002, .inr (.inl (u_1.2.2.2 0))))]) C 5 3 rfl rfl (i_nn hi_5_0.1) rfl (i_lt_n hi_5_0.1 (by omega)) dX11_cupboard_52 (by rw [ef_38]; rfl) ?_
              obtain ⟨v_39, ev_39⟩ : ∃ z : Int32, x5_1 + 1 = z := ⟨_, rfl⟩
              have el_1 : (1 : Int32).toInt = 1 := rfl
              have hv_39 : v_39.toInt = x5_1.toInt + (1 : Int32).toInt := by rw [← ev_39]; exact fb_addI (by omega) (by omega)
              refine j_iinc (pc := 53) (v := v_39) (lv' := [(1, .int v_39), (0, .ref m0)]) C dX11_cupboard_53 0 rfl ev_39 (by decide) rfl ?_
              refine j_goto (pc := 56) (tgt := 40) C dX11_cupboard_56 (by decide) ?_
              exact j_lv [0, 1] rfl (ih_5 v_39 f_38 (by omega) (fun j hj => by rcases Int.lt_or_le (j : Int) (x5_1).toInt with q | q; (rw [ef_38, pk_un (show ¬ j = (x5_1).toInt.toNat from (by omega))]; exact hq_5_0 j q); (rw [ef_38, show j = (x5_1).toInt.toNat from (by omega), pk_us]; try rfl)) (by omega))
        have el_0 : (0 : Int32).toInt = 0 := rfl
        exact j_lv [0, 1] rfl (loop_5 4096 0 m_hasHabit (by decide) (fun j h0 => absurd h0 (by omega)) (by omega))
      · skip
        have el_120 : (120 : Int32).toInt = 120 := rfl
        rw [i_le] at c_4
        refine j_aload_n (pc := 22) C dX11_cupboard_22 rfl 1 rfl ?_
        refine j_get (pc := 23) (ci := 11) (v := .ref mtold) C inw_11 11 rfl rfl 10 (by decide) wd_669 rfl rfl dX11_cupboard_23 ?_
        refine j_bipush (pc := 26) (v := 120) C dX11_cupboard_26 (by decide) ?_
        refine j_iload_n (pc := 28) C dX11_cupboard_28 rfl 0 rfl ?_
        obtain ⟨v_40, ev_40⟩ : ∃ z : Int32, 120 + x3_1 = z := ⟨_, rfl⟩
        have el_120 : (120 : Int32).toInt = 120 := rfl
        have hv_40 : v_40.toInt = (120 : Int32).toInt + x3_1.toInt := by rw [← ev_40]; exact fb_addI (by omega) (by omega)
        refine j_iadd (pc := 29) (v := v_40) C dX11_cupboard_29 ev_40 ?_
        refine j_iconst (pc := 30) (v := 0) C dX11_cupboard_30 (by decide) ?_
        obtain ⟨f_41, ef_41⟩ : ∃ z, z = upd g3_mtold (v_40).toInt.toNat 0 := ⟨_, rfl⟩
        have el_0 : (0 : Int32).toInt = 0 := rfl
        have hf_41 : TV f_41 := by rw [ef_41]; exact TV.upd hi_3_1 (by omega) (by have h9 := hiT_0 ((v_40).toInt.toNat); omega)
        refine j_iast (pc := 31) (k := (v_40).toInt.toNat) (ws' := [(mwords, .inl (cyJ, 23, .inr (.inl m_words))), (mtold, .inl (cyI, 240, .inl f_41)), (mop, .inl (cyI, 2200, .inl m_op)), (marg, .inl (cyI, 2200, .inl m_arg)), (mnames, .inl (cyJ, 16, .inr (.inl m_names))), (mhasHabit, .inl (cyZ, 12, .inl m_hasHabit)), (mfactWords, .inl (cyI, 8, .inl m_factWords)), (mstates, .inl (cyI, 2760, .inl m_states)), (misMarked, .inl (cyZ, 4, .inl m_isMarked)), (mmays, .inl (cyZ, 144, .inl m_mays)), (mtall, .inl (cyI, 49152, .inl m_tall)), (m0, .inr (11, [.int 0, .ref mtape, .int 0, .int m_taped, .ref msort, .ref mplace, .ref mvalue, .int 0, .int 0, .ref mwords, .ref mtold, .ref mop, .ref marg, .int 0, .ref mnames, .ref mhasHabit, .int m_isNew, .ref mfactWords, .ref mfacts, .ref mpile, .ref mstates, .ref misMarked, .int m_inShelf, .int m_inStack, .int m_inPlace, .ref mrow, .int m_rowMany, .ref mthr, .ref mmays, .ref mtall, .ref mweights, .ref mrowOfWare, .ref mneededOf, .int m_goShelf, .int m_goStack, .int m_goLeft, .ref mtried, .ref mbestRow, .int m_bestCost, .int m_bestMany, .int m_bestShelf, .int m_bestSet, .ref mdigits])), (mtape, .inl (cyI, 1000, .inl m_tape)), (msort, .inl (cyI, 1002, .inl (u_1.2.2.1 0))), (mplace, .inl (cyI, 1002, .inl (u_1.2.2.1 1))), (mvalue, .inl (cyJ, 1002, .inr (.inl (u_1.2.2.2 0))))]) C 1 1 rfl rfl (i_nn (by omega)) rfl (i_lt_n (by omega) (by omega)) dX11_cupboard_31 (by rw [ef_41]; rfl) ?_
        obtain ⟨v_42, ev_42⟩ : ∃ z : Int32, x3_1 + 1 = z := ⟨_, rfl⟩
        have el_1 : (1 : Int32).toInt = 1 := rfl
        have hv_42 : v_42.toInt = x3_1.toInt + (1 : Int32).toInt := by rw [← ev_42]; exact fb_addI (by omega) (by omega)
        refine j_iinc (pc := 32) (v := v_42) (lv' := [(1, .int v_42), (0, .ref m0)]) C dX11_cupboard_32 0 rfl ev_42 (by decide) rfl ?_
        refine j_goto (pc := 35) (tgt := 16) C dX11_cupboard_35 (by decide) ?_
        exact j_lv [0, 1] rfl (ih_3 v_42 f_41 (by omega) hf_41 (fun j hj => by rw [ef_41, pk_un (show ¬ j = (v_40).toInt.toNat from (by omega))]; exact hq_3_0 j hj) (fun j hj => by rcases Int.lt_or_le (j : Int) (x3_1).toInt with q | q; (rw [ef_41, pk_un (show ¬ 120 + j = (v_40).toInt.toNat from (by omega))]; exact hq_3_1 j q); (rw [ef_41, show 120 + j = (v_40).toInt.toNat from (by omega), pk_us]; try rfl)) (by omega))
  have el_0 : (0 : Int32).toInt = 0 := rfl
  exact j_lv [0, 1] rfl (loop_3 4096 0 m_told (by decide) h_m_told Fr.rf (fun j h0 => absurd h0 (by omega)) (by omega))
