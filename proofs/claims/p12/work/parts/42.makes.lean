/-! making: the new object's own places -/
theorem FRM.state0 {V W X : Vf} {k : Nat} {v : Int32} {x : Int} (h : FRM V W x) (e : X = up2 W 63 k v) (h0 : (V 0 60).toInt ≤ (k : Int)) : FRM V X x := by
  have a : agr [] [63] W X := agr.up agr.rf e rfl
  refine ⟨by rw [a 0 60 rfl]; exact h.1, fun o ho => ?_, fun o k' ho he hk hl => (a 66 _ rfl).trans (h.2.2.1 o k' ho he hk hl), fun i hi => (a 94 _ rfl).trans (h.2.2.2 i hi)⟩
  have b := h.2.1 o ho
  have e63 : X 63 o = W 63 o := up2_k e (by omega)
  refine ⟨(a 61 _ rfl).trans b.1, (a 62 _ rfl).trans b.2.1, ?_, ?_⟩
  · rw [e63]
    exact b.2.2.1
  · rw [e63]
    exact b.2.2.2
theorem FRM.trn {fs : List (Nat × Nat)} {cs : List Nat} {V W X : Vf} {x : Int} (h1 : FRM V W (-1)) (h2 : FRM W X x) (a : agr fs cs V W) (q : thC fs cs) (hf : (V 0 95).toInt ≤ (W 0 95).toInt) (hx : (V 0 60).toInt ≤ x) : FRM V X (-1) := by
  have h3 : FRM V X x := FRM.tr h1.weak h2 a q hf
  exact ⟨h3.1, h3.2.1, fun o k ho _ hk hl => h3.2.2.1 o k ho (by omega) hk hl, h3.2.2.2⟩
theorem FRM.more {V W V1 X : Vf} {k : Nat} {o v : Int32} {x : Int} (h : FRM V W x) (e1 : V1 = up2 W 94 k o) (e2 : X = up2 V1 0 95 v) (hk : (V 0 95).toInt ≤ (k : Int)) : FRM V X x := by
  have a : agr [(0, 95)] [94] W X := agr.up (agr.up agr.rf e1 rfl) e2 rfl
  refine ⟨by rw [a 0 60 rfl]; exact h.1, fun o ho => ?_, fun o k' ho he hk hl => (a 66 _ rfl).trans (h.2.2.1 o k' ho he hk hl), fun i hi => ?_⟩
  · have b := h.2.1 o ho
    have e63 : X 63 o = W 63 o := a 63 _ rfl
    refine ⟨(a 61 _ rfl).trans b.1, (a 62 _ rfl).trans b.2.1, ?_, ?_⟩
    · rw [e63]
      exact b.2.2.1
    · rw [e63]
      exact b.2.2.2
  · exact ((up2_o e2 (by decide)).trans (up2_k e1 (by omega))).trans (h.2.2.2 i hi)
/-- the joins of an object whose joins are being laid: none from need l on (of those that are not late) -/
def JZ (V W : Vf) (c o : Nat) (l : Int) : Prop := ∀ k : Nat, k < 8 → l ≤ (k : Int) → (V 29 (8 * (24 * nwh V + c) + k)).toInt ≠ 1 → (W 66 (8 * o + k)).toInt = 0
def JL (V W : Vf) (c o k : Nat) (m : Int) : Prop := (V 29 (8 * (24 * nwh V + c) + k)).toInt ≠ 1 → (W 66 (8 * o + k)).toInt ≤ m
theorem FRM.nl {fs : List (Nat × Nat)} {cs : List Nat} {V W X : Vf} {c o : Nat} (h : FRM W X (-1)) (a : agr fs cs V W) (q : thC fs cs) (ho : (o : Int) < (W 0 60).toInt) (e : Int32.toNatClampNeg (W 61 o) = c) : ∀ k, k < 8 → (V 29 (8 * (24 * nwh V + c) + k)).toInt ≠ 1 → X 66 (8 * o + k) = W 66 (8 * o + k) := by
  intro k hk hl
  have en : nwh W = nwh V := by unfold nwh; rw [a 0 11 q.1]
  exact h.2.2.1 o k ho (by omega) hk (by rw [en, e, a _ _ (q.2.2.2.2.2.2 _)]; exact hl)
theorem JZ.keep {V W X : Vf} {c o : Nat} {l l' : Int} (h : JZ V W c o l) (hl : l ≤ l') (e : ∀ k, k < 8 → (V 29 (8 * (24 * nwh V + c) + k)).toInt ≠ 1 → X 66 (8 * o + k) = W 66 (8 * o + k)) : JZ V X c o l' := fun k hk h1 h2 => by rw [e k hk h2]; exact h k hk (by omega) h2
theorem JL.keep {V W X : Vf} {c o k : Nat} {m m' : Int} (h : JL V W c o k m) (hm : m ≤ m') (hk : k < 8) (e : ∀ k, k < 8 → (V 29 (8 * (24 * nwh V + c) + k)).toInt ≠ 1 → X 66 (8 * o + k) = W 66 (8 * o + k)) : JL V X c o k m' := fun h2 => by rw [e k hk h2]; have := h h2; omega
theorem JZ.jl {V W : Vf} {c o k : Nat} {m : Int} (h : JZ V W c o (k : Int)) (hk : k < 8) (hm : 0 ≤ m) : JL V W c o k m := fun h2 => by rw [h k hk (Int.le_refl _) h2]; exact hm
theorem JZ.up {V W W1 X : Vf} {c o k p r : Nat} {g v : Int32} {l : Int} (h : JZ V W c o l) (e1 : W1 = up2 W 67 p g) (e2 : X = up2 W1 66 r v) (hr : r = 8 * o + k) (hl : (k : Int) < l) : JZ V X c o l := fun j hj h1 h2 => by
  have e : X 66 (8 * o + j) = W 66 (8 * o + j) := (up2_k e2 (by omega)).trans (up2_o e1 (by decide))
  rw [e]
  exact h j hj h1 h2
theorem JL.up {V W1 X : Vf} {c o k r : Nat} {v : Int32} {m : Int} (e2 : X = up2 W1 66 r v) (hr : r = 8 * o + k) (hm : v.toInt ≤ m) : JL V X c o k m := fun _ => by
  rw [← hr, up2_s e2]
  exact hm

theorem w2267 : Cond.code yX12_joinsAll cX12_joinsAll 8 (some .int) ∈ GW := gw_mem 2267 (by decide +kernel) rfl
theorem w2264 : Cond.methodLink RX12 500 yX12_joinsAll ∈ GW := gw_mem 2264 (by decide +kernel) rfl
theorem w2266 : Cond.instanceMethod yX12_joinsAll ∈ GW := gw_mem 2266 (by decide +kernel) rfl
theorem w135 : Cond.selects RX12 yX12_joinsAll yX12_joinsAll ∈ GW := gw_mem 135 (by decide +kernel) rfl
theorem hdV_yX12_joinsAll : yX12_joinsAll.cls = RX12 ∧ yX12_joinsAll.cls ≠ "java/lang/invoke/MethodHandle" ∧ yX12_joinsAll.cls ≠ "java/lang/invoke/VarHandle" ∧ (parseMethodDescriptor yX12_joinsAll.desc).map (fun d => d.parameters.length) = some 3 := by decide +kernel
theorem dX12_makes_0 : decode cX12_makes 0 = .ok (.aload_n 0, 1) := by decide +kernel
theorem dX12_makes_1 : decode cX12_makes 1 = .ok (.invokevirtual 497, 3) := by decide +kernel
theorem dX12_makes_4 : decode cX12_makes 4 = .ok (.ifCond .ne 5, 3) := by decide +kernel
theorem dX12_makes_9 : decode cX12_makes 9 = .ok (.aload_n 0, 1) := by decide +kernel
theorem dX12_makes_10 : decode cX12_makes 10 = .ok (.getfield 411, 3) := by decide +kernel
theorem dX12_makes_13 : decode cX12_makes 13 = .ok (.sipush 300, 3) := by decide +kernel
theorem dX12_makes_16 : decode cX12_makes 16 = .ok (.if_icmp .ne 10, 3) := by decide +kernel
theorem dX12_makes_26 : decode cX12_makes 26 = .ok (.aload_n 0, 1) := by decide +kernel
theorem dX12_makes_27 : decode cX12_makes 27 = .ok (.getfield 411, 3) := by decide +kernel
theorem dX12_makes_30 : decode cX12_makes 30 = .ok (.istore 4, 2) := by decide +kernel
theorem dX12_makes_32 : decode cX12_makes 32 = .ok (.aload_n 0, 1) := by decide +kernel
theorem dX12_makes_33 : decode cX12_makes 33 = .ok (.dup, 1) := by decide +kernel
theorem dX12_makes_34 : decode cX12_makes 34 = .ok (.getfield 411, 3) := by decide +kernel
theorem dX12_makes_37 : decode cX12_makes 37 = .ok (.iconst 1, 1) := by decide +kernel
theorem dX12_makes_38 : decode cX12_makes 38 = .ok (.iadd, 1) := by decide +kernel
theorem dX12_makes_39 : decode cX12_makes 39 = .ok (.putfield 411, 3) := by decide +kernel
theorem dX12_makes_42 : decode cX12_makes 42 = .ok (.aload_n 0, 1) := by decide +kernel
theorem dX12_makes_43 : decode cX12_makes 43 = .ok (.getfield 164, 3) := by decide +kernel
theorem dX12_makes_46 : decode cX12_makes 46 = .ok (.iload 4, 2) := by decide +kernel
theorem dX12_makes_48 : decode cX12_makes 48 = .ok (.iload_n 1, 1) := by decide +kernel
theorem dX12_makes_49 : decode cX12_makes 49 = .ok (.iastore, 1) := by decide +kernel
theorem dX12_makes_50 : decode cX12_makes 50 = .ok (.aload_n 0, 1) := by decide +kernel
theorem dX12_makes_51 : decode cX12_makes 51 = .ok (.getfield 167, 3) := by decide +kernel
theorem dX12_makes_54 : decode cX12_makes 54 = .ok (.iload 4, 2) := by decide +kernel
theorem dX12_makes_56 : decode cX12_makes 56 = .ok (.iload_n 2, 1) := by decide +kernel
theorem dX12_makes_57 : decode cX12_makes 57 = .ok (.iastore, 1) := by decide +kernel
theorem dX12_makes_58 : decode cX12_makes 58 = .ok (.aload_n 0, 1) := by decide +kernel
theorem dX12_makes_59 : decode cX12_makes 59 = .ok (.getfield 170, 3) := by decide +kernel
theorem dX12_makes_62 : decode cX12_makes 62 = .ok (.iload 4, 2) := by decide +kernel
theorem dX12_makes_64 : decode cX12_makes 64 = .ok (.iconst 0, 1) := by decide +kernel
theorem dX12_makes_65 : decode cX12_makes 65 = .ok (.iastore, 1) := by decide +kernel
theorem dX12_makes_66 : decode cX12_makes 66 = .ok (.iconst 0, 1) := by decide +kernel
theorem dX12_makes_67 : decode cX12_makes 67 = .ok (.istore 5, 2) := by decide +kernel
theorem dX12_makes_69 : decode cX12_makes 69 = .ok (.iload 5, 2) := by decide +kernel
theorem dX12_makes_71 : decode cX12_makes 71 = .ok (.bipush 8, 2) := by decide +kernel
theorem dX12_makes_73 : decode cX12_makes 73 = .ok (.if_icmp .ge 23, 3) := by decide +kernel
theorem dX12_makes_96 : decode cX12_makes 96 = .ok (.aload_n 0, 1) := by decide +kernel
theorem dX12_makes_97 : decode cX12_makes 97 = .ok (.iload 4, 2) := by decide +kernel
theorem dX12_makes_99 : decode cX12_makes 99 = .ok (.iload_n 1, 1) := by decide +kernel
theorem dX12_makes_100 : decode cX12_makes 100 = .ok (.iload_n 2, 1) := by decide +kernel
theorem dX12_makes_101 : decode cX12_makes 101 = .ok (.invokevirtual 500, 3) := by decide +kernel
theorem dX12_makes_104 : decode cX12_makes 104 = .ok (.istore 5, 2) := by decide +kernel
theorem dX12_makes_106 : decode cX12_makes 106 = .ok (.iload 5, 2) := by decide +kernel
theorem dX12_makes_108 : decode cX12_makes 108 = .ok (.ifCond .ne 45, 3) := by decide +kernel
theorem dX12_makes_153 : decode cX12_makes 153 = .ok (.iload 5, 2) := by decide +kernel
theorem dX12_makes_155 : decode cX12_makes 155 = .ok (.ifCond .ne 61, 3) := by decide +kernel
theorem dX12_makes_216 : decode cX12_makes 216 = .ok (.aload_n 0, 1) := by decide +kernel
theorem dX12_makes_217 : decode cX12_makes 217 = .ok (.getfield 170, 3) := by decide +kernel
theorem dX12_makes_220 : decode cX12_makes 220 = .ok (.iload 4, 2) := by decide +kernel
theorem dX12_makes_222 : decode cX12_makes 222 = .ok (.iconst 2, 1) := by decide +kernel
theorem dX12_makes_223 : decode cX12_makes 223 = .ok (.iastore, 1) := by decide +kernel
theorem dX12_makes_224 : decode cX12_makes 224 = .ok (.iload 5, 2) := by decide +kernel
theorem dX12_makes_226 : decode cX12_makes 226 = .ok (.iconst 1, 1) := by decide +kernel
theorem dX12_makes_227 : decode cX12_makes 227 = .ok (.if_icmp .ne 46, 3) := by decide +kernel
theorem dX12_makes_273 : decode cX12_makes 273 = .ok (.iload 5, 2) := by decide +kernel
theorem dX12_makes_275 : decode cX12_makes 275 = .ok (.ireturn, 1) := by decide +kernel
theorem dX12_makes_230 : decode cX12_makes 230 = .ok (.iload_n 3, 1) := by decide +kernel
theorem dX12_makes_231 : decode cX12_makes 231 = .ok (.ifCond .ne 42, 3) := by decide +kernel
theorem dX12_makes_234 : decode cX12_makes 234 = .ok (.aload_n 0, 1) := by decide +kernel
theorem dX12_makes_235 : decode cX12_makes 235 = .ok (.getfield 474, 3) := by decide +kernel
theorem dX12_makes_238 : decode cX12_makes 238 = .ok (.bipush 12, 2) := by decide +kernel
theorem dX12_makes_240 : decode cX12_makes 240 = .ok (.if_icmp .eq 33, 3) := by decide +kernel
theorem dX12_makes_243 : decode cX12_makes 243 = .ok (.aload_n 0, 1) := by decide +kernel
theorem dX12_makes_244 : decode cX12_makes 244 = .ok (.getfield 474, 3) := by decide +kernel
theorem dX12_makes_247 : decode cX12_makes 247 = .ok (.bipush 13, 2) := by decide +kernel
theorem dX12_makes_249 : decode cX12_makes 249 = .ok (.if_icmp .eq 24, 3) := by decide +kernel
theorem dX12_makes_252 : decode cX12_makes 252 = .ok (.aload_n 0, 1) := by decide +kernel
theorem dX12_makes_253 : decode cX12_makes 253 = .ok (.getfield 474, 3) := by decide +kernel
theorem dX12_makes_256 : decode cX12_makes 256 = .ok (.bipush 16, 2) := by decide +kernel
theorem dX12_makes_258 : decode cX12_makes 258 = .ok (.if_icmp .eq 15, 3) := by decide +kernel
theorem dX12_makes_261 : decode cX12_makes 261 = .ok (.aload_n 0, 1) := by decide +kernel
theorem dX12_makes_262 : decode cX12_makes 262 = .ok (.getfield 161, 3) := by decide +kernel
theorem dX12_makes_265 : decode cX12_makes 265 = .ok (.bipush 24, 2) := by decide +kernel
theorem dX12_makes_267 : decode cX12_makes 267 = .ok (.iload_n 2, 1) := by decide +kernel
theorem dX12_makes_268 : decode cX12_makes 268 = .ok (.imul, 1) := by decide +kernel
theorem dX12_makes_269 : decode cX12_makes 269 = .ok (.iload_n 1, 1) := by decide +kernel
theorem dX12_makes_270 : decode cX12_makes 270 = .ok (.iadd, 1) := by decide +kernel
theorem dX12_makes_271 : decode cX12_makes 271 = .ok (.iconst 1, 1) := by decide +kernel
theorem dX12_makes_272 : decode cX12_makes 272 = .ok (.bastore, 1) := by decide +kernel
theorem dX12_makes_111 : decode cX12_makes 111 = .ok (.aload_n 0, 1) := by decide +kernel
theorem dX12_makes_112 : decode cX12_makes 112 = .ok (.getfield 101, 3) := by decide +kernel
theorem dX12_makes_115 : decode cX12_makes 115 = .ok (.bipush 24, 2) := by decide +kernel
theorem dX12_makes_117 : decode cX12_makes 117 = .ok (.aload_n 0, 1) := by decide +kernel
theorem dX12_makes_118 : decode cX12_makes 118 = .ok (.getfield 286, 3) := by decide +kernel
theorem dX12_makes_121 : decode cX12_makes 121 = .ok (.imul, 1) := by decide +kernel
theorem dX12_makes_122 : decode cX12_makes 122 = .ok (.iload_n 1, 1) := by decide +kernel
theorem dX12_makes_123 : decode cX12_makes 123 = .ok (.iadd, 1) := by decide +kernel
theorem dX12_makes_124 : decode cX12_makes 124 = .ok (.iaload, 1) := by decide +kernel
theorem dX12_makes_125 : decode cX12_makes 125 = .ok (.ifCond .lt 28, 3) := by decide +kernel
theorem dX12_makes_158 : decode cX12_makes 158 = .ok (.aload_n 0, 1) := by decide +kernel
theorem dX12_makes_159 : decode cX12_makes 159 = .ok (.getfield 170, 3) := by decide +kernel
theorem dX12_makes_162 : decode cX12_makes 162 = .ok (.iload 4, 2) := by decide +kernel
theorem dX12_makes_164 : decode cX12_makes 164 = .ok (.iconst 1, 1) := by decide +kernel
theorem dX12_makes_165 : decode cX12_makes 165 = .ok (.iastore, 1) := by decide +kernel
theorem dX12_makes_166 : decode cX12_makes 166 = .ok (.aload_n 0, 1) := by decide +kernel
theorem dX12_makes_167 : decode cX12_makes 167 = .ok (.getfield 173, 3) := by decide +kernel
theorem dX12_makes_170 : decode cX12_makes 170 = .ok (.iload 4, 2) := by decide +kernel
theorem dX12_makes_172 : decode cX12_makes 172 = .ok (.aload_n 0, 1) := by decide +kernel
theorem dX12_makes_173 : decode cX12_makes 173 = .ok (.getfield 414, 3) := by decide +kernel
theorem dX12_makes_176 : decode cX12_makes 176 = .ok (.iastore, 1) := by decide +kernel
theorem dX12_makes_177 : decode cX12_makes 177 = .ok (.aload_n 0, 1) := by decide +kernel
theorem dX12_makes_178 : decode cX12_makes 178 = .ok (.dup, 1) := by decide +kernel
theorem dX12_makes_179 : decode cX12_makes 179 = .ok (.getfield 414, 3) := by decide +kernel
theorem dX12_makes_182 : decode cX12_makes 182 = .ok (.iconst 1, 1) := by decide +kernel
theorem dX12_makes_183 : decode cX12_makes 183 = .ok (.iadd, 1) := by decide +kernel
theorem dX12_makes_184 : decode cX12_makes 184 = .ok (.putfield 414, 3) := by decide +kernel
theorem dX12_makes_187 : decode cX12_makes 187 = .ok (.aload_n 0, 1) := by decide +kernel
theorem dX12_makes_188 : decode cX12_makes 188 = .ok (.getfield 222, 3) := by decide +kernel
theorem dX12_makes_191 : decode cX12_makes 191 = .ok (.aload_n 0, 1) := by decide +kernel
theorem dX12_makes_192 : decode cX12_makes 192 = .ok (.getfield 507, 3) := by decide +kernel
theorem dX12_makes_195 : decode cX12_makes 195 = .ok (.iload 4, 2) := by decide +kernel
theorem dX12_makes_197 : decode cX12_makes 197 = .ok (.iastore, 1) := by decide +kernel
theorem dX12_makes_198 : decode cX12_makes 198 = .ok (.aload_n 0, 1) := by decide +kernel
theorem dX12_makes_199 : decode cX12_makes 199 = .ok (.dup, 1) := by decide +kernel
theorem dX12_makes_200 : decode cX12_makes 200 = .ok (.getfield 507, 3) := by decide +kernel
theorem dX12_makes_203 : decode cX12_makes 203 = .ok (.iconst 1, 1) := by decide +kernel
theorem dX12_makes_204 : decode cX12_makes 204 = .ok (.iadd, 1) := by decide +kernel
theorem dX12_makes_205 : decode cX12_makes 205 = .ok (.putfield 507, 3) := by decide +kernel
theorem dX12_makes_208 : decode cX12_makes 208 = .ok (.aload_n 0, 1) := by decide +kernel
theorem dX12_makes_209 : decode cX12_makes 209 = .ok (.iload 4, 2) := by decide +kernel
theorem dX12_makes_211 : decode cX12_makes 211 = .ok (.putfield 490, 3) := by decide +kernel
theorem dX12_makes_214 : decode cX12_makes 214 = .ok (.iconst 0, 1) := by decide +kernel
theorem dX12_makes_215 : decode cX12_makes 215 = .ok (.ireturn, 1) := by decide +kernel
theorem dX12_makes_128 : decode cX12_makes 128 = .ok (.aload_n 0, 1) := by decide +kernel
theorem dX12_makes_129 : decode cX12_makes 129 = .ok (.aload_n 0, 1) := by decide +kernel
theorem dX12_makes_130 : decode cX12_makes 130 = .ok (.getfield 101, 3) := by decide +kernel
theorem dX12_makes_133 : decode cX12_makes 133 = .ok (.bipush 24, 2) := by decide +kernel
theorem dX12_makes_135 : decode cX12_makes 135 = .ok (.aload_n 0, 1) := by decide +kernel
theorem dX12_makes_136 : decode cX12_makes 136 = .ok (.getfield 286, 3) := by decide +kernel
theorem dX12_makes_139 : decode cX12_makes 139 = .ok (.imul, 1) := by decide +kernel
theorem dX12_makes_140 : decode cX12_makes 140 = .ok (.iload_n 1, 1) := by decide +kernel
theorem dX12_makes_141 : decode cX12_makes 141 = .ok (.iadd, 1) := by decide +kernel
theorem dX12_makes_142 : decode cX12_makes 142 = .ok (.iaload, 1) := by decide +kernel
theorem dX12_makes_143 : decode cX12_makes 143 = .ok (.iload 4, 2) := by decide +kernel
theorem dX12_makes_145 : decode cX12_makes 145 = .ok (.iload_n 2, 1) := by decide +kernel
theorem dX12_makes_146 : decode cX12_makes 146 = .ok (.iconst 0, 1) := by decide +kernel
theorem dX12_makes_147 : decode cX12_makes 147 = .ok (.iconst (-1), 1) := by decide +kernel
theorem dX12_makes_148 : decode cX12_makes 148 = .ok (.invokevirtual 503, 3) := by decide +kernel
theorem dX12_makes_151 : decode cX12_makes 151 = .ok (.istore 5, 2) := by decide +kernel
theorem dX12_makes_76 : decode cX12_makes 76 = .ok (.aload_n 0, 1) := by decide +kernel
theorem dX12_makes_77 : decode cX12_makes 77 = .ok (.getfield 176, 3) := by decide +kernel
theorem dX12_makes_80 : decode cX12_makes 80 = .ok (.bipush 8, 2) := by decide +kernel
theorem dX12_makes_82 : decode cX12_makes 82 = .ok (.iload 4, 2) := by decide +kernel
theorem dX12_makes_84 : decode cX12_makes 84 = .ok (.imul, 1) := by decide +kernel
theorem dX12_makes_85 : decode cX12_makes 85 = .ok (.iload 5, 2) := by decide +kernel
theorem dX12_makes_87 : decode cX12_makes 87 = .ok (.iadd, 1) := by decide +kernel
theorem dX12_makes_88 : decode cX12_makes 88 = .ok (.iconst 0, 1) := by decide +kernel
theorem dX12_makes_89 : decode cX12_makes 89 = .ok (.iastore, 1) := by decide +kernel
theorem dX12_makes_90 : decode cX12_makes 90 = .ok (.iinc 5 1, 3) := by decide +kernel
theorem dX12_makes_93 : decode cX12_makes 93 = .ok (.goto (-24), 3) := by decide +kernel
theorem dX12_makes_19 : decode cX12_makes 19 = .ok (.aload_n 0, 1) := by decide +kernel
theorem dX12_makes_20 : decode cX12_makes 20 = .ok (.bipush 16, 2) := by decide +kernel
theorem dX12_makes_22 : decode cX12_makes 22 = .ok (.invokevirtual 484, 3) := by decide +kernel
theorem dX12_makes_25 : decode cX12_makes 25 = .ok (.ireturn, 1) := by decide +kernel
theorem dX12_makes_7 : decode cX12_makes 7 = .ok (.iconst 2, 1) := by decide +kernel
theorem dX12_makes_8 : decode cX12_makes 8 = .ok (.ireturn, 1) := by decide +kernel
abbrev q_s_joinsAll (D : va_G) (ks : KS) (ad : Nat → Nat) (kk : Nat → ClassId) (V : Vf) (L : Lf) (p0 : Int32) (p1 : Int32) (p2 : Int32) (A : Nat → Prop) : Array Value → State → Outcome → State → Prop := va_Qi (fun (r : Int32) (u : Vf × Lf) => rgd bM u.1 ∧ agr [(0, 60), (0, 65), (0, 68), (0, 69), (0, 73), (0, 76), (0, 90), (0, 91), (0, 92), (0, 93), (0, 95), (0, 96), (0, 98)] [59, 61, 62, 63, 64, 66, 67, 74, 75, 77, 78, 79, 80, 94, 97] V u.1 ∧ u.2 = L ∧ (0 ≤ r.toInt ∧ r.toInt ≤ 2) ∧ ((u.1 0 93).toInt = (V 0 93).toInt) ∧ ((u.1 0 98).toInt = (V 0 98).toInt) ∧ ((V 0 60).toInt ≤ (u.1 0 60).toInt) ∧ ((V 0 65).toInt ≤ (u.1 0 65).toInt) ∧ ((u.1 0 65).toInt - (V 0 65).toInt ≤ (u.1 0 60).toInt - (V 0 60).toInt) ∧ ((u.1 0 73).toInt + (u.1 0 95).toInt - (u.1 0 65).toInt ≤ (V 0 73).toInt + (V 0 95).toInt - (V 0 65).toInt) ∧ ((V 0 73).toInt ≤ (u.1 0 73).toInt) ∧ ((V 0 69).toInt ≤ (u.1 0 69).toInt) ∧ ((V 0 95).toInt ≤ (u.1 0 95).toInt) ∧ ((u.1 0 95).toInt - (V 0 95).toInt ≤ (u.1 0 65).toInt - (V 0 65).toInt) ∧ ((u.1 0 76).toInt - (u.1 0 69).toInt - (u.1 0 73).toInt ≤ (V 0 76).toInt - (V 0 69).toInt - (V 0 73).toInt) ∧ (RT u.1) ∧ (FRM V u.1 p0.toInt)) (fun u t => gq D A (mw ad kk ks.1 u.1 u.2) (mty kk) t) A
def K_s_joinsAll (l : Launch) (D : va_G) (ks : KS) (d1 d2 : Nat) : Prop := ∀ (sz : Nat) (ad : Nat → Nat) (kk : Nat → ClassId) (V : Vf) (L : Lf) (p0 : Int32) (p1 : Int32) (p2 : Int32) (hMV : rgd bM V) (rg_p0 : 0 ≤ p0.toInt ∧ p0.toInt ≤ 299) (rg_p1 : 0 ≤ p1.toInt ∧ p1.toInt ≤ 23) (rg_p2 : 0 ≤ p2.toInt ∧ p2.toInt ≤ 39) (rt : RT V) (n1 : (V 0 65).toInt ≤ (V 0 60).toInt) (n2 : (V 0 95).toInt ≤ (V 0 65).toInt) (n3 : (V 0 73).toInt + (V 0 95).toInt - (V 0 65).toInt ≤ 999000) (n4 : (V 0 76).toInt - (V 0 69).toInt - (V 0 73).toInt ≤ 1000000000) (n5 : 300 - (V 0 60).toInt ≤ (d1 : Int)) (n6 : 10 - (V 0 93).toInt ≤ (d2 : Int)) (oq1 : p0.toInt < (V 0 60).toInt) (n7 : (V 0 98).toInt + 400 * (d2 : Int) + 30 ≤ 19000) (tq : th V (Int32.toNatClampNeg p1)) (ob : (V 61 (Int32.toNatClampNeg p0)).toInt = p1.toInt) (jz : JZ V V (Int32.toNatClampNeg p1) (Int32.toNatClampNeg p0) 0) , Met l yX12_joinsAll (Cond.code yX12_joinsAll cX12_joinsAll 8 (some .int) :: GW) (rK2 (4 * d1 + 40 * d2 + 16) (100 * d1 + 1000 * d2 + 620)) (va_Pc [.ref (ad 0), .int p0, .int p1, .int p2] (gp D ks (mw ad kk ks.1 V L) (mty kk) sz)) (q_s_joinsAll D ks ad kk V L p0 p1 p2 (va_A (mw ad kk ks.1 V L) sz)) 0 0 (va_A (mw ad kk ks.1 V L) sz)