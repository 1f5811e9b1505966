/-! DISSONANCE -/
def cons (k : Int) : Prop := k = 0 ∨ k = 3 ∨ k = 4 ∨ k = 7 ∨ k = 8 ∨ k = 9
def fop (c : Wo) (t : Int) : Prop := ∃ v, v < 4 ∧ hso c v t ∧ cpt c v t = 1001
def flo (c : Wo) (a b : Nat) (t : Int) : Prop := ∃ v, v < 4 ∧ hso c v t ∧ ¬ v = a ∧ ¬ v = b ∧ cpt c v t < cpt c a t ∧ cpt c v t < cpt c b t
def lakI (c : Wo) (v : Nat) (t : Int) : Int := if (c (3 + v) 0 = 1 ∧ csk c v t = 1) ∧ (ob c v t = 1000 ∨ nb c v t = 1000) then 1 else 0
def opnI (c : Wo) (v : Nat) (t : Int) : Int := if (c (3 + v) 0 = 1 ∧ csk c v t = 1) ∧ gst (cpt c v t) (ob c v t) (nb c v t) = 2 then 1 else 0
def nstI (c : Wo) (v : Nat) (t : Int) : Int := if (c (3 + v) 0 = 1 ∧ csk c v t = 1) ∧ gst (cpt c v t) (ob c v t) (nb c v t) = 0 then 1 else 0
def dis (c : Wo) (a b : Nat) (t : Int) : Prop := ¬ cons (gp (cpt c a t) (cpt c b t)) ∧ (gp (cpt c a t) (cpt c b t) = 5 → ¬ fop c t ∧ ¬ flo c a b t) ∧ (ziand (c 0 5) 8 = 0 ∨ t % c 0 4 = 0 ∨ max (lakI c a t) (lakI c b t) = 1 ∨ (max (opnI c a t) (opnI c b t) = 0 ∧ max (nstI c a t) (nstI c b t) = 1))
def lkf (A B : Int) (k : Nat) : Int := if k = 0 then 0 else if k = 1 then A else max A B
theorem lkf_step {A B X : Int} {k : Nat} (hX : (k = 0 ∧ X = A) ∨ (k = 1 ∧ X = B)) (hA : 0 ≤ A) : lkf A B (k + 1) = max (lkf A B k) X := by
  rcases hX with ⟨rfl, rfl⟩ | ⟨rfl, rfl⟩
  · show X = max 0 X
    omega
  · rfl
theorem lkf_2 (A B : Int) : lkf A B 2 = max A B := rfl
theorem lkf_b {A B : Int} (hA : 0 ≤ A ∧ A ≤ 1) (hB : 0 ≤ B ∧ B ≤ 1) (k : Nat) : 0 ≤ lkf A B k ∧ lkf A B k ≤ 1 := by
  unfold lkf
  split
  · omega
  · split <;> omega
section IND
variable (c : Wo) (v : Nat) (t : Int)
theorem lakI_b : 0 ≤ lakI c v t ∧ lakI c v t ≤ 1 := by
  unfold lakI
  split <;> omega
theorem opnI_b : 0 ≤ opnI c v t ∧ opnI c v t ≤ 1 := by
  unfold opnI
  split <;> omega
theorem nstI_b : 0 ≤ nstI c v t ∧ nstI c v t ≤ 1 := by
  unfold nstI
  split <;> omega
end IND
theorem ind_no {c : Wo} {v : Nat} {t : Int} (h : ¬ (c (3 + v) 0 = 1 ∧ csk c v t = 1)) : lakI c v t = 0 ∧ opnI c v t = 0 ∧ nstI c v t = 0 := by
  unfold lakI opnI nstI
  rw [if_neg (fun z => h z.1), if_neg (fun z => h z.1), if_neg (fun z => h z.1)]
  exact ⟨rfl, rfl, rfl⟩
theorem ind_yes {c : Wo} {v : Nat} {t : Int} (h : c (3 + v) 0 = 1 ∧ csk c v t = 1) : lakI c v t = (if ob c v t = 1000 ∨ nb c v t = 1000 then 1 else 0) ∧ opnI c v t = (if gst (cpt c v t) (ob c v t) (nb c v t) = 2 then 1 else 0) ∧ nstI c v t = (if gst (cpt c v t) (ob c v t) (nb c v t) = 0 then 1 else 0) := by
  unfold lakI opnI nstI
  refine ⟨?_, ?_, ?_⟩
  · by_cases e : ob c v t = 1000 ∨ nb c v t = 1000
    · rw [if_pos ⟨h, e⟩, if_pos e]
    · rw [if_neg (fun z => e z.2), if_neg e]
  · by_cases e : gst (cpt c v t) (ob c v t) (nb c v t) = 2
    · rw [if_pos ⟨h, e⟩, if_pos e]
    · rw [if_neg (fun z => e z.2), if_neg e]
  · by_cases e : gst (cpt c v t) (ob c v t) (nb c v t) = 0
    · rw [if_pos ⟨h, e⟩, if_pos e]
    · rw [if_neg (fun z => e z.2), if_neg e]
theorem gst_b (p o n : Int) : 0 ≤ gst p o n ∧ gst p o n ≤ 2 := by
  unfold gst
  split
  · omega
  · split
    · omega
    · split <;> omega

-- CanonMakerModel.isDissonant(III)Z
theorem d_Mo_isDissonant_0 : decode prog_9_method_28_code 0 = .ok (.aload_n 0, 1) := by decide +kernel
theorem d_Mo_isDissonant_1 : decode prog_9_method_28_code 1 = .ok (.getfield 42, 3) := by decide +kernel
theorem d_Mo_isDissonant_4 : decode prog_9_method_28_code 4 = .ok (.sipush 1300, 3) := by decide +kernel
theorem d_Mo_isDissonant_7 : decode prog_9_method_28_code 7 = .ok (.iload_n 1, 1) := by decide +kernel
theorem d_Mo_isDissonant_8 : decode prog_9_method_28_code 8 = .ok (.imul, 1) := by decide +kernel
theorem d_Mo_isDissonant_9 : decode prog_9_method_28_code 9 = .ok (.iload_n 3, 1) := by decide +kernel
theorem d_Mo_isDissonant_10 : decode prog_9_method_28_code 10 = .ok (.iadd, 1) := by decide +kernel
theorem d_Mo_isDissonant_11 : decode prog_9_method_28_code 11 = .ok (.iaload, 1) := by decide +kernel
theorem d_Mo_isDissonant_12 : decode prog_9_method_28_code 12 = .ok (.istore 4, 2) := by decide +kernel
theorem d_Mo_isDissonant_14 : decode prog_9_method_28_code 14 = .ok (.aload_n 0, 1) := by decide +kernel
theorem d_Mo_isDissonant_15 : decode prog_9_method_28_code 15 = .ok (.getfield 42, 3) := by decide +kernel
theorem d_Mo_isDissonant_18 : decode prog_9_method_28_code 18 = .ok (.sipush 1300, 3) := by decide +kernel
theorem d_Mo_isDissonant_21 : decode prog_9_method_28_code 21 = .ok (.iload_n 2, 1) := by decide +kernel
theorem d_Mo_isDissonant_22 : decode prog_9_method_28_code 22 = .ok (.imul, 1) := by decide +kernel
theorem d_Mo_isDissonant_23 : decode prog_9_method_28_code 23 = .ok (.iload_n 3, 1) := by decide +kernel
theorem d_Mo_isDissonant_24 : decode prog_9_method_28_code 24 = .ok (.iadd, 1) := by decide +kernel
theorem d_Mo_isDissonant_25 : decode prog_9_method_28_code 25 = .ok (.iaload, 1) := by decide +kernel
theorem d_Mo_isDissonant_26 : decode prog_9_method_28_code 26 = .ok (.istore 5, 2) := by decide +kernel
theorem d_Mo_isDissonant_28 : decode prog_9_method_28_code 28 = .ok (.iload 4, 2) := by decide +kernel
theorem d_Mo_isDissonant_30 : decode prog_9_method_28_code 30 = .ok (.iload 5, 2) := by decide +kernel
theorem d_Mo_isDissonant_32 : decode prog_9_method_28_code 32 = .ok (.invokestatic 111, 3) := by decide +kernel
theorem d_Mo_isDissonant_35 : decode prog_9_method_28_code 35 = .ok (.istore 6, 2) := by decide +kernel
theorem d_Mo_isDissonant_37 : decode prog_9_method_28_code 37 = .ok (.iload 6, 2) := by decide +kernel
theorem d_Mo_isDissonant_39 : decode prog_9_method_28_code 39 = .ok (.ifCond .eq 36, 3) := by decide +kernel
theorem d_Mo_isDissonant_42 : decode prog_9_method_28_code 42 = .ok (.iload 6, 2) := by decide +kernel
theorem d_Mo_isDissonant_44 : decode prog_9_method_28_code 44 = .ok (.iconst 3, 1) := by decide +kernel
theorem d_Mo_isDissonant_45 : decode prog_9_method_28_code 45 = .ok (.if_icmp .eq 30, 3) := by decide +kernel
theorem d_Mo_isDissonant_48 : decode prog_9_method_28_code 48 = .ok (.iload 6, 2) := by decide +kernel
theorem d_Mo_isDissonant_50 : decode prog_9_method_28_code 50 = .ok (.iconst 4, 1) := by decide +kernel
theorem d_Mo_isDissonant_51 : decode prog_9_method_28_code 51 = .ok (.if_icmp .eq 24, 3) := by decide +kernel
theorem d_Mo_isDissonant_54 : decode prog_9_method_28_code 54 = .ok (.iload 6, 2) := by decide +kernel
theorem d_Mo_isDissonant_56 : decode prog_9_method_28_code 56 = .ok (.bipush 7, 2) := by decide +kernel
theorem d_Mo_isDissonant_58 : decode prog_9_method_28_code 58 = .ok (.if_icmp .eq 17, 3) := by decide +kernel
theorem d_Mo_isDissonant_61 : decode prog_9_method_28_code 61 = .ok (.iload 6, 2) := by decide +kernel
theorem d_Mo_isDissonant_63 : decode prog_9_method_28_code 63 = .ok (.bipush 8, 2) := by decide +kernel
theorem d_Mo_isDissonant_65 : decode prog_9_method_28_code 65 = .ok (.if_icmp .eq 10, 3) := by decide +kernel
theorem d_Mo_isDissonant_68 : decode prog_9_method_28_code 68 = .ok (.iload 6, 2) := by decide +kernel
theorem d_Mo_isDissonant_70 : decode prog_9_method_28_code 70 = .ok (.bipush 9, 2) := by decide +kernel
theorem d_Mo_isDissonant_72 : decode prog_9_method_28_code 72 = .ok (.if_icmp .ne 5, 3) := by decide +kernel
theorem d_Mo_isDissonant_75 : decode prog_9_method_28_code 75 = .ok (.iconst 0, 1) := by decide +kernel
theorem d_Mo_isDissonant_76 : decode prog_9_method_28_code 76 = .ok (.ireturn, 1) := by decide +kernel
theorem d_Mo_isDissonant_77 : decode prog_9_method_28_code 77 = .ok (.iload 6, 2) := by decide +kernel
theorem d_Mo_isDissonant_79 : decode prog_9_method_28_code 79 = .ok (.iconst 5, 1) := by decide +kernel
theorem d_Mo_isDissonant_80 : decode prog_9_method_28_code 80 = .ok (.if_icmp .ne 117, 3) := by decide +kernel
theorem d_Mo_isDissonant_83 : decode prog_9_method_28_code 83 = .ok (.iconst 0, 1) := by decide +kernel
theorem d_Mo_isDissonant_84 : decode prog_9_method_28_code 84 = .ok (.istore 7, 2) := by decide +kernel
theorem d_Mo_isDissonant_86 : decode prog_9_method_28_code 86 = .ok (.iload 7, 2) := by decide +kernel
theorem d_Mo_isDissonant_88 : decode prog_9_method_28_code 88 = .ok (.iconst 4, 1) := by decide +kernel
theorem d_Mo_isDissonant_89 : decode prog_9_method_28_code 89 = .ok (.if_icmp .ge 40, 3) := by decide +kernel
theorem d_Mo_isDissonant_92 : decode prog_9_method_28_code 92 = .ok (.aload_n 0, 1) := by decide +kernel
theorem d_Mo_isDissonant_93 : decode prog_9_method_28_code 93 = .ok (.iload 7, 2) := by decide +kernel
theorem d_Mo_isDissonant_95 : decode prog_9_method_28_code 95 = .ok (.iload_n 3, 1) := by decide +kernel
theorem d_Mo_isDissonant_96 : decode prog_9_method_28_code 96 = .ok (.invokevirtual 114, 3) := by decide +kernel
theorem d_Mo_isDissonant_99 : decode prog_9_method_28_code 99 = .ok (.ifCond .eq 24, 3) := by decide +kernel
theorem d_Mo_isDissonant_102 : decode prog_9_method_28_code 102 = .ok (.aload_n 0, 1) := by decide +kernel
theorem d_Mo_isDissonant_103 : decode prog_9_method_28_code 103 = .ok (.getfield 42, 3) := by decide +kernel
theorem d_Mo_isDissonant_106 : decode prog_9_method_28_code 106 = .ok (.sipush 1300, 3) := by decide +kernel
theorem d_Mo_isDissonant_109 : decode prog_9_method_28_code 109 = .ok (.iload 7, 2) := by decide +kernel
theorem d_Mo_isDissonant_111 : decode prog_9_method_28_code 111 = .ok (.imul, 1) := by decide +kernel
theorem d_Mo_isDissonant_112 : decode prog_9_method_28_code 112 = .ok (.iload_n 3, 1) := by decide +kernel
theorem d_Mo_isDissonant_113 : decode prog_9_method_28_code 113 = .ok (.iadd, 1) := by decide +kernel
theorem d_Mo_isDissonant_114 : decode prog_9_method_28_code 114 = .ok (.iaload, 1) := by decide +kernel
theorem d_Mo_isDissonant_115 : decode prog_9_method_28_code 115 = .ok (.sipush 1001, 3) := by decide +kernel
theorem d_Mo_isDissonant_118 : decode prog_9_method_28_code 118 = .ok (.if_icmp .ne 5, 3) := by decide +kernel
theorem d_Mo_isDissonant_121 : decode prog_9_method_28_code 121 = .ok (.iconst 0, 1) := by decide +kernel
theorem d_Mo_isDissonant_122 : decode prog_9_method_28_code 122 = .ok (.ireturn, 1) := by decide +kernel
theorem d_Mo_isDissonant_123 : decode prog_9_method_28_code 123 = .ok (.iinc 7 1, 3) := by decide +kernel
theorem d_Mo_isDissonant_126 : decode prog_9_method_28_code 126 = .ok (.goto (-40), 3) := by decide +kernel
theorem d_Mo_isDissonant_129 : decode prog_9_method_28_code 129 = .ok (.iconst 0, 1) := by decide +kernel
theorem d_Mo_isDissonant_130 : decode prog_9_method_28_code 130 = .ok (.istore 7, 2) := by decide +kernel
theorem d_Mo_isDissonant_132 : decode prog_9_method_28_code 132 = .ok (.iload 7, 2) := by decide +kernel
theorem d_Mo_isDissonant_134 : decode prog_9_method_28_code 134 = .ok (.iconst 4, 1) := by decide +kernel
theorem d_Mo_isDissonant_135 : decode prog_9_method_28_code 135 = .ok (.if_icmp .ge 62, 3) := by decide +kernel
theorem d_Mo_isDissonant_138 : decode prog_9_method_28_code 138 = .ok (.aload_n 0, 1) := by decide +kernel
theorem d_Mo_isDissonant_139 : decode prog_9_method_28_code 139 = .ok (.getfield 42, 3) := by decide +kernel
theorem d_Mo_isDissonant_142 : decode prog_9_method_28_code 142 = .ok (.sipush 1300, 3) := by decide +kernel
theorem d_Mo_isDissonant_145 : decode prog_9_method_28_code 145 = .ok (.iload 7, 2) := by decide +kernel
theorem d_Mo_isDissonant_147 : decode prog_9_method_28_code 147 = .ok (.imul, 1) := by decide +kernel
theorem d_Mo_isDissonant_148 : decode prog_9_method_28_code 148 = .ok (.iload_n 3, 1) := by decide +kernel
theorem d_Mo_isDissonant_149 : decode prog_9_method_28_code 149 = .ok (.iadd, 1) := by decide +kernel
theorem d_Mo_isDissonant_150 : decode prog_9_method_28_code 150 = .ok (.iaload, 1) := by decide +kernel
theorem d_Mo_isDissonant_151 : decode prog_9_method_28_code 151 = .ok (.istore 8, 2) := by decide +kernel
theorem d_Mo_isDissonant_153 : decode prog_9_method_28_code 153 = .ok (.aload_n 0, 1) := by decide +kernel
theorem d_Mo_isDissonant_154 : decode prog_9_method_28_code 154 = .ok (.iload 7, 2) := by decide +kernel
theorem d_Mo_isDissonant_156 : decode prog_9_method_28_code 156 = .ok (.iload_n 3, 1) := by decide +kernel
theorem d_Mo_isDissonant_157 : decode prog_9_method_28_code 157 = .ok (.invokevirtual 114, 3) := by decide +kernel
theorem d_Mo_isDissonant_160 : decode prog_9_method_28_code 160 = .ok (.ifCond .eq 31, 3) := by decide +kernel
theorem d_Mo_isDissonant_163 : decode prog_9_method_28_code 163 = .ok (.iload 7, 2) := by decide +kernel
theorem d_Mo_isDissonant_165 : decode prog_9_method_28_code 165 = .ok (.iload_n 1, 1) := by decide +kernel
theorem d_Mo_isDissonant_166 : decode prog_9_method_28_code 166 = .ok (.if_icmp .eq 25, 3) := by decide +kernel
theorem d_Mo_isDissonant_169 : decode prog_9_method_28_code 169 = .ok (.iload 7, 2) := by decide +kernel
theorem d_Mo_isDissonant_171 : decode prog_9_method_28_code 171 = .ok (.iload_n 2, 1) := by decide +kernel
theorem d_Mo_isDissonant_172 : decode prog_9_method_28_code 172 = .ok (.if_icmp .eq 19, 3) := by decide +kernel
theorem d_Mo_isDissonant_175 : decode prog_9_method_28_code 175 = .ok (.iload 8, 2) := by decide +kernel
theorem d_Mo_isDissonant_177 : decode prog_9_method_28_code 177 = .ok (.iload 4, 2) := by decide +kernel
theorem d_Mo_isDissonant_179 : decode prog_9_method_28_code 179 = .ok (.if_icmp .ge 12, 3) := by decide +kernel
theorem d_Mo_isDissonant_182 : decode prog_9_method_28_code 182 = .ok (.iload 8, 2) := by decide +kernel
theorem d_Mo_isDissonant_184 : decode prog_9_method_28_code 184 = .ok (.iload 5, 2) := by decide +kernel
theorem d_Mo_isDissonant_186 : decode prog_9_method_28_code 186 = .ok (.if_icmp .ge 5, 3) := by decide +kernel
theorem d_Mo_isDissonant_189 : decode prog_9_method_28_code 189 = .ok (.iconst 0, 1) := by decide +kernel
theorem d_Mo_isDissonant_190 : decode prog_9_method_28_code 190 = .ok (.ireturn, 1) := by decide +kernel
theorem d_Mo_isDissonant_191 : decode prog_9_method_28_code 191 = .ok (.iinc 7 1, 3) := by decide +kernel
theorem d_Mo_isDissonant_194 : decode prog_9_method_28_code 194 = .ok (.goto (-62), 3) := by decide +kernel
theorem d_Mo_isDissonant_197 : decode prog_9_method_28_code 197 = .ok (.aload_n 0, 1) := by decide +kernel
theorem d_Mo_isDissonant_198 : decode prog_9_method_28_code 198 = .ok (.getfield 75, 3) := by decide +kernel
theorem d_Mo_isDissonant_201 : decode prog_9_method_28_code 201 = .ok (.bipush 8, 2) := by decide +kernel
theorem d_Mo_isDissonant_203 : decode prog_9_method_28_code 203 = .ok (.iand, 1) := by decide +kernel
theorem d_Mo_isDissonant_204 : decode prog_9_method_28_code 204 = .ok (.ifCond .eq 12, 3) := by decide +kernel
theorem d_Mo_isDissonant_207 : decode prog_9_method_28_code 207 = .ok (.iload_n 3, 1) := by decide +kernel
theorem d_Mo_isDissonant_208 : decode prog_9_method_28_code 208 = .ok (.aload_n 0, 1) := by decide +kernel
theorem d_Mo_isDissonant_209 : decode prog_9_method_28_code 209 = .ok (.getfield 39, 3) := by decide +kernel
theorem d_Mo_isDissonant_212 : decode prog_9_method_28_code 212 = .ok (.irem, 1) := by decide +kernel
theorem d_Mo_isDissonant_213 : decode prog_9_method_28_code 213 = .ok (.ifCond .ne 5, 3) := by decide +kernel
theorem d_Mo_isDissonant_216 : decode prog_9_method_28_code 216 = .ok (.iconst 1, 1) := by decide +kernel
theorem d_Mo_isDissonant_217 : decode prog_9_method_28_code 217 = .ok (.ireturn, 1) := by decide +kernel
theorem d_Mo_isDissonant_218 : decode prog_9_method_28_code 218 = .ok (.iconst 0, 1) := by decide +kernel
theorem d_Mo_isDissonant_219 : decode prog_9_method_28_code 219 = .ok (.istore 7, 2) := by decide +kernel
theorem d_Mo_isDissonant_221 : decode prog_9_method_28_code 221 = .ok (.iconst 0, 1) := by decide +kernel
theorem d_Mo_isDissonant_222 : decode prog_9_method_28_code 222 = .ok (.istore 8, 2) := by decide +kernel
theorem d_Mo_isDissonant_224 : decode prog_9_method_28_code 224 = .ok (.iconst 0, 1) := by decide +kernel
theorem d_Mo_isDissonant_225 : decode prog_9_method_28_code 225 = .ok (.istore 9, 2) := by decide +kernel
theorem d_Mo_isDissonant_227 : decode prog_9_method_28_code 227 = .ok (.iconst 0, 1) := by decide +kernel
theorem d_Mo_isDissonant_228 : decode prog_9_method_28_code 228 = .ok (.istore 10, 2) := by decide +kernel
theorem d_Mo_isDissonant_230 : decode prog_9_method_28_code 230 = .ok (.iload 10, 2) := by decide +kernel
theorem d_Mo_isDissonant_232 : decode prog_9_method_28_code 232 = .ok (.iconst 2, 1) := by decide +kernel
theorem d_Mo_isDissonant_233 : decode prog_9_method_28_code 233 = .ok (.if_icmp .ge 116, 3) := by decide +kernel
theorem d_Mo_isDissonant_236 : decode prog_9_method_28_code 236 = .ok (.iload 10, 2) := by decide +kernel
theorem d_Mo_isDissonant_238 : decode prog_9_method_28_code 238 = .ok (.ifCond .ne 7, 3) := by decide +kernel
theorem d_Mo_isDissonant_241 : decode prog_9_method_28_code 241 = .ok (.iload_n 1, 1) := by decide +kernel
theorem d_Mo_isDissonant_242 : decode prog_9_method_28_code 242 = .ok (.goto 4, 3) := by decide +kernel
theorem d_Mo_isDissonant_245 : decode prog_9_method_28_code 245 = .ok (.iload_n 2, 1) := by decide +kernel
theorem d_Mo_isDissonant_246 : decode prog_9_method_28_code 246 = .ok (.istore 11, 2) := by decide +kernel
theorem d_Mo_isDissonant_248 : decode prog_9_method_28_code 248 = .ok (.aload_n 0, 1) := by decide +kernel
theorem d_Mo_isDissonant_249 : decode prog_9_method_28_code 249 = .ok (.iload 11, 2) := by decide +kernel
theorem d_Mo_isDissonant_251 : decode prog_9_method_28_code 251 = .ok (.iload_n 3, 1) := by decide +kernel
theorem d_Mo_isDissonant_252 : decode prog_9_method_28_code 252 = .ok (.invokevirtual 103, 3) := by decide +kernel
theorem d_Mo_isDissonant_255 : decode prog_9_method_28_code 255 = .ok (.ifCond .eq 88, 3) := by decide +kernel
theorem d_Mo_isDissonant_258 : decode prog_9_method_28_code 258 = .ok (.iload 7, 2) := by decide +kernel
theorem d_Mo_isDissonant_260 : decode prog_9_method_28_code 260 = .ok (.ifCond .ne 31, 3) := by decide +kernel
theorem d_Mo_isDissonant_263 : decode prog_9_method_28_code 263 = .ok (.aload_n 0, 1) := by decide +kernel
theorem d_Mo_isDissonant_264 : decode prog_9_method_28_code 264 = .ok (.iload 11, 2) := by decide +kernel
theorem d_Mo_isDissonant_266 : decode prog_9_method_28_code 266 = .ok (.iload_n 3, 1) := by decide +kernel
theorem d_Mo_isDissonant_267 : decode prog_9_method_28_code 267 = .ok (.iconst (-1), 1) := by decide +kernel
theorem d_Mo_isDissonant_268 : decode prog_9_method_28_code 268 = .ok (.invokevirtual 107, 3) := by decide +kernel
theorem d_Mo_isDissonant_271 : decode prog_9_method_28_code 271 = .ok (.sipush 1000, 3) := by decide +kernel
theorem d_Mo_isDissonant_274 : decode prog_9_method_28_code 274 = .ok (.if_icmp .eq 17, 3) := by decide +kernel
theorem d_Mo_isDissonant_277 : decode prog_9_method_28_code 277 = .ok (.aload_n 0, 1) := by decide +kernel
theorem d_Mo_isDissonant_278 : decode prog_9_method_28_code 278 = .ok (.iload 11, 2) := by decide +kernel
theorem d_Mo_isDissonant_280 : decode prog_9_method_28_code 280 = .ok (.iload_n 3, 1) := by decide +kernel
theorem d_Mo_isDissonant_281 : decode prog_9_method_28_code 281 = .ok (.iconst 1, 1) := by decide +kernel
theorem d_Mo_isDissonant_282 : decode prog_9_method_28_code 282 = .ok (.invokevirtual 107, 3) := by decide +kernel
theorem d_Mo_isDissonant_285 : decode prog_9_method_28_code 285 = .ok (.sipush 1000, 3) := by decide +kernel
theorem d_Mo_isDissonant_288 : decode prog_9_method_28_code 288 = .ok (.if_icmp .ne 7, 3) := by decide +kernel
theorem d_Mo_isDissonant_291 : decode prog_9_method_28_code 291 = .ok (.iconst 1, 1) := by decide +kernel
theorem d_Mo_isDissonant_292 : decode prog_9_method_28_code 292 = .ok (.goto 4, 3) := by decide +kernel
theorem d_Mo_isDissonant_295 : decode prog_9_method_28_code 295 = .ok (.iconst 0, 1) := by decide +kernel
theorem d_Mo_isDissonant_296 : decode prog_9_method_28_code 296 = .ok (.istore 7, 2) := by decide +kernel
theorem d_Mo_isDissonant_298 : decode prog_9_method_28_code 298 = .ok (.iload 9, 2) := by decide +kernel
theorem d_Mo_isDissonant_300 : decode prog_9_method_28_code 300 = .ok (.ifCond .ne 14, 3) := by decide +kernel
theorem d_Mo_isDissonant_303 : decode prog_9_method_28_code 303 = .ok (.aload_n 0, 1) := by decide +kernel
theorem d_Mo_isDissonant_304 : decode prog_9_method_28_code 304 = .ok (.iload 11, 2) := by decide +kernel
theorem d_Mo_isDissonant_306 : decode prog_9_method_28_code 306 = .ok (.iload_n 3, 1) := by decide +kernel
theorem d_Mo_isDissonant_307 : decode prog_9_method_28_code 307 = .ok (.invokevirtual 117, 3) := by decide +kernel
theorem d_Mo_isDissonant_310 : decode prog_9_method_28_code 310 = .ok (.iconst 2, 1) := by decide +kernel
theorem d_Mo_isDissonant_311 : decode prog_9_method_28_code 311 = .ok (.if_icmp .ne 7, 3) := by decide +kernel
theorem d_Mo_isDissonant_314 : decode prog_9_method_28_code 314 = .ok (.iconst 1, 1) := by decide +kernel
theorem d_Mo_isDissonant_315 : decode prog_9_method_28_code 315 = .ok (.goto 4, 3) := by decide +kernel
theorem d_Mo_isDissonant_318 : decode prog_9_method_28_code 318 = .ok (.iconst 0, 1) := by decide +kernel
theorem d_Mo_isDissonant_319 : decode prog_9_method_28_code 319 = .ok (.istore 9, 2) := by decide +kernel
theorem d_Mo_isDissonant_321 : decode prog_9_method_28_code 321 = .ok (.iload 8, 2) := by decide +kernel
theorem d_Mo_isDissonant_323 : decode prog_9_method_28_code 323 = .ok (.ifCond .ne 13, 3) := by decide +kernel
theorem d_Mo_isDissonant_326 : decode prog_9_method_28_code 326 = .ok (.aload_n 0, 1) := by decide +kernel
theorem d_Mo_isDissonant_327 : decode prog_9_method_28_code 327 = .ok (.iload 11, 2) := by decide +kernel
theorem d_Mo_isDissonant_329 : decode prog_9_method_28_code 329 = .ok (.iload_n 3, 1) := by decide +kernel
theorem d_Mo_isDissonant_330 : decode prog_9_method_28_code 330 = .ok (.invokevirtual 117, 3) := by decide +kernel
theorem d_Mo_isDissonant_333 : decode prog_9_method_28_code 333 = .ok (.ifCond .ne 7, 3) := by decide +kernel
theorem d_Mo_isDissonant_336 : decode prog_9_method_28_code 336 = .ok (.iconst 1, 1) := by decide +kernel
theorem d_Mo_isDissonant_337 : decode prog_9_method_28_code 337 = .ok (.goto 4, 3) := by decide +kernel
theorem d_Mo_isDissonant_340 : decode prog_9_method_28_code 340 = .ok (.iconst 0, 1) := by decide +kernel
theorem d_Mo_isDissonant_341 : decode prog_9_method_28_code 341 = .ok (.istore 8, 2) := by decide +kernel
theorem d_Mo_isDissonant_343 : decode prog_9_method_28_code 343 = .ok (.iinc 10 1, 3) := by decide +kernel
theorem d_Mo_isDissonant_346 : decode prog_9_method_28_code 346 = .ok (.goto (-116), 3) := by decide +kernel
theorem d_Mo_isDissonant_349 : decode prog_9_method_28_code 349 = .ok (.iload 7, 2) := by decide +kernel
theorem d_Mo_isDissonant_351 : decode prog_9_method_28_code 351 = .ok (.ifCond .ne 13, 3) := by decide +kernel
theorem d_Mo_isDissonant_354 : decode prog_9_method_28_code 354 = .ok (.iload 9, 2) := by decide +kernel
theorem d_Mo_isDissonant_356 : decode prog_9_method_28_code 356 = .ok (.ifCond .ne 12, 3) := by decide +kernel
theorem d_Mo_isDissonant_359 : decode prog_9_method_28_code 359 = .ok (.iload 8, 2) := by decide +kernel
theorem d_Mo_isDissonant_361 : decode prog_9_method_28_code 361 = .ok (.ifCond .eq 7, 3) := by decide +kernel
theorem d_Mo_isDissonant_364 : decode prog_9_method_28_code 364 = .ok (.iconst 1, 1) := by decide +kernel
theorem d_Mo_isDissonant_365 : decode prog_9_method_28_code 365 = .ok (.goto 4, 3) := by decide +kernel
theorem d_Mo_isDissonant_368 : decode prog_9_method_28_code 368 = .ok (.iconst 0, 1) := by decide +kernel
theorem d_Mo_isDissonant_369 : decode prog_9_method_28_code 369 = .ok (.ireturn, 1) := by decide +kernel
abbrev rm_Mo_isDissonant : Room := { frames := 4, cells := 0, slots := 0, locals := 94 }
set_option maxHeartbeats 4000000 in
set_option maxRecDepth 100000 in
theorem c_Mo_isDissonant (l : Launch) (D : va_G) (cs : Nat → ClassId) (ad : Nat → Nat) (hi : mo_inj ad) (c I : Wo) (h : moR c I) (hL : MoL c I) (a b : Nat) (ha : a < 4) (hb : b < 4) (t : Nat) (ht : (t : Int) < an_end c) (hona : c (3 + a) 0 = 1) (honb : c (3 + b) 0 = 1) : mo_C l D cs ad y_Mo_isDissonant ws_Mo_isDissonant rm_Mo_isDissonant [.ref (ad 0), .int (zi (a : Int)), .int (zi (b : Int)), .int (zi (t : Int))] I (mk_pi (fun r J => I = J ∧ ((r = 1 ∧ dis c a b t) ∨ (r = 0 ∧ ¬ dis c a b t)))) := by
  refine mk_metz (own := "CanonMakerModel") (Ts := wA) hi (Nat.le_refl _) (by decide) rfl (fun w h => List.mem_cons_of_mem _ h) rfl (Nat.le_of_ble_eq_true rfl) [(0, .ref (ad 0)), (1, .int (zi (a : Int))), (2, .int (zi (b : Int))), (3, .int (zi (t : Int)))] rfl ?_
  intro p_ e_ s_ m_ as_ bl_ me_ co_ Q_ X hret
  obtain ⟨⟨⟨hn, hN⟩, ⟨hlo, hsc, hbt, hru, hrd, hst⟩, ⟨hV, hV0⟩, ⟨hfc, hF⟩⟩, ⟨i12, iN⟩, ⟨⟨i50, i51, i52, i53, i54⟩, i07, i09⟩, iV, ⟨i010, iF⟩⟩ := id h
  have heb := an_end_b h.1.1 h.1.2.1 h.1.2.2.1
  have hcn := cn_e h.1.1
  have hpa := cpt_b h.1.1 h.1.2.2.1 ha (t : Int)
  have hpc := cpt_b h.1.1 h.1.2.2.1 hb (t : Int)
  obtain ⟨G, hG⟩ : ∃ x : Int, x = gp (cpt c a (t : Int)) (cpt c b (t : Int)) := ⟨_, rfl⟩
  have hGb : 0 ≤ G ∧ G < 12 := by rw [hG]; unfold gp; omega
  have la := lakI_b c a (t : Int)
  have lb := lakI_b c b (t : Int)
  have oa := opnI_b c a (t : Int)
  have obb := opnI_b c b (t : Int)
  have na := nstI_b c a (t : Int)
  have nbb := nstI_b c b (t : Int)
  have L230 : ∀ nf : Nat, ∀ (k : Nat) (x7 : Int) (x8 : Int) (x9 : Int), (k ≤ 2) → (¬ cons G) → (G = 5 → ¬ fop c t ∧ ¬ flo c a b t) → (¬ ziand (c 0 5) 8 = 0 ∧ ¬ (t : Int) % c 0 4 = 0) → (x7 = lkf (lakI c a t) (lakI c b t) k) → (x8 = lkf (nstI c a t) (nstI c b t) k) → (x9 = lkf (opnI c a t) (opnI c b t) k) → 2 - k < nf → mk_A p_ l e_ rm_Mo_isDissonant s_ m_ as_ bl_ me_ co_ Q_ 12 D cmcl (mo_sh cs ad) 16 16 ad I [(0, .ref (ad 0)), (1, .int (zi (a : Int))), (2, .int (zi (b : Int))), (3, .int (zi (t : Int))), (4, .int (zi (cpt c a (t : Int)))), (5, .int (zi (cpt c b (t : Int)))), (7, .int (zi x7)), (8, .int (zi x8)), (9, .int (zi x9)), (10, .int (zi (k : Int)))] 230 [] := by
    intro nf
    induction nf with
    | zero => intro k x7 x8 x9 hk hnc h5 hnp h7 h8 h9 hn; exact absurd hn (Nat.not_lt_zero _)
    | succ nf ih230 =>
      intro k x7 x8 x9 hk hnc h5 hnp h7 h8 h9 hn230
      have f7 := lkf_b la lb k
      have f8 := lkf_b na nbb k
      have f9 := lkf_b oa obb k
      have L248 : ∀ (z : Nat), ((k = 0 ∧ z = a) ∨ (k = 1 ∧ z = b)) → mk_A p_ l e_ rm_Mo_isDissonant s_ m_ as_ bl_ me_ co_ Q_ 12 D cmcl (mo_sh cs ad) 16 16 ad I [(0, .ref (ad 0)), (1, .int (zi (a : Int))), (2, .int (zi (b : Int))), (3, .int (zi (t : Int))), (4, .int (zi (cpt c a (t : Int)))), (5, .int (zi (cpt c b (t : Int)))), (7, .int (zi x7)), (8, .int (zi x8)), (9, .int (zi x9)), (10, .int (zi (k : Int))), (11, .int (zi (z : Int)))] 248 [] := by
        intro z hz
        have L258 : (c (3 + z) 0 = 1 ∧ csk c z t = 1) → mk_A p_ l e_ rm_Mo_isDissonant s_ m_ as_ bl_ me_ co_ Q_ 12 D cmcl (mo_sh cs ad) 16 16 ad I [(0, .ref (ad 0)), (1, .int (zi (a : Int))), (2, .int (zi (b : Int))), (3, .int (zi (t : Int))), (4, .int (zi (cpt c a (t : Int)))), (5, .int (zi (cpt c b (t : Int)))), (7, .int (zi x7)), (8, .int (zi x8)), (9, .int (zi x9)), (10, .int (zi (k : Int))), (11, .int (zi (z : Int)))] 258 [] := by
          intro  hsz
          have hpz := (csk_pl hsz.2).1
          have hlz := cpl_b h.1.1 h.1.2.2.1 (show z < 4 by omega) (t : Int)
          have hcp : 0 < cn c := by omega
          have hobz := cbs_b h.1.1 h.1.2.2.1 (show z < 4 by omega) hcp (cpl c z (t : Int)) (-1)
          have hnbz := cbs_b h.1.1 h.1.2.2.1 (show z < 4 by omega) hcp (cpl c z (t : Int)) 1
          have hgz := gst_b (cpt c z (t : Int)) (ob c z (t : Int)) (nb c z (t : Int))
          obtain ⟨i1, i2, i3⟩ := ind_yes hsz
          have e1 : ob c z (t : Int) = cbs c z (cpl c z (t : Int)) (-1) := rfl
          have e2 : nb c z (t : Int) = cbs c z (cpl c z (t : Int)) 1 := rfl
          have L321 : ∀ (y7 : Int) (y9 : Int), (y7 = max x7 (lakI c z t)) → (y9 = max x9 (opnI c z t)) → mk_A p_ l e_ rm_Mo_isDissonant s_ m_ as_ bl_ me_ co_ Q_ 12 D cmcl (mo_sh cs ad) 16 16 ad I [(0, .ref (ad 0)), (1, .int (zi (a : Int))), (2, .int (zi (b : Int))), (3, .int (zi (t : Int))), (4, .int (zi (cpt c a (t : Int)))), (5, .int (zi (cpt c b (t : Int)))), (7, .int (zi y7)), (8, .int (zi x8)), (9, .int (zi y9)), (10, .int (zi (k : Int))), (11, .int (zi (z : Int)))] 321 [] := by
            intro y7 y9 hy7 hy9
            refine mk_iload (nx := 323) X 7 d_Mo_isDissonant_321 rfl rfl ?_
            refine mk_if_ne (tgt := 336) (nx := 326) X d_Mo_isDissonant_323 (by omega) (by decide) rfl (fun c323 => ?_) (fun c323 => ?_)
            · skip
              refine mk_iconst (nx := 337) X d_Mo_isDissonant_336 rfl ?_
              refine mk_goto (tgt := 341) X d_Mo_isDissonant_337 (by decide) ?_
              refine mk_istore (nx := 343) X [(8, .int (zi 1)), (0, .ref (ad 0)), (1, .int (zi (a : Int))), (2, .int (zi (b : Int))), (3, .int (zi (t : Int))), (4, .int (zi (cpt c a (t : Int)))), (5, .int (zi (cpt c b (t : Int)))), (7, .int (zi y7)), (9, .int (zi y9)), (10, .int (zi (k : Int))), (11, .int (zi (z : Int)))] d_Mo_isDissonant_341 (by decide) rfl rfl ?_
              refine mk_iinc (nx := 346) X 9 [(10, .int (zi ((k : Int) + 1))), (8, .int (zi 1)), (0, .ref (ad 0)), (1, .int (zi (a : Int))), (2, .int (zi (b : Int))), (3, .int (zi (t : Int))), (4, .int (zi (cpt c a (t : Int)))), (5, .int (zi (cpt c b (t : Int)))), (7, .int (zi y7)), (9, .int (zi y9)), (11, .int (zi (z : Int)))] d_Mo_isDissonant_343 rfl (by decide) rfl rfl ?_
              refine mk_goto (tgt := 230) X d_Mo_isDissonant_346 (by decide) ?_
              refine mk_lv [2, 3, 4, 5, 6, 7, 8, 1, 9, 0] rfl ?_
              exact ih230 (k + 1) y7 1 y9 (by omega) (by exact hnc) (by exact h5) (by omega) (by first | rfl | (rw [lkf_step (X := lakI c z (t : Int)) (by rcases hz with ⟨e1, e2⟩ | ⟨e1, e2⟩ <;> subst e2 <;> simp [e1]) (by omega), ← h7]; omega)) (by first | rfl | (rw [lkf_step (X := nstI c z (t : Int)) (by rcases hz with ⟨e1, e2⟩ | ⟨e1, e2⟩ <;> subst e2 <;> simp [e1]) (by omega), ← h8]; omega)) (by first | rfl | (rw [lkf_step (X := opnI c z (t : Int)) (by rcases hz with ⟨e1, e2⟩ | ⟨e1, e2⟩ <;> subst e2 <;> simp [e1]) (by omega), ← h9]; omega)) (by omega)
            · skip
              refine mk_aloadn (nx := 327) X 0 d_Mo_isDissonant_326 rfl rfl ?_
              refine mk_iload (nx := 329) X 10 d_Mo_isDissonant_327 rfl rfl ?_
              refine mk_iloadn (nx := 330) X 3 d_Mo_isDissonant_329 rfl rfl ?_
              refine mk_callVi (nx := 333) (n := 2) (As := [.int (zi (z : Int)), .int (zi (t : Int))]) (rest := []) X 0 (by decide) (mh_Mo cs ad _) rfl (c_Mo_stepsAt l D cs ad hi c I h hL z (by omega) t ht hsz.1 hpz) (g_Mo_stepsAt wd_799) rfl ⟨rfl, rfl⟩ (by decide +kernel) ⟨by decide, by decide⟩ rfl (Nat.le_of_ble_eq_true rfl) rfl d_Mo_isDissonant_330 rfl ?_
              intro r330 J1 hJ1
              obtain ⟨rfl, rfl⟩ := hJ1
              refine mk_if_ne (tgt := 340) (nx := 336) X d_Mo_isDissonant_333 (by omega) (by decide) rfl (fun c333 => ?_) (fun c333 => ?_)
              · skip
                refine mk_iconst (nx := 341) X d_Mo_isDissonant_340 rfl ?_
                refine mk_istore (nx := 343) X [(8, .int (zi 0)), (0, .ref (ad 0)), (1, .int (zi (a : Int))), (2, .int (zi (b : Int))), (3, .int (zi (t : Int))), (4, .int (zi (cpt c a (t : Int)))), (5, .int (zi (cpt c b (t : Int)))), (7, .int (zi y7)), (9, .int (zi y9)), (10, .int (zi (k : Int))), (11, .int (zi (z : Int)))] d_Mo_isDissonant_341 (by decide) rfl rfl ?_
                refine mk_iinc (nx := 346) X 9 [(10, .int (zi ((k : Int) + 1))), (8, .int (zi 0)), (0, .ref (ad 0)), (1, .int (zi (a : Int))), (2, .int (zi (b : Int))), (3, .int (zi (t : Int))), (4, .int (zi (cpt c a (t : Int)))), (5, .int (zi (cpt c b (t : Int)))), (7, .int (zi y7)), (9, .int (zi y9)), (11, .int (zi (z : Int)))] d_Mo_isDissonant_343 rfl (by decide) rfl rfl ?_
                refine mk_goto (tgt := 230) X d_Mo_isDissonant_346 (by decide) ?_
                refine mk_lv [2, 3, 4, 5, 6, 7, 8, 1, 9, 0] rfl ?_
                exact ih230 (k + 1) y7 0 y9 (by omega) (by exact hnc) (by exact h5) (by omega) (by first | rfl | (rw [lkf_step (X := lakI c z (t : Int)) (by rcases hz with ⟨e1, e2⟩ | ⟨e1, e2⟩ <;> subst e2 <;> simp [e1]) (by omega), ← h7]; omega)) (by first | rfl | (rw [lkf_step (X := nstI c z (t : Int)) (by rcases hz with ⟨e1, e2⟩ | ⟨e1, e2⟩ <;> subst e2 <;> simp [e1]) (by omega), ← h8]; omega)) (by first | rfl | (rw [lkf_step (X := opnI c z (t : Int)) (by rcases hz with ⟨e1, e2⟩ | ⟨e1, e2⟩ <;> subst e2 <;> simp [e1]) (by omega), ← h9]; omega)) (by omega)
              · skip
                refine mk_iconst (nx := 337) X d_Mo_isDissonant_336 rfl ?_
                refine mk_goto (tgt := 341) X d_Mo_isDissonant_337 (by decide) ?_
                refine mk_istore (nx := 343) X [(8, .int (zi 1)), (0, .ref (ad 0)), (1, .int (zi (a : Int))), (2, .int (zi (b : Int))), (3, .int (zi (t : Int))), (4, .int (zi (cpt c a (t : Int)))), (5, .int (zi (cpt c b (t : Int)))), (7, .int (zi y7)), (9, .int (zi y9)), (10, .int (zi (k : Int))), (11, .int (zi (z : Int)))] d_Mo_isDissonant_341 (by decide) rfl rfl ?_
                refine mk_iinc (nx := 346) X 9 [(10, .int (zi ((k : Int) + 1))), (8, .int (zi 1)), (0, .ref (ad 0)), (1, .int (zi (a : Int))), (2, .int (zi (b : Int))), (3, .int (zi (t : Int))), (4, .int (zi (cpt c a (t : Int)))), (5, .int (zi (cpt c b (t : Int)))), (7, .int (zi y7)), (9, .int (zi y9)), (11, .int (zi (z : Int)))] d_Mo_isDissonant_343 rfl (by decide) rfl rfl ?_
                refine mk_goto (tgt := 230) X d_Mo_isDissonant_346 (by decide) ?_
                refine mk_lv [2, 3, 4, 5, 6, 7, 8, 1, 9, 0] rfl ?_
                exact ih230 (k + 1) y7 1 y9 (by omega) (by exact hnc) (by exact h5) (by omega) (by first | rfl | (rw [lkf_step (X := lakI c z (t : Int)) (by rcases hz with ⟨e1, e2⟩ | ⟨e1, e2⟩ <;> subst e2 <;> simp [e1]) (by omega), ← h7]; omega)) (by first | rfl | (rw [lkf_step (X := nstI c z (t : Int)) (by rcases hz with ⟨e1, e2⟩ | ⟨e1, e2⟩ <;> subst e2 <;> simp [e1]) (by omega), ← h8]; omega)) (by first | rfl | (rw [lkf_step (X := opnI c z (t : Int)) (by rcases hz with ⟨e1, e2⟩ | ⟨e1, e2⟩ <;> subst e2 <;> simp [e1]) (by omega), ← h9]; omega)) (by omega)
          have L298 : ∀ (y7 : Int), (y7 = max x7 (lakI c z t)) → mk_A p_ l e_ rm_Mo_isDissonant s_ m_ as_ bl_ me_ co_ Q_ 12 D cmcl (mo_sh cs ad) 16 16 ad I [(0, .ref (ad 0)), (1, .int (zi (a : Int))), (2, .int (zi (b : Int))), (3, .int (zi (t : Int))), (4, .int (zi (cpt c a (t : Int)))), (5, .int (zi (cpt c b (t : Int)))), (7, .int (zi y7)), (8, .int (zi x8)), (9, .int (zi x9)), (10, .int (zi (k : Int))), (11, .int (zi (z : Int)))] 298 [] := by
            intro y7 hy7
            refine mk_iload (nx := 300) X 8 d_Mo_isDissonant_298 rfl rfl ?_
            refine mk_if_ne (tgt := 314) (nx := 303) X d_Mo_isDissonant_300 (by omega) (by decide) rfl (fun c300 => ?_) (fun c300 => ?_)
            · skip
              refine mk_iconst (nx := 315) X d_Mo_isDissonant_314 rfl ?_
              refine mk_goto (tgt := 319) X d_Mo_isDissonant_315 (by decide) ?_
              refine mk_istore (nx := 321) X [(9, .int (zi 1)), (0, .ref (ad 0)), (1, .int (zi (a : Int))), (2, .int (zi (b : Int))), (3, .int (zi (t : Int))), (4, .int (zi (cpt c a (t : Int)))), (5, .int (zi (cpt c b (t : Int)))), (7, .int (zi y7)), (8, .int (zi x8)), (10, .int (zi (k : Int))), (11, .int (zi (z : Int)))] d_Mo_isDissonant_319 (by decide) rfl rfl ?_
              refine mk_lv [1, 2, 3, 4, 5, 6, 7, 8, 0, 9, 10] rfl ?_
              exact L321 y7 1 (by omega) (by omega)
            · skip
              refine mk_aloadn (nx := 304) X 0 d_Mo_isDissonant_303 rfl rfl ?_
              refine mk_iload (nx := 306) X 10 d_Mo_isDissonant_304 rfl rfl ?_
              refine mk_iloadn (nx := 307) X 3 d_Mo_isDissonant_306 rfl rfl ?_
              refine mk_callVi (nx := 310) (n := 2) (As := [.int (zi (z : Int)), .int (zi (t : Int))]) (rest := []) X 0 (by decide) (mh_Mo cs ad _) rfl (c_Mo_stepsAt l D cs ad hi c I h hL z (by omega) t ht hsz.1 hpz) (g_Mo_stepsAt wd_799) rfl ⟨rfl, rfl⟩ (by decide +kernel) ⟨by decide, by decide⟩ rfl (Nat.le_of_ble_eq_true rfl) rfl d_Mo_isDissonant_307 rfl ?_
              intro r307 J2 hJ2
              obtain ⟨rfl, rfl⟩ := hJ2
              refine mk_iconst (nx := 311) X d_Mo_isDissonant_310 rfl ?_
              refine mk_icmp_ne (tgt := 318) (nx := 314) X d_Mo_isDissonant_311 (by omega) (by omega) (by decide) rfl (fun c311 => ?_) (fun c311 => ?_)
              · skip
                refine mk_iconst (nx := 319) X d_Mo_isDissonant_318 rfl ?_
                refine mk_istore (nx := 321) X [(9, .int (zi 0)), (0, .ref (ad 0)), (1, .int (zi (a : Int))), (2, .int (zi (b : Int))), (3, .int (zi (t : Int))), (4, .int (zi (cpt c a (t : Int)))), (5, .int (zi (cpt c b (t : Int)))), (7, .int (zi y7)), (8, .int (zi x8)), (10, .int (zi (k : Int))), (11, .int (zi (z : Int)))] d_Mo_isDissonant_319 (by decide) rfl rfl ?_
                refine mk_lv [1, 2, 3, 4, 5, 6, 7, 8, 0, 9, 10] rfl ?_
                exact L321 y7 0 (by omega) (by omega)
              · skip
                refine mk_iconst (nx := 315) X d_Mo_isDissonant_314 rfl ?_
                refine mk_goto (tgt := 319) X d_Mo_isDissonant_315 (by decide) ?_
                refine mk_istore (nx := 321) X [(9, .int (zi 1)), (0, .ref (ad 0)), (1, .int (zi (a : Int))), (2, .int (zi (b : Int))), (3, .int (zi (t : Int))), (4, .int (zi (cpt c a (t : Int)))), (5, .int (zi (cpt c b (t : Int)))), (7, .int (zi y7)), (8, .int (zi x8)), (10, .int (zi (k : Int))), (11, .int (zi (z : Int)))] d_Mo_isDissonant_319 (by decide) rfl rfl ?_
                refine mk_lv [1, 2, 3, 4, 5, 6, 7, 8, 0, 9, 10] rfl ?_
                exact L321 y7 1 (by omega) (by omega)
          refine mk_iload (nx := 260) X 6 d_Mo_isDissonant_258 rfl rfl ?_
          refine mk_if_ne (tgt := 291) (nx := 263) X d_Mo_isDissonant_260 (by omega) (by decide) rfl (fun c260 => ?_) (fun c260 => ?_)
          · skip
            refine mk_iconst (nx := 292) X d_Mo_isDissonant_291 rfl ?_
            refine mk_goto (tgt := 296) X d_Mo_isDissonant_292 (by decide) ?_
            refine mk_istore (nx := 298) X [(7, .int (zi 1)), (0, .ref (ad 0)), (1, .int (zi (a : Int))), (2, .int (zi (b : Int))), (3, .int (zi (t : Int))), (4, .int (zi (cpt c a (t : Int)))), (5, .int (zi (cpt c b (t : Int)))), (8, .int (zi x8)), (9, .int (zi x9)), (10, .int (zi (k : Int))), (11, .int (zi (z : Int)))] d_Mo_isDissonant_296 (by decide) rfl rfl ?_
            refine mk_lv [1, 2, 3, 4, 5, 6, 0, 7, 8, 9, 10] rfl ?_
            exact L298 1 (by omega)
          · skip
            refine mk_aloadn (nx := 264) X 0 d_Mo_isDissonant_263 rfl rfl ?_
            refine mk_iload (nx := 266) X 10 d_Mo_isDissonant_264 rfl rfl ?_
            refine mk_iloadn (nx := 267) X 3 d_Mo_isDissonant_266 rfl rfl ?_
            refine mk_iconst (nx := 268) X d_Mo_isDissonant_267 rfl ?_
            refine mk_callVi (nx := 271) (n := 3) (As := [.int (zi (z : Int)), .int (zi (t : Int)), .int (zi (-1))]) (rest := []) X 0 (by decide) (mh_Mo cs ad _) rfl (c_Mo_beside l D cs ad hi c I h hL z (by omega) t ht hsz.1 hpz (-1) (by omega)) (g_Mo_beside wd_780) rfl ⟨rfl, rfl⟩ (by decide +kernel) ⟨by decide, by decide⟩ rfl (Nat.le_of_ble_eq_true rfl) rfl d_Mo_isDissonant_268 rfl ?_
            intro r268 J3 hJ3
            obtain ⟨rfl, rfl⟩ := hJ3
            refine mk_sipush (nx := 274) X d_Mo_isDissonant_271 (by decide) rfl ?_
            refine mk_icmp_eq (tgt := 291) (nx := 277) X d_Mo_isDissonant_274 (by omega) (by omega) (by decide) rfl (fun c274 => ?_) (fun c274 => ?_)
            · skip
              refine mk_iconst (nx := 292) X d_Mo_isDissonant_291 rfl ?_
              refine mk_goto (tgt := 296) X d_Mo_isDissonant_292 (by decide) ?_
              refine mk_istore (nx := 298) X [(7, .int (zi 1)), (0, .ref (ad 0)), (1, .int (zi (a : Int))), (2, .int (zi (b : Int))), (3, .int (zi (t : Int))), (4, .int (zi (cpt c a (t : Int)))), (5, .int (zi (cpt c b (t : Int)))), (8, .int (zi x8)), (9, .int (zi x9)), (10, .int (zi (k : Int))), (11, .int (zi (z : Int)))] d_Mo_isDissonant_296 (by decide) rfl rfl ?_
              refine mk_lv [1, 2, 3, 4, 5, 6, 0, 7, 8, 9, 10] rfl ?_
              exact L298 1 (by omega)
            · skip
              refine mk_aloadn (nx := 278) X 0 d_Mo_isDissonant_277 rfl rfl ?_
              refine mk_iload (nx := 280) X 10 d_Mo_isDissonant_278 rfl rfl ?_
              refine mk_iloadn (nx := 281) X 3 d_Mo_isDissonant_280 rfl rfl ?_
              refine mk_iconst (nx := 282) X d_Mo_isDissonant_281 rfl ?_
              refine mk_callVi (nx := 285) (n := 3) (As := [.int (zi (z : Int)), .int (zi (t : Int)), .int (zi 1)]) (rest := []) X 0 (by decide) (mh_Mo cs ad _) rfl (c_Mo_beside l D cs ad hi c I h hL z (by omega) t ht hsz.1 hpz (1) (by omega)) (g_Mo_beside wd_780) rfl ⟨rfl, rfl⟩ (by decide +kernel) ⟨by decide, by decide⟩ rfl (Nat.le_of_ble_eq_true rfl) rfl d_Mo_isDissonant_282 rfl ?_
              intro r282 J4 hJ4
              obtain ⟨rfl, rfl⟩ := hJ4
              refine mk_sipush (nx := 288) X d_Mo_isDissonant_285 (by decide) rfl ?_
              refine mk_icmp_ne (tgt := 295) (nx := 291) X d_Mo_isDissonant_288 (by omega) (by omega) (by decide) rfl (fun c288 => ?_) (fun c288 => ?_)
              · skip
                refine mk_iconst (nx := 296) X d_Mo_isDissonant_295 rfl ?_
                refine mk_istore (nx := 298) X [(7, .int (zi 0)), (0, .ref (ad 0)), (1, .int (zi (a : Int))), (2, .int (zi (b : Int))), (3, .int (zi (t : Int))), (4, .int (zi (cpt c a (t : Int)))), (5, .int (zi (cpt c b (t : Int)))), (8, .int (zi x8)), (9, .int (zi x9)), (10, .int (zi (k : Int))), (11, .int (zi (z : Int)))] d_Mo_isDissonant_296 (by decide) rfl rfl ?_
                refine mk_lv [1, 2, 3, 4, 5, 6, 0, 7, 8, 9, 10] rfl ?_
                exact L298 0 (by omega)
              · skip
                refine mk_iconst (nx := 292) X d_Mo_isDissonant_291 rfl ?_
                refine mk_goto (tgt := 296) X d_Mo_isDissonant_292 (by decide) ?_
                refine mk_istore (nx := 298) X [(7, .int (zi 1)), (0, .ref (ad 0)), (1, .int (zi (a : Int))), (2, .int (zi (b : Int))), (3, .int (zi (t : Int))), (4, .int (zi (cpt c a (t : Int)))), (5, .int (zi (cpt c b (t : Int)))), (8, .int (zi x8)), (9, .int (zi x9)), (10, .int (zi (k : Int))), (11, .int (zi (z : Int)))] d_Mo_isDissonant_296 (by decide) rfl rfl ?_
                refine mk_lv [1, 2, 3, 4, 5, 6, 0, 7, 8, 9, 10] rfl ?_
                exact L298 1 (by omega)
        refine mk_aloadn (nx := 249) X 0 d_Mo_isDissonant_248 rfl rfl ?_
        refine mk_iload (nx := 251) X 10 d_Mo_isDissonant_249 rfl rfl ?_
        refine mk_iloadn (nx := 252) X 3 d_Mo_isDissonant_251 rfl rfl ?_
        refine mk_callVi (nx := 255) (n := 2) (As := [.int (zi (z : Int)), .int (zi (t : Int))]) (rest := []) X 0 (by decide) (mh_Mo cs ad _) rfl (c_Mo_isStruck l D cs ad hi c I h hL z (by omega) t ht) (g_Mo_isStruck wd_776) rfl ⟨rfl, rfl⟩ (by decide +kernel) ⟨by decide, by decide⟩ rfl (Nat.le_of_ble_eq_true rfl) rfl d_Mo_isDissonant_252 rfl ?_
        intro r252 J5 hJ5
        obtain ⟨rfl, hr252⟩ := hJ5
        refine mk_if_eq (tgt := 343) (nx := 258) X d_Mo_isDissonant_255 (by omega) (by decide) rfl (fun c255 => ?_) (fun c255 => ?_)
        · skip
          obtain ⟨i1, i2, i3⟩ := ind_no (c := c) (v := z) (t := (t : Int)) (by omega)
          refine mk_iinc (nx := 346) X 9 [(10, .int (zi ((k : Int) + 1))), (0, .ref (ad 0)), (1, .int (zi (a : Int))), (2, .int (zi (b : Int))), (3, .int (zi (t : Int))), (4, .int (zi (cpt c a (t : Int)))), (5, .int (zi (cpt c b (t : Int)))), (7, .int (zi x7)), (8, .int (zi x8)), (9, .int (zi x9)), (11, .int (zi (z : Int)))] d_Mo_isDissonant_343 rfl (by decide) rfl rfl ?_
          refine mk_goto (tgt := 230) X d_Mo_isDissonant_346 (by decide) ?_
          refine mk_lv [1, 2, 3, 4, 5, 6, 7, 8, 9, 0] rfl ?_
          exact ih230 (k + 1) x7 x8 x9 (by omega) (by exact hnc) (by exact h5) (by omega) (by first | rfl | (rw [lkf_step (X := lakI c z (t : Int)) (by rcases hz with ⟨e1, e2⟩ | ⟨e1, e2⟩ <;> subst e2 <;> simp [e1]) (by omega), ← h7]; omega)) (by first | rfl | (rw [lkf_step (X := nstI c z (t : Int)) (by rcases hz with ⟨e1, e2⟩ | ⟨e1, e2⟩ <;> subst e2 <;> simp [e1]) (by omega), ← h8]; omega)) (by first | rfl | (rw [lkf_step (X := opnI c z (t : Int)) (by rcases hz with ⟨e1, e2⟩ | ⟨e1, e2⟩ <;> subst e2 <;> simp [e1]) (by omega), ← h9]; omega)) (by omega)
        · skip
          refine mk_lv [0, 1, 2, 3, 4, 5, 6, 7, 8, 9, 10] rfl ?_
          exact L258  (by omega)
      refine mk_iload (nx := 232) X 9 d_Mo_isDissonant_230 rfl rfl ?_
      refine mk_iconst (nx := 233) X d_Mo_isDissonant_232 rfl ?_
      refine mk_icmp_ge (tgt := 349) (nx := 236) X d_Mo_isDissonant_233 (by omega) (by omega) (by decide) rfl (fun c233 => ?_) (fun c233 => ?_)
      · skip
        refine mk_iload (nx := 351) X 6 d_Mo_isDissonant_349 rfl rfl ?_
        refine mk_if_ne (tgt := 364) (nx := 354) X d_Mo_isDissonant_351 (by omega) (by decide) rfl (fun c351 => ?_) (fun c351 => ?_)
        · skip
          refine mk_iconst (nx := 365) X d_Mo_isDissonant_364 rfl ?_
          refine mk_goto (tgt := 369) X d_Mo_isDissonant_365 (by decide) ?_
          exact hret _ _ _ _ d_Mo_isDissonant_369 (by omega) (by (have e2k : k = 2 := by omega); subst e2k; rw [lkf_2] at h7 h8 h9; first | exact ⟨rfl, Or.inl ⟨rfl, by rw [← hG]; exact hnc, by rw [← hG]; exact h5, by omega⟩⟩ | exact ⟨rfl, Or.inr ⟨rfl, fun hd => by have := hd.2.2; omega⟩⟩)
        · skip
          refine mk_iload (nx := 356) X 8 d_Mo_isDissonant_354 rfl rfl ?_
          refine mk_if_ne (tgt := 368) (nx := 359) X d_Mo_isDissonant_356 (by omega) (by decide) rfl (fun c356 => ?_) (fun c356 => ?_)
          · skip
            refine mk_iconst (nx := 369) X d_Mo_isDissonant_368 rfl ?_
            exact hret _ _ _ _ d_Mo_isDissonant_369 (by omega) (by (have e2k : k = 2 := by omega); subst e2k; rw [lkf_2] at h7 h8 h9; first | exact ⟨rfl, Or.inl ⟨rfl, by rw [← hG]; exact hnc, by rw [← hG]; exact h5, by omega⟩⟩ | exact ⟨rfl, Or.inr ⟨rfl, fun hd => by have := hd.2.2; omega⟩⟩)
          · skip
            refine mk_iload (nx := 361) X 7 d_Mo_isDissonant_359 rfl rfl ?_
            refine mk_if_eq (tgt := 368) (nx := 364) X d_Mo_isDissonant_361 (by omega) (by decide) rfl (fun c361 => ?_) (fun c361 => ?_)
            · skip
              refine mk_iconst (nx := 369) X d_Mo_isDissonant_368 rfl ?_
              exact hret _ _ _ _ d_Mo_isDissonant_369 (by omega) (by (have e2k : k = 2 := by omega); subst e2k; rw [lkf_2] at h7 h8 h9; first | exact ⟨rfl, Or.inl ⟨rfl, by rw [← hG]; exact hnc, by rw [← hG]; exact h5, by omega⟩⟩ | exact ⟨rfl, Or.inr ⟨rfl, fun hd => by have := hd.2.2; omega⟩⟩)
            · skip
              refine mk_iconst (nx := 365) X d_Mo_isDissonant_364 rfl ?_
              refine mk_goto (tgt := 369) X d_Mo_isDissonant_365 (by decide) ?_
              exact hret _ _ _ _ d_Mo_isDissonant_369 (by omega) (by (have e2k : k = 2 := by omega); subst e2k; rw [lkf_2] at h7 h8 h9; first | exact ⟨rfl, Or.inl ⟨rfl, by rw [← hG]; exact hnc, by rw [← hG]; exact h5, by omega⟩⟩ | exact ⟨rfl, Or.inr ⟨rfl, fun hd => by have := hd.2.2; omega⟩⟩)
      · skip
        refine mk_iload (nx := 238) X 9 d_Mo_isDissonant_236 rfl rfl ?_
        refine mk_if_ne (tgt := 245) (nx := 241) X d_Mo_isDissonant_238 (by omega) (by decide) rfl (fun c238 => ?_) (fun c238 => ?_)
        · skip
          refine mk_iloadn (nx := 246) X 2 d_Mo_isDissonant_245 rfl rfl ?_
          refine mk_istore (nx := 248) X [(11, .int (zi (b : Int))), (0, .ref (ad 0)), (1, .int (zi (a : Int))), (2, .int (zi (b : Int))), (3, .int (zi (t : Int))), (4, .int (zi (cpt c a (t : Int)))), (5, .int (zi (cpt c b (t : Int)))), (7, .int (zi x7)), (8, .int (zi x8)), (9, .int (zi x9)), (10, .int (zi (k : Int)))] d_Mo_isDissonant_246 (by decide) rfl rfl ?_
          refine mk_lv [1, 2, 3, 4, 5, 6, 7, 8, 9, 10, 0] rfl ?_
          exact L248 b (by omega)
        · skip
          refine mk_iloadn (nx := 242) X 1 d_Mo_isDissonant_241 rfl rfl ?_
          refine mk_goto (tgt := 246) X d_Mo_isDissonant_242 (by decide) ?_
          refine mk_istore (nx := 248) X [(11, .int (zi (a : Int))), (0, .ref (ad 0)), (1, .int (zi (a : Int))), (2, .int (zi (b : Int))), (3, .int (zi (t : Int))), (4, .int (zi (cpt c a (t : Int)))), (5, .int (zi (cpt c b (t : Int)))), (7, .int (zi x7)), (8, .int (zi x8)), (9, .int (zi x9)), (10, .int (zi (k : Int)))] d_Mo_isDissonant_246 (by decide) rfl rfl ?_
          refine mk_lv [1, 2, 3, 4, 5, 6, 7, 8, 9, 10, 0] rfl ?_
          exact L248 a (by omega)
  have L197 : (¬ cons G) → (G = 5 → ¬ fop c t ∧ ¬ flo c a b t) → mk_A p_ l e_ rm_Mo_isDissonant s_ m_ as_ bl_ me_ co_ Q_ 12 D cmcl (mo_sh cs ad) 16 16 ad I [(0, .ref (ad 0)), (1, .int (zi (a : Int))), (2, .int (zi (b : Int))), (3, .int (zi (t : Int))), (4, .int (zi (cpt c a (t : Int)))), (5, .int (zi (cpt c b (t : Int))))] 197 [] := by
    intro  hnc h5
    refine mk_aloadn (nx := 198) X 0 d_Mo_isDissonant_197 rfl rfl ?_
    refine mk_get (nx := 201) (v := .int (zi (I 0 13))) X 0 (by decide) (mh_Mo cs ad _) rfl in_Mo 13 (by decide) wd_608 rfl rfl d_Mo_isDissonant_198 rfl ?_
    rw [show I 0 13 = c 0 5 from i54]
    refine mk_bipush (nx := 203) X d_Mo_isDissonant_201 (by decide) rfl ?_
    refine mk_iand (nx := 204) X d_Mo_isDissonant_203 rfl ?_
    refine mk_if_eq (tgt := 216) (nx := 207) X d_Mo_isDissonant_204 (by exact zi_rng _) (by decide) rfl (fun c204 => ?_) (fun c204 => ?_)
    · skip
      refine mk_iconst (nx := 217) X d_Mo_isDissonant_216 rfl ?_
      exact hret _ _ _ _ d_Mo_isDissonant_217 (by omega) (by exact ⟨rfl, Or.inl ⟨rfl, by rw [← hG]; exact hnc, by rw [← hG]; exact h5, by omega⟩⟩)
    · skip
      refine mk_iloadn (nx := 208) X 3 d_Mo_isDissonant_207 rfl rfl ?_
      refine mk_aloadn (nx := 209) X 0 d_Mo_isDissonant_208 rfl rfl ?_
      refine mk_get (nx := 212) (v := .int (zi (I 0 11))) X 0 (by decide) (mh_Mo cs ad _) rfl in_Mo 11 (by decide) wd_606 rfl rfl d_Mo_isDissonant_209 rfl ?_
      rw [show I 0 11 = c 0 4 from i53]
      refine mk_irem (nx := 213) X d_Mo_isDissonant_212 (by omega) (by omega) (by omega) rfl ?_
      refine mk_nm (fun te hte => ?_)
      have hte2 : te = (t : Int) % c 0 4 := by rw [hte, Int.tmod_eq_emod_of_nonneg (by omega)]
      have te1 := Int.emod_nonneg (t : Int) (show c 0 4 ≠ 0 by omega)
      have te2 := Int.emod_lt_of_pos (t : Int) (show 0 < c 0 4 by omega)
      refine mk_if_ne (tgt := 218) (nx := 216) X d_Mo_isDissonant_213 (by omega) (by decide) rfl (fun c213 => ?_) (fun c213 => ?_)
      · skip
        refine mk_iconst (nx := 219) X d_Mo_isDissonant_218 rfl ?_
        refine mk_istore (nx := 221) X [(7, .int (zi 0)), (0, .ref (ad 0)), (1, .int (zi (a : Int))), (2, .int (zi (b : Int))), (3, .int (zi (t : Int))), (4, .int (zi (cpt c a (t : Int)))), (5, .int (zi (cpt c b (t : Int))))] d_Mo_isDissonant_219 (by decide) rfl rfl ?_
        refine mk_iconst (nx := 222) X d_Mo_isDissonant_221 rfl ?_
        refine mk_istore (nx := 224) X [(8, .int (zi 0)), (7, .int (zi 0)), (0, .ref (ad 0)), (1, .int (zi (a : Int))), (2, .int (zi (b : Int))), (3, .int (zi (t : Int))), (4, .int (zi (cpt c a (t : Int)))), (5, .int (zi (cpt c b (t : Int))))] d_Mo_isDissonant_222 (by decide) rfl rfl ?_
        refine mk_iconst (nx := 225) X d_Mo_isDissonant_224 rfl ?_
        refine mk_istore (nx := 227) X [(9, .int (zi 0)), (8, .int (zi 0)), (7, .int (zi 0)), (0, .ref (ad 0)), (1, .int (zi (a : Int))), (2, .int (zi (b : Int))), (3, .int (zi (t : Int))), (4, .int (zi (cpt c a (t : Int)))), (5, .int (zi (cpt c b (t : Int))))] d_Mo_isDissonant_225 (by decide) rfl rfl ?_
        refine mk_iconst (nx := 228) X d_Mo_isDissonant_227 rfl ?_
        refine mk_istore (nx := 230) X [(10, .int (zi 0)), (9, .int (zi 0)), (8, .int (zi 0)), (7, .int (zi 0)), (0, .ref (ad 0)), (1, .int (zi (a : Int))), (2, .int (zi (b : Int))), (3, .int (zi (t : Int))), (4, .int (zi (cpt c a (t : Int)))), (5, .int (zi (cpt c b (t : Int))))] d_Mo_isDissonant_228 (by decide) rfl rfl ?_
        refine mk_lv [4, 5, 6, 7, 8, 9, 3, 2, 1, 0] rfl ?_
        exact L230 _ 0 0 0 0 (by omega) (by exact hnc) (by exact h5) (by omega) (by first | rfl | (rw [lkf_step (X := lakI c z (t : Int)) (by rcases hz with ⟨e1, e2⟩ | ⟨e1, e2⟩ <;> subst e2 <;> simp [e1]) (by omega), ← h7]; omega)) (by first | rfl | (rw [lkf_step (X := nstI c z (t : Int)) (by rcases hz with ⟨e1, e2⟩ | ⟨e1, e2⟩ <;> subst e2 <;> simp [e1]) (by omega), ← h8]; omega)) (by first | rfl | (rw [lkf_step (X := opnI c z (t : Int)) (by rcases hz with ⟨e1, e2⟩ | ⟨e1, e2⟩ <;> subst e2 <;> simp [e1]) (by omega), ← h9]; omega)) (Nat.lt_succ_self _)
      · skip
        refine mk_iconst (nx := 217) X d_Mo_isDissonant_216 rfl ?_
        exact hret _ _ _ _ d_Mo_isDissonant_217 (by omega) (by exact ⟨rfl, Or.inl ⟨rfl, by rw [← hG]; exact hnc, by rw [← hG]; exact h5, by omega⟩⟩)
  have L132 : ∀ nf : Nat, ∀ (u : Nat), (u ≤ 4) → (¬ cons G) → (∀ w, w < 4 → ¬ (hso c w t ∧ cpt c w t = 1001)) → (∀ w, w < u → ¬ (hso c w t ∧ ¬ w = a ∧ ¬ w = b ∧ cpt c w t < cpt c a t ∧ cpt c w t < cpt c b t)) → (G = 5) → 4 - u < nf → mk_A p_ l e_ rm_Mo_isDissonant s_ m_ as_ bl_ me_ co_ Q_ 12 D cmcl (mo_sh cs ad) 16 16 ad I [(0, .ref (ad 0)), (1, .int (zi (a : Int))), (2, .int (zi (b : Int))), (3, .int (zi (t : Int))), (4, .int (zi (cpt c a (t : Int)))), (5, .int (zi (cpt c b (t : Int)))), (7, .int (zi (u : Int)))] 132 [] := by
    intro nf
    induction nf with
    | zero => intro u hu hnc hfo hfl hg5 hn; exact absurd hn (Nat.not_lt_zero _)
    | succ nf ih132 =>
      intro u hu hnc hfo hfl hg5 hn132
      refine mk_iload (nx := 134) X 6 d_Mo_isDissonant_132 rfl rfl ?_
      refine mk_iconst (nx := 135) X d_Mo_isDissonant_134 rfl ?_
      refine mk_icmp_ge (tgt := 197) (nx := 138) X d_Mo_isDissonant_135 (by omega) (by omega) (by decide) rfl (fun c135 => ?_) (fun c135 => ?_)
      · skip
        refine mk_lv [0, 1, 2, 3, 4, 5] rfl ?_
        exact L197  (by first | exact hnc | (unfold cons; omega)) (by first | exact h5 | exact fun e => absurd e (by omega) | exact fun _ => ⟨fun ⟨w, h1, h2, h3⟩ => hfo w (by omega) ⟨h2, h3⟩, fun ⟨w, h1, h2⟩ => hfl w (by omega) h2⟩)
      · skip
        have hpu := cpt_b h.1.1 h.1.2.2.1 (show u < 4 by omega) (t : Int)
        refine mk_aloadn (nx := 139) X 0 d_Mo_isDissonant_138 rfl rfl ?_
        refine mk_get (nx := 142) (v := .ref (ad 8)) X 0 (by decide) (mh_Mo cs ad _) rfl in_Mo 15 (by decide) wd_610 rfl rfl d_Mo_isDissonant_139 rfl ?_
        refine mk_sipush (nx := 145) X d_Mo_isDissonant_142 (by decide) rfl ?_
        refine mk_iload (nx := 147) X 6 d_Mo_isDissonant_145 rfl rfl ?_
        refine mk_imul (nx := 148) X d_Mo_isDissonant_147 rfl ?_
        refine mk_iloadn (nx := 149) X 3 d_Mo_isDissonant_148 rfl rfl ?_
        refine mk_iadd (nx := 150) X d_Mo_isDissonant_149 rfl ?_
        refine mk_iald (nx := 151) (j := ((1300 * u) + t)) X 8 0 (by decide) (mh_pitchAt cs ad _) rfl (by omega) (by omega) (by decide) (by omega) d_Mo_isDissonant_150 rfl ?_
        refine mk_istore (nx := 153) X [(8, .int (zi (I 8 ((1300 * u) + t)))), (0, .ref (ad 0)), (1, .int (zi (a : Int))), (2, .int (zi (b : Int))), (3, .int (zi (t : Int))), (4, .int (zi (cpt c a (t : Int)))), (5, .int (zi (cpt c b (t : Int)))), (7, .int (zi (u : Int)))] d_Mo_isDissonant_151 (by decide) rfl rfl ?_
        refine mk_aloadn (nx := 154) X 1 d_Mo_isDissonant_153 rfl rfl ?_
        refine mk_iload (nx := 156) X 7 d_Mo_isDissonant_154 rfl rfl ?_
        refine mk_iloadn (nx := 157) X 4 d_Mo_isDissonant_156 rfl rfl ?_
        refine mk_callVi (nx := 160) (n := 2) (As := [.int (zi (u : Int)), .int (zi (t : Int))]) (rest := []) X 0 (by decide) (mh_Mo cs ad _) rfl (c_Mo_sounds l D cs ad hi c I h hL u (by omega) t ht) (g_Mo_sounds wd_788) rfl ⟨rfl, rfl⟩ (by decide +kernel) ⟨by decide, by decide⟩ rfl (Nat.le_of_ble_eq_true rfl) rfl d_Mo_isDissonant_157 rfl ?_
        intro r157 J6 hJ6
        obtain ⟨rfl, hr157⟩ := hJ6
        refine mk_if_eq (tgt := 191) (nx := 163) X d_Mo_isDissonant_160 (by omega) (by decide) rfl (fun c160 => ?_) (fun c160 => ?_)
        · skip
          refine mk_iinc (nx := 194) X 7 [(7, .int (zi ((u : Int) + 1))), (8, .int (zi (I 8 ((1300 * u) + t)))), (0, .ref (ad 0)), (1, .int (zi (a : Int))), (2, .int (zi (b : Int))), (3, .int (zi (t : Int))), (4, .int (zi (cpt c a (t : Int)))), (5, .int (zi (cpt c b (t : Int))))] d_Mo_isDissonant_191 rfl (by decide) rfl rfl ?_
          refine mk_goto (tgt := 132) X d_Mo_isDissonant_194 (by decide) ?_
          refine mk_lv [2, 3, 4, 5, 6, 7, 0] rfl ?_
          exact ih132 (u + 1) (by omega) (by first | exact hnc) (by first | exact hfo | exact fun w hw => hfo w (by omega)) (by first | exact lt_0 | exact lt_s hfl (by unfold hso; omega)) (by omega) (by omega)
        · skip
          refine mk_iload (nx := 165) X 7 d_Mo_isDissonant_163 rfl rfl ?_
          refine mk_iloadn (nx := 166) X 2 d_Mo_isDissonant_165 rfl rfl ?_
          refine mk_icmp_eq (tgt := 191) (nx := 169) X d_Mo_isDissonant_166 (by omega) (by omega) (by decide) rfl (fun c166 => ?_) (fun c166 => ?_)
          · skip
            refine mk_iinc (nx := 194) X 7 [(7, .int (zi ((u : Int) + 1))), (8, .int (zi (I 8 ((1300 * u) + t)))), (0, .ref (ad 0)), (1, .int (zi (a : Int))), (2, .int (zi (b : Int))), (3, .int (zi (t : Int))), (4, .int (zi (cpt c a (t : Int)))), (5, .int (zi (cpt c b (t : Int))))] d_Mo_isDissonant_191 rfl (by decide) rfl rfl ?_
            refine mk_goto (tgt := 132) X d_Mo_isDissonant_194 (by decide) ?_
            refine mk_lv [2, 3, 4, 5, 6, 7, 0] rfl ?_
            exact ih132 (u + 1) (by omega) (by first | exact hnc) (by first | exact hfo | exact fun w hw => hfo w (by omega)) (by first | exact lt_0 | exact lt_s hfl (by unfold hso; omega)) (by omega) (by omega)
          · skip
            refine mk_iload (nx := 171) X 7 d_Mo_isDissonant_169 rfl rfl ?_
            refine mk_iloadn (nx := 172) X 3 d_Mo_isDissonant_171 rfl rfl ?_
            refine mk_icmp_eq (tgt := 191) (nx := 175) X d_Mo_isDissonant_172 (by omega) (by omega) (by decide) rfl (fun c172 => ?_) (fun c172 => ?_)
            · skip
              refine mk_iinc (nx := 194) X 7 [(7, .int (zi ((u : Int) + 1))), (8, .int (zi (I 8 ((1300 * u) + t)))), (0, .ref (ad 0)), (1, .int (zi (a : Int))), (2, .int (zi (b : Int))), (3, .int (zi (t : Int))), (4, .int (zi (cpt c a (t : Int)))), (5, .int (zi (cpt c b (t : Int))))] d_Mo_isDissonant_191 rfl (by decide) rfl rfl ?_
              refine mk_goto (tgt := 132) X d_Mo_isDissonant_194 (by decide) ?_
              refine mk_lv [2, 3, 4, 5, 6, 7, 0] rfl ?_
              exact ih132 (u + 1) (by omega) (by first | exact hnc) (by first | exact hfo | exact fun w hw => hfo w (by omega)) (by first | exact lt_0 | exact lt_s hfl (by unfold hso; omega)) (by omega) (by omega)
            · skip
              rw [show I 8 ((1300 * u) + t) = cpt c u (t : Int) from ((hL.2 u (by omega) (by omega)).2 t ht).2.1]
              refine mk_iload (nx := 177) X 0 d_Mo_isDissonant_175 rfl rfl ?_
              refine mk_iload (nx := 179) X 5 d_Mo_isDissonant_177 rfl rfl ?_
              refine mk_icmp_ge (tgt := 191) (nx := 182) X d_Mo_isDissonant_179 (by omega) (by omega) (by decide) rfl (fun c179 => ?_) (fun c179 => ?_)
              · skip
                refine mk_iinc (nx := 194) X 7 [(7, .int (zi ((u : Int) + 1))), (8, .int (zi (cpt c u (t : Int)))), (0, .ref (ad 0)), (1, .int (zi (a : Int))), (2, .int (zi (b : Int))), (3, .int (zi (t : Int))), (4, .int (zi (cpt c a (t : Int)))), (5, .int (zi (cpt c b (t : Int))))] d_Mo_isDissonant_191 rfl (by decide) rfl rfl ?_
                refine mk_goto (tgt := 132) X d_Mo_isDissonant_194 (by decide) ?_
                refine mk_lv [2, 3, 4, 5, 6, 7, 0] rfl ?_
                exact ih132 (u + 1) (by omega) (by first | exact hnc) (by first | exact hfo | exact fun w hw => hfo w (by omega)) (by first | exact lt_0 | exact lt_s hfl (by unfold hso; omega)) (by omega) (by omega)
              · skip
                refine mk_iload (nx := 184) X 0 d_Mo_isDissonant_182 rfl rfl ?_
                refine mk_iload (nx := 186) X 6 d_Mo_isDissonant_184 rfl rfl ?_
                refine mk_icmp_ge (tgt := 191) (nx := 189) X d_Mo_isDissonant_186 (by omega) (by omega) (by decide) rfl (fun c186 => ?_) (fun c186 => ?_)
                · skip
                  refine mk_iinc (nx := 194) X 7 [(7, .int (zi ((u : Int) + 1))), (8, .int (zi (cpt c u (t : Int)))), (0, .ref (ad 0)), (1, .int (zi (a : Int))), (2, .int (zi (b : Int))), (3, .int (zi (t : Int))), (4, .int (zi (cpt c a (t : Int)))), (5, .int (zi (cpt c b (t : Int))))] d_Mo_isDissonant_191 rfl (by decide) rfl rfl ?_
                  refine mk_goto (tgt := 132) X d_Mo_isDissonant_194 (by decide) ?_
                  refine mk_lv [2, 3, 4, 5, 6, 7, 0] rfl ?_
                  exact ih132 (u + 1) (by omega) (by first | exact hnc) (by first | exact hfo | exact fun w hw => hfo w (by omega)) (by first | exact lt_0 | exact lt_s hfl (by unfold hso; omega)) (by omega) (by omega)
                · skip
                  refine mk_iconst (nx := 190) X d_Mo_isDissonant_189 rfl ?_
                  exact hret _ _ _ _ d_Mo_isDissonant_190 (by omega) (by exact ⟨rfl, Or.inr ⟨rfl, fun hd => (hd.2.1 (by rw [← hG]; omega)).2 ⟨u, by omega, by unfold hso; omega, by omega, by omega, by omega, by omega⟩⟩⟩)
  have L86 : ∀ nf : Nat, ∀ (u : Nat), (u ≤ 4) → (¬ cons G) → (G = 5) → (∀ w, w < u → ¬ (hso c w t ∧ cpt c w t = 1001)) → 4 - u < nf → mk_A p_ l e_ rm_Mo_isDissonant s_ m_ as_ bl_ me_ co_ Q_ 12 D cmcl (mo_sh cs ad) 16 16 ad I [(0, .ref (ad 0)), (1, .int (zi (a : Int))), (2, .int (zi (b : Int))), (3, .int (zi (t : Int))), (4, .int (zi (cpt c a (t : Int)))), (5, .int (zi (cpt c b (t : Int)))), (7, .int (zi (u : Int)))] 86 [] := by
    intro nf
    induction nf with
    | zero => intro u hu hnc hg5 hfo hn; exact absurd hn (Nat.not_lt_zero _)
    | succ nf ih86 =>
      intro u hu hnc hg5 hfo hn86
      refine mk_iload (nx := 88) X 6 d_Mo_isDissonant_86 rfl rfl ?_
      refine mk_iconst (nx := 89) X d_Mo_isDissonant_88 rfl ?_
      refine mk_icmp_ge (tgt := 129) (nx := 92) X d_Mo_isDissonant_89 (by omega) (by omega) (by decide) rfl (fun c89 => ?_) (fun c89 => ?_)
      · skip
        refine mk_iconst (nx := 130) X d_Mo_isDissonant_129 rfl ?_
        refine mk_istore (nx := 132) X [(7, .int (zi 0)), (0, .ref (ad 0)), (1, .int (zi (a : Int))), (2, .int (zi (b : Int))), (3, .int (zi (t : Int))), (4, .int (zi (cpt c a (t : Int)))), (5, .int (zi (cpt c b (t : Int))))] d_Mo_isDissonant_130 (by decide) rfl rfl ?_
        refine mk_lv [1, 2, 3, 4, 5, 6, 0] rfl ?_
        exact L132 _ 0 (by omega) (by first | exact hnc) (by first | exact hfo | exact fun w hw => hfo w (by omega)) (by first | exact lt_0 | exact lt_s hfl (by unfold hso; omega)) (by omega) (Nat.lt_succ_self _)
      · skip
        have hpu := cpt_b h.1.1 h.1.2.2.1 (show u < 4 by omega) (t : Int)
        refine mk_aloadn (nx := 93) X 0 d_Mo_isDissonant_92 rfl rfl ?_
        refine mk_iload (nx := 95) X 6 d_Mo_isDissonant_93 rfl rfl ?_
        refine mk_iloadn (nx := 96) X 3 d_Mo_isDissonant_95 rfl rfl ?_
        refine mk_callVi (nx := 99) (n := 2) (As := [.int (zi (u : Int)), .int (zi (t : Int))]) (rest := []) X 0 (by decide) (mh_Mo cs ad _) rfl (c_Mo_sounds l D cs ad hi c I h hL u (by omega) t ht) (g_Mo_sounds wd_788) rfl ⟨rfl, rfl⟩ (by decide +kernel) ⟨by decide, by decide⟩ rfl (Nat.le_of_ble_eq_true rfl) rfl d_Mo_isDissonant_96 rfl ?_
        intro r96 J7 hJ7
        obtain ⟨rfl, hr96⟩ := hJ7
        refine mk_if_eq (tgt := 123) (nx := 102) X d_Mo_isDissonant_99 (by omega) (by decide) rfl (fun c99 => ?_) (fun c99 => ?_)
        · skip
          refine mk_iinc (nx := 126) X 6 [(7, .int (zi ((u : Int) + 1))), (0, .ref (ad 0)), (1, .int (zi (a : Int))), (2, .int (zi (b : Int))), (3, .int (zi (t : Int))), (4, .int (zi (cpt c a (t : Int)))), (5, .int (zi (cpt c b (t : Int))))] d_Mo_isDissonant_123 rfl (by decide) rfl rfl ?_
          refine mk_goto (tgt := 86) X d_Mo_isDissonant_126 (by decide) ?_
          refine mk_lv [1, 2, 3, 4, 5, 6, 0] rfl ?_
          exact ih86 (u + 1) (by omega) (by first | exact hnc | (unfold cons; omega)) (by omega) (by first | exact lt_0 | exact lt_s hfo (by unfold hso; omega)) (by omega)
        · skip
          refine mk_aloadn (nx := 103) X 0 d_Mo_isDissonant_102 rfl rfl ?_
          refine mk_get (nx := 106) (v := .ref (ad 8)) X 0 (by decide) (mh_Mo cs ad _) rfl in_Mo 15 (by decide) wd_610 rfl rfl d_Mo_isDissonant_103 rfl ?_
          refine mk_sipush (nx := 109) X d_Mo_isDissonant_106 (by decide) rfl ?_
          refine mk_iload (nx := 111) X 6 d_Mo_isDissonant_109 rfl rfl ?_
          refine mk_imul (nx := 112) X d_Mo_isDissonant_111 rfl ?_
          refine mk_iloadn (nx := 113) X 3 d_Mo_isDissonant_112 rfl rfl ?_
          refine mk_iadd (nx := 114) X d_Mo_isDissonant_113 rfl ?_
          refine mk_iald (nx := 115) (j := ((1300 * u) + t)) X 8 0 (by decide) (mh_pitchAt cs ad _) rfl (by omega) (by omega) (by decide) (by omega) d_Mo_isDissonant_114 rfl ?_
          rw [show I 8 ((1300 * u) + t) = cpt c u (t : Int) from ((hL.2 u (by omega) (by omega)).2 t ht).2.1]
          refine mk_sipush (nx := 118) X d_Mo_isDissonant_115 (by decide) rfl ?_
          refine mk_icmp_ne (tgt := 123) (nx := 121) X d_Mo_isDissonant_118 (by omega) (by omega) (by decide) rfl (fun c118 => ?_) (fun c118 => ?_)
          · skip
            refine mk_iinc (nx := 126) X 6 [(7, .int (zi ((u : Int) + 1))), (0, .ref (ad 0)), (1, .int (zi (a : Int))), (2, .int (zi (b : Int))), (3, .int (zi (t : Int))), (4, .int (zi (cpt c a (t : Int)))), (5, .int (zi (cpt c b (t : Int))))] d_Mo_isDissonant_123 rfl (by decide) rfl rfl ?_
            refine mk_goto (tgt := 86) X d_Mo_isDissonant_126 (by decide) ?_
            refine mk_lv [1, 2, 3, 4, 5, 6, 0] rfl ?_
            exact ih86 (u + 1) (by omega) (by first | exact hnc | (unfold cons; omega)) (by omega) (by first | exact lt_0 | exact lt_s hfo (by unfold hso; omega)) (by omega)
          · skip
            refine mk_iconst (nx := 122) X d_Mo_isDissonant_121 rfl ?_
            exact hret _ _ _ _ d_Mo_isDissonant_122 (by omega) (by exact ⟨rfl, Or.inr ⟨rfl, fun hd => (hd.2.1 (by rw [← hG]; exact hg5)).1 ⟨u, by omega, by unfold hso; omega, by omega⟩⟩⟩)
  refine mk_aloadn (nx := 1) X 0 d_Mo_isDissonant_0 rfl rfl ?_
  refine mk_get (nx := 4) (v := .ref (ad 8)) X 0 (by decide) (mh_Mo cs ad _) rfl in_Mo 15 (by decide) wd_610 rfl rfl d_Mo_isDissonant_1 rfl ?_
  refine mk_sipush (nx := 7) X d_Mo_isDissonant_4 (by decide) rfl ?_
  refine mk_iloadn (nx := 8) X 1 d_Mo_isDissonant_7 rfl rfl ?_
  refine mk_imul (nx := 9) X d_Mo_isDissonant_8 rfl ?_
  refine mk_iloadn (nx := 10) X 3 d_Mo_isDissonant_9 rfl rfl ?_
  refine mk_iadd (nx := 11) X d_Mo_isDissonant_10 rfl ?_
  refine mk_iald (nx := 12) (j := ((1300 * a) + t)) X 8 0 (by decide) (mh_pitchAt cs ad _) rfl (by omega) (by omega) (by decide) (by omega) d_Mo_isDissonant_11 rfl ?_
  rw [show I 8 ((1300 * a) + t) = cpt c a (t : Int) from ((hL.2 a ha hona).2 t ht).2.1]
  refine mk_istore (nx := 14) X [(4, .int (zi (cpt c a (t : Int)))), (0, .ref (ad 0)), (1, .int (zi (a : Int))), (2, .int (zi (b : Int))), (3, .int (zi (t : Int)))] d_Mo_isDissonant_12 (by decide) rfl rfl ?_
  refine mk_aloadn (nx := 15) X 1 d_Mo_isDissonant_14 rfl rfl ?_
  refine mk_get (nx := 18) (v := .ref (ad 8)) X 0 (by decide) (mh_Mo cs ad _) rfl in_Mo 15 (by decide) wd_610 rfl rfl d_Mo_isDissonant_15 rfl ?_
  refine mk_sipush (nx := 21) X d_Mo_isDissonant_18 (by decide) rfl ?_
  refine mk_iloadn (nx := 22) X 3 d_Mo_isDissonant_21 rfl rfl ?_
  refine mk_imul (nx := 23) X d_Mo_isDissonant_22 rfl ?_
  refine mk_iloadn (nx := 24) X 4 d_Mo_isDissonant_23 rfl rfl ?_
  refine mk_iadd (nx := 25) X d_Mo_isDissonant_24 rfl ?_
  refine mk_iald (nx := 26) (j := ((1300 * b) + t)) X 8 0 (by decide) (mh_pitchAt cs ad _) rfl (by omega) (by omega) (by decide) (by omega) d_Mo_isDissonant_25 rfl ?_
  rw [show I 8 ((1300 * b) + t) = cpt c b (t : Int) from ((hL.2 b hb honb).2 t ht).2.1]
  refine mk_istore (nx := 28) X [(5, .int (zi (cpt c b (t : Int)))), (4, .int (zi (cpt c a (t : Int)))), (0, .ref (ad 0)), (1, .int (zi (a : Int))), (2, .int (zi (b : Int))), (3, .int (zi (t : Int)))] d_Mo_isDissonant_26 (by decide) rfl rfl ?_
  refine mk_iload (nx := 30) X 1 d_Mo_isDissonant_28 rfl rfl ?_
  refine mk_iload (nx := 32) X 0 d_Mo_isDissonant_30 rfl rfl ?_
  refine mk_callSi (nx := 35) (n := 2) (As := [.int (zi (cpt c a (t : Int))), .int (zi (cpt c b (t : Int)))]) (rest := []) X (c_Mo_gap l D cs ad hi I (cpt c a (t : Int)) (cpt c b (t : Int)) (by omega) (by omega)) (g_Mo_gap wd_796) rfl ⟨rfl, rfl⟩ (by decide +kernel) ⟨by decide, by decide⟩ rfl (Nat.le_of_ble_eq_true rfl) rfl d_Mo_isDissonant_32 rfl ?_
  intro r32 J8 hJ8
  obtain ⟨rfl, rfl⟩ := hJ8
  rw [show gp (cpt c a (t : Int)) (cpt c b (t : Int)) = G from hG.symm]
  refine mk_istore (nx := 37) X [(6, .int (zi G)), (5, .int (zi (cpt c b (t : Int)))), (4, .int (zi (cpt c a (t : Int)))), (0, .ref (ad 0)), (1, .int (zi (a : Int))), (2, .int (zi (b : Int))), (3, .int (zi (t : Int)))] d_Mo_isDissonant_35 (by decide) rfl rfl ?_
  refine mk_iload (nx := 39) X 0 d_Mo_isDissonant_37 rfl rfl ?_
  refine mk_if_eq (tgt := 75) (nx := 42) X d_Mo_isDissonant_39 (by omega) (by decide) rfl (fun c39 => ?_) (fun c39 => ?_)
  · skip
    refine mk_iconst (nx := 76) X d_Mo_isDissonant_75 rfl ?_
    exact hret _ _ _ _ d_Mo_isDissonant_76 (by omega) (by exact ⟨rfl, Or.inr ⟨rfl, fun hd => hd.1 (by rw [← hG]; unfold cons; omega)⟩⟩)
  · skip
    refine mk_iload (nx := 44) X 0 d_Mo_isDissonant_42 rfl rfl ?_
    refine mk_iconst (nx := 45) X d_Mo_isDissonant_44 rfl ?_
    refine mk_icmp_eq (tgt := 75) (nx := 48) X d_Mo_isDissonant_45 (by omega) (by omega) (by decide) rfl (fun c45 => ?_) (fun c45 => ?_)
    · skip
      refine mk_iconst (nx := 76) X d_Mo_isDissonant_75 rfl ?_
      exact hret _ _ _ _ d_Mo_isDissonant_76 (by omega) (by exact ⟨rfl, Or.inr ⟨rfl, fun hd => hd.1 (by rw [← hG]; unfold cons; omega)⟩⟩)
    · skip
      refine mk_iload (nx := 50) X 0 d_Mo_isDissonant_48 rfl rfl ?_
      refine mk_iconst (nx := 51) X d_Mo_isDissonant_50 rfl ?_
      refine mk_icmp_eq (tgt := 75) (nx := 54) X d_Mo_isDissonant_51 (by omega) (by omega) (by decide) rfl (fun c51 => ?_) (fun c51 => ?_)
      · skip
        refine mk_iconst (nx := 76) X d_Mo_isDissonant_75 rfl ?_
        exact hret _ _ _ _ d_Mo_isDissonant_76 (by omega) (by exact ⟨rfl, Or.inr ⟨rfl, fun hd => hd.1 (by rw [← hG]; unfold cons; omega)⟩⟩)
      · skip
        refine mk_iload (nx := 56) X 0 d_Mo_isDissonant_54 rfl rfl ?_
        refine mk_bipush (nx := 58) X d_Mo_isDissonant_56 (by decide) rfl ?_
        refine mk_icmp_eq (tgt := 75) (nx := 61) X d_Mo_isDissonant_58 (by omega) (by omega) (by decide) rfl (fun c58 => ?_) (fun c58 => ?_)
        · skip
          refine mk_iconst (nx := 76) X d_Mo_isDissonant_75 rfl ?_
          exact hret _ _ _ _ d_Mo_isDissonant_76 (by omega) (by exact ⟨rfl, Or.inr ⟨rfl, fun hd => hd.1 (by rw [← hG]; unfold cons; omega)⟩⟩)
        · skip
          refine mk_iload (nx := 63) X 0 d_Mo_isDissonant_61 rfl rfl ?_
          refine mk_bipush (nx := 65) X d_Mo_isDissonant_63 (by decide) rfl ?_
          refine mk_icmp_eq (tgt := 75) (nx := 68) X d_Mo_isDissonant_65 (by omega) (by omega) (by decide) rfl (fun c65 => ?_) (fun c65 => ?_)
          · skip
            refine mk_iconst (nx := 76) X d_Mo_isDissonant_75 rfl ?_
            exact hret _ _ _ _ d_Mo_isDissonant_76 (by omega) (by exact ⟨rfl, Or.inr ⟨rfl, fun hd => hd.1 (by rw [← hG]; unfold cons; omega)⟩⟩)
          · skip
            refine mk_iload (nx := 70) X 0 d_Mo_isDissonant_68 rfl rfl ?_
            refine mk_bipush (nx := 72) X d_Mo_isDissonant_70 (by decide) rfl ?_
            refine mk_icmp_ne (tgt := 77) (nx := 75) X d_Mo_isDissonant_72 (by omega) (by omega) (by decide) rfl (fun c72 => ?_) (fun c72 => ?_)
            · skip
              refine mk_iload (nx := 79) X 0 d_Mo_isDissonant_77 rfl rfl ?_
              refine mk_iconst (nx := 80) X d_Mo_isDissonant_79 rfl ?_
              refine mk_icmp_ne (tgt := 197) (nx := 83) X d_Mo_isDissonant_80 (by omega) (by omega) (by decide) rfl (fun c80 => ?_) (fun c80 => ?_)
              · skip
                refine mk_lv [3, 4, 5, 6, 2, 1] rfl ?_
                exact L197  (by first | exact hnc | (unfold cons; omega)) (by first | exact h5 | exact fun e => absurd e (by omega) | exact fun _ => ⟨fun ⟨w, h1, h2, h3⟩ => hfo w (by omega) ⟨h2, h3⟩, fun ⟨w, h1, h2⟩ => hfl w (by omega) h2⟩)
              · skip
                refine mk_iconst (nx := 84) X d_Mo_isDissonant_83 rfl ?_
                refine mk_istore (nx := 86) X [(7, .int (zi 0)), (6, .int (zi G)), (5, .int (zi (cpt c b (t : Int)))), (4, .int (zi (cpt c a (t : Int)))), (0, .ref (ad 0)), (1, .int (zi (a : Int))), (2, .int (zi (b : Int))), (3, .int (zi (t : Int)))] d_Mo_isDissonant_84 (by decide) rfl rfl ?_
                refine mk_lv [4, 5, 6, 7, 3, 2, 0] rfl ?_
                exact L86 _ 0 (by omega) (by first | exact hnc | (unfold cons; omega)) (by omega) (by first | exact lt_0 | exact lt_s hfo (by unfold hso; omega)) (Nat.lt_succ_self _)
            · skip
              refine mk_iconst (nx := 76) X d_Mo_isDissonant_75 rfl ?_
              exact hret _ _ _ _ d_Mo_isDissonant_76 (by omega) (by exact ⟨rfl, Or.inr ⟨rfl, fun hd => hd.1 (by rw [← hG]; unfold cons; omega)⟩⟩)
