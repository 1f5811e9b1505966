/-! a fault of two VOICES -/
noncomputable def disI (c : Wo) (a b : Nat) (t : Int) : Int := @ite Int (dis c a b t) (Classical.propDecidable _) 1 0
theorem disI_y {c : Wo} {a b : Nat} {t : Int} (h : dis c a b t) : disI c a b t = 1 := if_pos h
theorem disI_n {c : Wo} {a b : Nat} {t : Int} (h : ¬ dis c a b t) : disI c a b t = 0 := if_neg h
def btm (c : Wo) (t : Int) : Int := if 0 < t then t - 1 else if 0 < c 0 6 then c 0 6 - 1 else -1
def brQ (rule p q sa sb d bt x y : Int) : Prop := ¬ p = 1000 ∧ ¬ q = 1000 ∧ ¬ p = 1001 ∧ ¬ q = 1001 ∧ ((rule = 4 ∧ (sa = 1 ∨ sb = 1) ∧ d = 1) ∨ (rule = 64 ∧ (sa = 1 ∨ sb = 1) ∧ p < q) ∨ ((rule = 16 ∨ rule = 32) ∧ sa = 1 ∧ sb = 1 ∧ 0 ≤ bt ∧ ¬ x = 1000 ∧ ¬ y = 1000 ∧ ¬ x = 1001 ∧ ¬ y = 1001 ∧ ((x < p ∧ y < q) ∨ (p < x ∧ q < y)) ∧ (gp p q = 0 ∨ gp p q = 7) ∧ ((rule = 16 ∧ gp p q = gp x y) ∨ (rule = 32 ∧ ¬ gp p q = gp x y ∧ ((q ≤ p ∧ (2 < p - x ∨ p - x < -2)) ∨ (p < q ∧ (2 < q - y ∨ q - y < -2)))))))
def brP (c : Wo) (rule : Int) (a b : Nat) (t : Int) : Prop := c (3 + a) 0 = 1 ∧ c (3 + b) 0 = 1 ∧ brQ rule (cpt c a t) (cpt c b t) (csk c a t) (csk c b t) (disI c a b t) (btm c t) (cpt c a (btm c t)) (cpt c b (btm c t))
theorem btm_b {c : Wo} {t : Int} (hS : wfS c) (h0 : 0 ≤ t) (h1 : t < an_end c) : -1 ≤ btm c t ∧ btm c t < an_end c := by
  have h2 := hS.2.2.2.2.1
  unfold btm
  unfold an_end at *
  by_cases a : 0 < t
  · rw [if_pos a]; omega
  · rw [if_neg a]
    by_cases b : 0 < c 0 6
    · rw [if_pos b, if_pos b]; omega
    · rw [if_neg b]; rw [if_neg b] at h1 ⊢; omega
section BQ
variable {rule p q sa sb d bt x y : Int}
theorem brQ_4 (h : ¬ p = 1000 ∧ ¬ q = 1000 ∧ ¬ p = 1001 ∧ ¬ q = 1001) : brQ 4 p q sa sb d bt x y ↔ (sa = 1 ∨ sb = 1) ∧ d = 1 := by
  unfold brQ
  constructor
  · rintro ⟨_, _, _, _, h3 | h3 | h3⟩
    · exact h3.2
    · exact absurd h3.1 (by decide)
    · exact absurd h3.1 (by decide)
  · intro h3
    exact ⟨h.1, h.2.1, h.2.2.1, h.2.2.2, Or.inl ⟨rfl, h3⟩⟩
theorem brQ_64 (h : ¬ p = 1000 ∧ ¬ q = 1000 ∧ ¬ p = 1001 ∧ ¬ q = 1001) : brQ 64 p q sa sb d bt x y ↔ (sa = 1 ∨ sb = 1) ∧ p < q := by
  unfold brQ
  constructor
  · rintro ⟨_, _, _, _, h3 | h3 | h3⟩
    · exact absurd h3.1 (by decide)
    · exact h3.2
    · exact absurd h3.1 (by decide)
  · intro h3
    exact ⟨h.1, h.2.1, h.2.2.1, h.2.2.2, Or.inr (Or.inl ⟨rfl, h3⟩)⟩
theorem brQ_p (h : ¬ p = 1000 ∧ ¬ q = 1000 ∧ ¬ p = 1001 ∧ ¬ q = 1001) (hr : rule = 16 ∨ rule = 32) : brQ rule p q sa sb d bt x y ↔ (sa = 1 ∧ sb = 1 ∧ 0 ≤ bt ∧ ¬ x = 1000 ∧ ¬ y = 1000 ∧ ¬ x = 1001 ∧ ¬ y = 1001 ∧ ((x < p ∧ y < q) ∨ (p < x ∧ q < y)) ∧ (gp p q = 0 ∨ gp p q = 7) ∧ ((rule = 16 ∧ gp p q = gp x y) ∨ (rule = 32 ∧ ¬ gp p q = gp x y ∧ ((q ≤ p ∧ (2 < p - x ∨ p - x < -2)) ∨ (p < q ∧ (2 < q - y ∨ q - y < -2)))))) := by
  unfold brQ
  constructor
  · rintro ⟨_, _, _, _, h3 | h3 | h3⟩
    · exact absurd h3.1 (by omega)
    · exact absurd h3.1 (by omega)
    · exact h3.2
  · intro h3
    exact ⟨h.1, h.2.1, h.2.2.1, h.2.2.2, Or.inr (Or.inr ⟨hr, h3⟩)⟩
end BQ
theorem csk_01 (c : Wo) (v : Nat) (t : Int) : 0 ≤ csk c v t ∧ csk c v t ≤ 1 := by
  rcases csk_b c v t with q | q <;> omega
theorem gp_b (p q : Int) : 0 ≤ gp p q ∧ gp p q < 12 := by
  unfold gp
  omega

-- CanonMakerModel.breaks(IIII)Z
theorem d_Mo_breaks_0 : decode prog_9_method_29_code 0 = .ok (.aload_n 0, 1) := by decide +kernel
theorem d_Mo_breaks_1 : decode prog_9_method_29_code 1 = .ok (.iload_n 2, 1) := by decide +kernel
theorem d_Mo_breaks_2 : decode prog_9_method_29_code 2 = .ok (.iload 4, 2) := by decide +kernel
theorem d_Mo_breaks_4 : decode prog_9_method_29_code 4 = .ok (.invokevirtual 114, 3) := by decide +kernel
theorem d_Mo_breaks_7 : decode prog_9_method_29_code 7 = .ok (.ifCond .eq 13, 3) := by decide +kernel
theorem d_Mo_breaks_10 : decode prog_9_method_29_code 10 = .ok (.aload_n 0, 1) := by decide +kernel
theorem d_Mo_breaks_11 : decode prog_9_method_29_code 11 = .ok (.iload_n 3, 1) := by decide +kernel
theorem d_Mo_breaks_12 : decode prog_9_method_29_code 12 = .ok (.iload 4, 2) := by decide +kernel
theorem d_Mo_breaks_14 : decode prog_9_method_29_code 14 = .ok (.invokevirtual 114, 3) := by decide +kernel
theorem d_Mo_breaks_17 : decode prog_9_method_29_code 17 = .ok (.ifCond .ne 5, 3) := by decide +kernel
theorem d_Mo_breaks_20 : decode prog_9_method_29_code 20 = .ok (.iconst 0, 1) := by decide +kernel
theorem d_Mo_breaks_21 : decode prog_9_method_29_code 21 = .ok (.ireturn, 1) := by decide +kernel
theorem d_Mo_breaks_22 : decode prog_9_method_29_code 22 = .ok (.aload_n 0, 1) := by decide +kernel
theorem d_Mo_breaks_23 : decode prog_9_method_29_code 23 = .ok (.getfield 42, 3) := by decide +kernel
theorem d_Mo_breaks_26 : decode prog_9_method_29_code 26 = .ok (.sipush 1300, 3) := by decide +kernel
theorem d_Mo_breaks_29 : decode prog_9_method_29_code 29 = .ok (.iload_n 2, 1) := by decide +kernel
theorem d_Mo_breaks_30 : decode prog_9_method_29_code 30 = .ok (.imul, 1) := by decide +kernel
theorem d_Mo_breaks_31 : decode prog_9_method_29_code 31 = .ok (.iload 4, 2) := by decide +kernel
theorem d_Mo_breaks_33 : decode prog_9_method_29_code 33 = .ok (.iadd, 1) := by decide +kernel
theorem d_Mo_breaks_34 : decode prog_9_method_29_code 34 = .ok (.iaload, 1) := by decide +kernel
theorem d_Mo_breaks_35 : decode prog_9_method_29_code 35 = .ok (.istore 5, 2) := by decide +kernel
theorem d_Mo_breaks_37 : decode prog_9_method_29_code 37 = .ok (.aload_n 0, 1) := by decide +kernel
theorem d_Mo_breaks_38 : decode prog_9_method_29_code 38 = .ok (.getfield 42, 3) := by decide +kernel
theorem d_Mo_breaks_41 : decode prog_9_method_29_code 41 = .ok (.sipush 1300, 3) := by decide +kernel
theorem d_Mo_breaks_44 : decode prog_9_method_29_code 44 = .ok (.iload_n 3, 1) := by decide +kernel
theorem d_Mo_breaks_45 : decode prog_9_method_29_code 45 = .ok (.imul, 1) := by decide +kernel
theorem d_Mo_breaks_46 : decode prog_9_method_29_code 46 = .ok (.iload 4, 2) := by decide +kernel
theorem d_Mo_breaks_48 : decode prog_9_method_29_code 48 = .ok (.iadd, 1) := by decide +kernel
theorem d_Mo_breaks_49 : decode prog_9_method_29_code 49 = .ok (.iaload, 1) := by decide +kernel
theorem d_Mo_breaks_50 : decode prog_9_method_29_code 50 = .ok (.istore 6, 2) := by decide +kernel
theorem d_Mo_breaks_52 : decode prog_9_method_29_code 52 = .ok (.iload 5, 2) := by decide +kernel
theorem d_Mo_breaks_54 : decode prog_9_method_29_code 54 = .ok (.sipush 1001, 3) := by decide +kernel
theorem d_Mo_breaks_57 : decode prog_9_method_29_code 57 = .ok (.if_icmp .eq 11, 3) := by decide +kernel
theorem d_Mo_breaks_60 : decode prog_9_method_29_code 60 = .ok (.iload 6, 2) := by decide +kernel
theorem d_Mo_breaks_62 : decode prog_9_method_29_code 62 = .ok (.sipush 1001, 3) := by decide +kernel
theorem d_Mo_breaks_65 : decode prog_9_method_29_code 65 = .ok (.if_icmp .ne 5, 3) := by decide +kernel
theorem d_Mo_breaks_68 : decode prog_9_method_29_code 68 = .ok (.iconst 0, 1) := by decide +kernel
theorem d_Mo_breaks_69 : decode prog_9_method_29_code 69 = .ok (.ireturn, 1) := by decide +kernel
theorem d_Mo_breaks_70 : decode prog_9_method_29_code 70 = .ok (.aload_n 0, 1) := by decide +kernel
theorem d_Mo_breaks_71 : decode prog_9_method_29_code 71 = .ok (.iload_n 2, 1) := by decide +kernel
theorem d_Mo_breaks_72 : decode prog_9_method_29_code 72 = .ok (.iload 4, 2) := by decide +kernel
theorem d_Mo_breaks_74 : decode prog_9_method_29_code 74 = .ok (.invokevirtual 103, 3) := by decide +kernel
theorem d_Mo_breaks_77 : decode prog_9_method_29_code 77 = .ok (.ifCond .eq 17, 3) := by decide +kernel
theorem d_Mo_breaks_80 : decode prog_9_method_29_code 80 = .ok (.aload_n 0, 1) := by decide +kernel
theorem d_Mo_breaks_81 : decode prog_9_method_29_code 81 = .ok (.iload_n 3, 1) := by decide +kernel
theorem d_Mo_breaks_82 : decode prog_9_method_29_code 82 = .ok (.iload 4, 2) := by decide +kernel
theorem d_Mo_breaks_84 : decode prog_9_method_29_code 84 = .ok (.invokevirtual 103, 3) := by decide +kernel
theorem d_Mo_breaks_87 : decode prog_9_method_29_code 87 = .ok (.ifCond .eq 7, 3) := by decide +kernel
theorem d_Mo_breaks_90 : decode prog_9_method_29_code 90 = .ok (.iconst 1, 1) := by decide +kernel
theorem d_Mo_breaks_91 : decode prog_9_method_29_code 91 = .ok (.goto 4, 3) := by decide +kernel
theorem d_Mo_breaks_94 : decode prog_9_method_29_code 94 = .ok (.iconst 0, 1) := by decide +kernel
theorem d_Mo_breaks_95 : decode prog_9_method_29_code 95 = .ok (.istore 7, 2) := by decide +kernel
theorem d_Mo_breaks_97 : decode prog_9_method_29_code 97 = .ok (.aload_n 0, 1) := by decide +kernel
theorem d_Mo_breaks_98 : decode prog_9_method_29_code 98 = .ok (.iload_n 2, 1) := by decide +kernel
theorem d_Mo_breaks_99 : decode prog_9_method_29_code 99 = .ok (.iload 4, 2) := by decide +kernel
theorem d_Mo_breaks_101 : decode prog_9_method_29_code 101 = .ok (.invokevirtual 103, 3) := by decide +kernel
theorem d_Mo_breaks_104 : decode prog_9_method_29_code 104 = .ok (.ifCond .ne 13, 3) := by decide +kernel
theorem d_Mo_breaks_107 : decode prog_9_method_29_code 107 = .ok (.aload_n 0, 1) := by decide +kernel
theorem d_Mo_breaks_108 : decode prog_9_method_29_code 108 = .ok (.iload_n 3, 1) := by decide +kernel
theorem d_Mo_breaks_109 : decode prog_9_method_29_code 109 = .ok (.iload 4, 2) := by decide +kernel
theorem d_Mo_breaks_111 : decode prog_9_method_29_code 111 = .ok (.invokevirtual 103, 3) := by decide +kernel
theorem d_Mo_breaks_114 : decode prog_9_method_29_code 114 = .ok (.ifCond .eq 7, 3) := by decide +kernel
theorem d_Mo_breaks_117 : decode prog_9_method_29_code 117 = .ok (.iconst 1, 1) := by decide +kernel
theorem d_Mo_breaks_118 : decode prog_9_method_29_code 118 = .ok (.goto 4, 3) := by decide +kernel
theorem d_Mo_breaks_121 : decode prog_9_method_29_code 121 = .ok (.iconst 0, 1) := by decide +kernel
theorem d_Mo_breaks_122 : decode prog_9_method_29_code 122 = .ok (.istore 8, 2) := by decide +kernel
theorem d_Mo_breaks_124 : decode prog_9_method_29_code 124 = .ok (.iload_n 1, 1) := by decide +kernel
theorem d_Mo_breaks_125 : decode prog_9_method_29_code 125 = .ok (.iconst 4, 1) := by decide +kernel
theorem d_Mo_breaks_126 : decode prog_9_method_29_code 126 = .ok (.if_icmp .ne 25, 3) := by decide +kernel
theorem d_Mo_breaks_129 : decode prog_9_method_29_code 129 = .ok (.iload 8, 2) := by decide +kernel
theorem d_Mo_breaks_131 : decode prog_9_method_29_code 131 = .ok (.ifCond .eq 18, 3) := by decide +kernel
theorem d_Mo_breaks_134 : decode prog_9_method_29_code 134 = .ok (.aload_n 0, 1) := by decide +kernel
theorem d_Mo_breaks_135 : decode prog_9_method_29_code 135 = .ok (.iload_n 2, 1) := by decide +kernel
theorem d_Mo_breaks_136 : decode prog_9_method_29_code 136 = .ok (.iload_n 3, 1) := by decide +kernel
theorem d_Mo_breaks_137 : decode prog_9_method_29_code 137 = .ok (.iload 4, 2) := by decide +kernel
theorem d_Mo_breaks_139 : decode prog_9_method_29_code 139 = .ok (.invokevirtual 120, 3) := by decide +kernel
theorem d_Mo_breaks_142 : decode prog_9_method_29_code 142 = .ok (.ifCond .eq 7, 3) := by decide +kernel
theorem d_Mo_breaks_145 : decode prog_9_method_29_code 145 = .ok (.iconst 1, 1) := by decide +kernel
theorem d_Mo_breaks_146 : decode prog_9_method_29_code 146 = .ok (.goto 4, 3) := by decide +kernel
theorem d_Mo_breaks_149 : decode prog_9_method_29_code 149 = .ok (.iconst 0, 1) := by decide +kernel
theorem d_Mo_breaks_150 : decode prog_9_method_29_code 150 = .ok (.ireturn, 1) := by decide +kernel
theorem d_Mo_breaks_151 : decode prog_9_method_29_code 151 = .ok (.iload_n 1, 1) := by decide +kernel
theorem d_Mo_breaks_152 : decode prog_9_method_29_code 152 = .ok (.bipush 64, 2) := by decide +kernel
theorem d_Mo_breaks_154 : decode prog_9_method_29_code 154 = .ok (.if_icmp .ne 21, 3) := by decide +kernel
theorem d_Mo_breaks_157 : decode prog_9_method_29_code 157 = .ok (.iload 8, 2) := by decide +kernel
theorem d_Mo_breaks_159 : decode prog_9_method_29_code 159 = .ok (.ifCond .eq 14, 3) := by decide +kernel
theorem d_Mo_breaks_162 : decode prog_9_method_29_code 162 = .ok (.iload 5, 2) := by decide +kernel
theorem d_Mo_breaks_164 : decode prog_9_method_29_code 164 = .ok (.iload 6, 2) := by decide +kernel
theorem d_Mo_breaks_166 : decode prog_9_method_29_code 166 = .ok (.if_icmp .ge 7, 3) := by decide +kernel
theorem d_Mo_breaks_169 : decode prog_9_method_29_code 169 = .ok (.iconst 1, 1) := by decide +kernel
theorem d_Mo_breaks_170 : decode prog_9_method_29_code 170 = .ok (.goto 4, 3) := by decide +kernel
theorem d_Mo_breaks_173 : decode prog_9_method_29_code 173 = .ok (.iconst 0, 1) := by decide +kernel
theorem d_Mo_breaks_174 : decode prog_9_method_29_code 174 = .ok (.ireturn, 1) := by decide +kernel
theorem d_Mo_breaks_175 : decode prog_9_method_29_code 175 = .ok (.iload 4, 2) := by decide +kernel
theorem d_Mo_breaks_177 : decode prog_9_method_29_code 177 = .ok (.ifCond .le 10, 3) := by decide +kernel
theorem d_Mo_breaks_180 : decode prog_9_method_29_code 180 = .ok (.iload 4, 2) := by decide +kernel
theorem d_Mo_breaks_182 : decode prog_9_method_29_code 182 = .ok (.iconst 1, 1) := by decide +kernel
theorem d_Mo_breaks_183 : decode prog_9_method_29_code 183 = .ok (.isub, 1) := by decide +kernel
theorem d_Mo_breaks_184 : decode prog_9_method_29_code 184 = .ok (.goto 20, 3) := by decide +kernel
theorem d_Mo_breaks_187 : decode prog_9_method_29_code 187 = .ok (.aload_n 0, 1) := by decide +kernel
theorem d_Mo_breaks_188 : decode prog_9_method_29_code 188 = .ok (.getfield 72, 3) := by decide +kernel
theorem d_Mo_breaks_191 : decode prog_9_method_29_code 191 = .ok (.ifCond .le 12, 3) := by decide +kernel
theorem d_Mo_breaks_194 : decode prog_9_method_29_code 194 = .ok (.aload_n 0, 1) := by decide +kernel
theorem d_Mo_breaks_195 : decode prog_9_method_29_code 195 = .ok (.getfield 72, 3) := by decide +kernel
theorem d_Mo_breaks_198 : decode prog_9_method_29_code 198 = .ok (.iconst 1, 1) := by decide +kernel
theorem d_Mo_breaks_199 : decode prog_9_method_29_code 199 = .ok (.isub, 1) := by decide +kernel
theorem d_Mo_breaks_200 : decode prog_9_method_29_code 200 = .ok (.goto 4, 3) := by decide +kernel
theorem d_Mo_breaks_203 : decode prog_9_method_29_code 203 = .ok (.iconst (-1), 1) := by decide +kernel
theorem d_Mo_breaks_204 : decode prog_9_method_29_code 204 = .ok (.istore 9, 2) := by decide +kernel
theorem d_Mo_breaks_206 : decode prog_9_method_29_code 206 = .ok (.iload 7, 2) := by decide +kernel
theorem d_Mo_breaks_208 : decode prog_9_method_29_code 208 = .ok (.ifCond .eq 28, 3) := by decide +kernel
theorem d_Mo_breaks_211 : decode prog_9_method_29_code 211 = .ok (.iload 9, 2) := by decide +kernel
theorem d_Mo_breaks_213 : decode prog_9_method_29_code 213 = .ok (.ifCond .lt 23, 3) := by decide +kernel
theorem d_Mo_breaks_216 : decode prog_9_method_29_code 216 = .ok (.aload_n 0, 1) := by decide +kernel
theorem d_Mo_breaks_217 : decode prog_9_method_29_code 217 = .ok (.iload_n 2, 1) := by decide +kernel
theorem d_Mo_breaks_218 : decode prog_9_method_29_code 218 = .ok (.iload 9, 2) := by decide +kernel
theorem d_Mo_breaks_220 : decode prog_9_method_29_code 220 = .ok (.invokevirtual 114, 3) := by decide +kernel
theorem d_Mo_breaks_223 : decode prog_9_method_29_code 223 = .ok (.ifCond .eq 13, 3) := by decide +kernel
theorem d_Mo_breaks_226 : decode prog_9_method_29_code 226 = .ok (.aload_n 0, 1) := by decide +kernel
theorem d_Mo_breaks_227 : decode prog_9_method_29_code 227 = .ok (.iload_n 3, 1) := by decide +kernel
theorem d_Mo_breaks_228 : decode prog_9_method_29_code 228 = .ok (.iload 9, 2) := by decide +kernel
theorem d_Mo_breaks_230 : decode prog_9_method_29_code 230 = .ok (.invokevirtual 114, 3) := by decide +kernel
theorem d_Mo_breaks_233 : decode prog_9_method_29_code 233 = .ok (.ifCond .ne 5, 3) := by decide +kernel
theorem d_Mo_breaks_236 : decode prog_9_method_29_code 236 = .ok (.iconst 0, 1) := by decide +kernel
theorem d_Mo_breaks_237 : decode prog_9_method_29_code 237 = .ok (.ireturn, 1) := by decide +kernel
theorem d_Mo_breaks_238 : decode prog_9_method_29_code 238 = .ok (.aload_n 0, 1) := by decide +kernel
theorem d_Mo_breaks_239 : decode prog_9_method_29_code 239 = .ok (.getfield 42, 3) := by decide +kernel
theorem d_Mo_breaks_242 : decode prog_9_method_29_code 242 = .ok (.sipush 1300, 3) := by decide +kernel
theorem d_Mo_breaks_245 : decode prog_9_method_29_code 245 = .ok (.iload_n 2, 1) := by decide +kernel
theorem d_Mo_breaks_246 : decode prog_9_method_29_code 246 = .ok (.imul, 1) := by decide +kernel
theorem d_Mo_breaks_247 : decode prog_9_method_29_code 247 = .ok (.iload 9, 2) := by decide +kernel
theorem d_Mo_breaks_249 : decode prog_9_method_29_code 249 = .ok (.iadd, 1) := by decide +kernel
theorem d_Mo_breaks_250 : decode prog_9_method_29_code 250 = .ok (.iaload, 1) := by decide +kernel
theorem d_Mo_breaks_251 : decode prog_9_method_29_code 251 = .ok (.istore 10, 2) := by decide +kernel
theorem d_Mo_breaks_253 : decode prog_9_method_29_code 253 = .ok (.aload_n 0, 1) := by decide +kernel
theorem d_Mo_breaks_254 : decode prog_9_method_29_code 254 = .ok (.getfield 42, 3) := by decide +kernel
theorem d_Mo_breaks_257 : decode prog_9_method_29_code 257 = .ok (.sipush 1300, 3) := by decide +kernel
theorem d_Mo_breaks_260 : decode prog_9_method_29_code 260 = .ok (.iload_n 3, 1) := by decide +kernel
theorem d_Mo_breaks_261 : decode prog_9_method_29_code 261 = .ok (.imul, 1) := by decide +kernel
theorem d_Mo_breaks_262 : decode prog_9_method_29_code 262 = .ok (.iload 9, 2) := by decide +kernel
theorem d_Mo_breaks_264 : decode prog_9_method_29_code 264 = .ok (.iadd, 1) := by decide +kernel
theorem d_Mo_breaks_265 : decode prog_9_method_29_code 265 = .ok (.iaload, 1) := by decide +kernel
theorem d_Mo_breaks_266 : decode prog_9_method_29_code 266 = .ok (.istore 11, 2) := by decide +kernel
theorem d_Mo_breaks_268 : decode prog_9_method_29_code 268 = .ok (.iload 10, 2) := by decide +kernel
theorem d_Mo_breaks_270 : decode prog_9_method_29_code 270 = .ok (.sipush 1001, 3) := by decide +kernel
theorem d_Mo_breaks_273 : decode prog_9_method_29_code 273 = .ok (.if_icmp .eq 39, 3) := by decide +kernel
theorem d_Mo_breaks_276 : decode prog_9_method_29_code 276 = .ok (.iload 11, 2) := by decide +kernel
theorem d_Mo_breaks_278 : decode prog_9_method_29_code 278 = .ok (.sipush 1001, 3) := by decide +kernel
theorem d_Mo_breaks_281 : decode prog_9_method_29_code 281 = .ok (.if_icmp .eq 31, 3) := by decide +kernel
theorem d_Mo_breaks_284 : decode prog_9_method_29_code 284 = .ok (.iload 5, 2) := by decide +kernel
theorem d_Mo_breaks_286 : decode prog_9_method_29_code 286 = .ok (.iload 10, 2) := by decide +kernel
theorem d_Mo_breaks_288 : decode prog_9_method_29_code 288 = .ok (.if_icmp .le 10, 3) := by decide +kernel
theorem d_Mo_breaks_291 : decode prog_9_method_29_code 291 = .ok (.iload 6, 2) := by decide +kernel
theorem d_Mo_breaks_293 : decode prog_9_method_29_code 293 = .ok (.iload 11, 2) := by decide +kernel
theorem d_Mo_breaks_295 : decode prog_9_method_29_code 295 = .ok (.if_icmp .gt 19, 3) := by decide +kernel
theorem d_Mo_breaks_298 : decode prog_9_method_29_code 298 = .ok (.iload 5, 2) := by decide +kernel
theorem d_Mo_breaks_300 : decode prog_9_method_29_code 300 = .ok (.iload 10, 2) := by decide +kernel
theorem d_Mo_breaks_302 : decode prog_9_method_29_code 302 = .ok (.if_icmp .ge 10, 3) := by decide +kernel
theorem d_Mo_breaks_305 : decode prog_9_method_29_code 305 = .ok (.iload 6, 2) := by decide +kernel
theorem d_Mo_breaks_307 : decode prog_9_method_29_code 307 = .ok (.iload 11, 2) := by decide +kernel
theorem d_Mo_breaks_309 : decode prog_9_method_29_code 309 = .ok (.if_icmp .lt 5, 3) := by decide +kernel
theorem d_Mo_breaks_312 : decode prog_9_method_29_code 312 = .ok (.iconst 0, 1) := by decide +kernel
theorem d_Mo_breaks_313 : decode prog_9_method_29_code 313 = .ok (.ireturn, 1) := by decide +kernel
theorem d_Mo_breaks_314 : decode prog_9_method_29_code 314 = .ok (.iload 5, 2) := by decide +kernel
theorem d_Mo_breaks_316 : decode prog_9_method_29_code 316 = .ok (.iload 6, 2) := by decide +kernel
theorem d_Mo_breaks_318 : decode prog_9_method_29_code 318 = .ok (.invokestatic 111, 3) := by decide +kernel
theorem d_Mo_breaks_321 : decode prog_9_method_29_code 321 = .ok (.istore 12, 2) := by decide +kernel
theorem d_Mo_breaks_323 : decode prog_9_method_29_code 323 = .ok (.iload 10, 2) := by decide +kernel
theorem d_Mo_breaks_325 : decode prog_9_method_29_code 325 = .ok (.iload 11, 2) := by decide +kernel
theorem d_Mo_breaks_327 : decode prog_9_method_29_code 327 = .ok (.invokestatic 111, 3) := by decide +kernel
theorem d_Mo_breaks_330 : decode prog_9_method_29_code 330 = .ok (.istore 13, 2) := by decide +kernel
theorem d_Mo_breaks_332 : decode prog_9_method_29_code 332 = .ok (.iload 12, 2) := by decide +kernel
theorem d_Mo_breaks_334 : decode prog_9_method_29_code 334 = .ok (.ifCond .eq 12, 3) := by decide +kernel
theorem d_Mo_breaks_337 : decode prog_9_method_29_code 337 = .ok (.iload 12, 2) := by decide +kernel
theorem d_Mo_breaks_339 : decode prog_9_method_29_code 339 = .ok (.bipush 7, 2) := by decide +kernel
theorem d_Mo_breaks_341 : decode prog_9_method_29_code 341 = .ok (.if_icmp .eq 5, 3) := by decide +kernel
theorem d_Mo_breaks_344 : decode prog_9_method_29_code 344 = .ok (.iconst 0, 1) := by decide +kernel
theorem d_Mo_breaks_345 : decode prog_9_method_29_code 345 = .ok (.ireturn, 1) := by decide +kernel
theorem d_Mo_breaks_346 : decode prog_9_method_29_code 346 = .ok (.iload_n 1, 1) := by decide +kernel
theorem d_Mo_breaks_347 : decode prog_9_method_29_code 347 = .ok (.bipush 16, 2) := by decide +kernel
theorem d_Mo_breaks_349 : decode prog_9_method_29_code 349 = .ok (.if_icmp .ne 16, 3) := by decide +kernel
theorem d_Mo_breaks_352 : decode prog_9_method_29_code 352 = .ok (.iload 12, 2) := by decide +kernel
theorem d_Mo_breaks_354 : decode prog_9_method_29_code 354 = .ok (.iload 13, 2) := by decide +kernel
theorem d_Mo_breaks_356 : decode prog_9_method_29_code 356 = .ok (.if_icmp .ne 7, 3) := by decide +kernel
theorem d_Mo_breaks_359 : decode prog_9_method_29_code 359 = .ok (.iconst 1, 1) := by decide +kernel
theorem d_Mo_breaks_360 : decode prog_9_method_29_code 360 = .ok (.goto 4, 3) := by decide +kernel
theorem d_Mo_breaks_363 : decode prog_9_method_29_code 363 = .ok (.iconst 0, 1) := by decide +kernel
theorem d_Mo_breaks_364 : decode prog_9_method_29_code 364 = .ok (.ireturn, 1) := by decide +kernel
theorem d_Mo_breaks_365 : decode prog_9_method_29_code 365 = .ok (.iload 5, 2) := by decide +kernel
theorem d_Mo_breaks_367 : decode prog_9_method_29_code 367 = .ok (.iload 6, 2) := by decide +kernel
theorem d_Mo_breaks_369 : decode prog_9_method_29_code 369 = .ok (.if_icmp .lt 11, 3) := by decide +kernel
theorem d_Mo_breaks_372 : decode prog_9_method_29_code 372 = .ok (.iload 5, 2) := by decide +kernel
theorem d_Mo_breaks_374 : decode prog_9_method_29_code 374 = .ok (.iload 10, 2) := by decide +kernel
theorem d_Mo_breaks_376 : decode prog_9_method_29_code 376 = .ok (.isub, 1) := by decide +kernel
theorem d_Mo_breaks_377 : decode prog_9_method_29_code 377 = .ok (.goto 8, 3) := by decide +kernel
theorem d_Mo_breaks_380 : decode prog_9_method_29_code 380 = .ok (.iload 6, 2) := by decide +kernel
theorem d_Mo_breaks_382 : decode prog_9_method_29_code 382 = .ok (.iload 11, 2) := by decide +kernel
theorem d_Mo_breaks_384 : decode prog_9_method_29_code 384 = .ok (.isub, 1) := by decide +kernel
theorem d_Mo_breaks_385 : decode prog_9_method_29_code 385 = .ok (.istore 14, 2) := by decide +kernel
theorem d_Mo_breaks_387 : decode prog_9_method_29_code 387 = .ok (.iload 12, 2) := by decide +kernel
theorem d_Mo_breaks_389 : decode prog_9_method_29_code 389 = .ok (.iload 13, 2) := by decide +kernel
theorem d_Mo_breaks_391 : decode prog_9_method_29_code 391 = .ok (.if_icmp .eq 20, 3) := by decide +kernel
theorem d_Mo_breaks_394 : decode prog_9_method_29_code 394 = .ok (.iload 14, 2) := by decide +kernel
theorem d_Mo_breaks_396 : decode prog_9_method_29_code 396 = .ok (.iconst 2, 1) := by decide +kernel
theorem d_Mo_breaks_397 : decode prog_9_method_29_code 397 = .ok (.if_icmp .gt 10, 3) := by decide +kernel
theorem d_Mo_breaks_400 : decode prog_9_method_29_code 400 = .ok (.iload 14, 2) := by decide +kernel
theorem d_Mo_breaks_402 : decode prog_9_method_29_code 402 = .ok (.bipush (-2), 2) := by decide +kernel
theorem d_Mo_breaks_404 : decode prog_9_method_29_code 404 = .ok (.if_icmp .ge 7, 3) := by decide +kernel
theorem d_Mo_breaks_407 : decode prog_9_method_29_code 407 = .ok (.iconst 1, 1) := by decide +kernel
theorem d_Mo_breaks_408 : decode prog_9_method_29_code 408 = .ok (.goto 4, 3) := by decide +kernel
theorem d_Mo_breaks_411 : decode prog_9_method_29_code 411 = .ok (.iconst 0, 1) := by decide +kernel
theorem d_Mo_breaks_412 : decode prog_9_method_29_code 412 = .ok (.ireturn, 1) := by decide +kernel
abbrev rm_Mo_breaks : Room := { frames := 5, cells := 0, slots := 0, locals := 125 }
set_option maxHeartbeats 4000000 in
set_option maxRecDepth 100000 in
theorem c_Mo_breaks (l : Launch) (D : va_G) (cs : Nat → ClassId) (ad : Nat → Nat) (hi : mo_inj ad) (c I : Wo) (h : moR c I) (hL : MoL c I) (rule : Int) (hru2 : rule = 4 ∨ rule = 16 ∨ rule = 32 ∨ rule = 64) (a b : Nat) (ha : a < 4) (hb : b < 4) (t : Nat) (ht : (t : Int) < an_end c) : mo_C l D cs ad y_Mo_breaks ws_Mo_breaks rm_Mo_breaks [.ref (ad 0), .int (zi rule), .int (zi (a : Int)), .int (zi (b : Int)), .int (zi (t : Int))] I (mk_pi (fun r J => I = J ∧ ((r = 1 ∧ brP c rule a b t) ∨ (r = 0 ∧ ¬ brP c rule a b t)))) := by
  refine mk_metz (own := "CanonMakerModel") (Ts := wA) hi (Nat.le_refl _) (by decide) rfl (fun w h => List.mem_cons_of_mem _ h) rfl (Nat.le_of_ble_eq_true rfl) [(0, .ref (ad 0)), (1, .int (zi rule)), (2, .int (zi (a : Int))), (3, .int (zi (b : Int))), (4, .int (zi (t : Int)))] rfl ?_
  intro p_ e_ s_ m_ as_ bl_ me_ co_ Q_ X hret
  obtain ⟨⟨⟨hn, hN⟩, ⟨hlo, hsc, hbt, hru, hrd, hst⟩, ⟨hV, hV0⟩, ⟨hfc, hF⟩⟩, ⟨i12, iN⟩, ⟨⟨i50, i51, i52, i53, i54⟩, i07, i09⟩, iV, ⟨i010, iF⟩⟩ := id h
  have heb := an_end_b h.1.1 h.1.2.1 h.1.2.2.1
  have hcn := cn_e h.1.1
  have hpa := cpt_b h.1.1 h.1.2.2.1 ha (t : Int)
  have hpc := cpt_b h.1.1 h.1.2.2.1 hb (t : Int)
  have sab := csk_01 c a (t : Int)
  have sbb := csk_01 c b (t : Int)
  have hbb := btm_b (t := (t : Int)) h.1.2.1 (by omega) ht
  have hG := gp_b (cpt c a (t : Int)) (cpt c b (t : Int))
  have L206 : ∀ (x7 : Int) (x8 : Int) (bt : Int), (c (3 + a) 0 = 1) → (c (3 + b) 0 = 1) → (¬ cpt c a t = 1000 ∧ ¬ cpt c b t = 1000 ∧ ¬ cpt c a t = 1001 ∧ ¬ cpt c b t = 1001) → (x7 = min (csk c a t) (csk c b t)) → (x8 = max (csk c a t) (csk c b t)) → (bt = btm c t) → (rule = 16 ∨ rule = 32) → mk_A p_ l e_ rm_Mo_breaks s_ m_ as_ bl_ me_ co_ Q_ 15 D cmcl (mo_sh cs ad) 16 16 ad I [(0, .ref (ad 0)), (1, .int (zi rule)), (2, .int (zi (a : Int))), (3, .int (zi (b : Int))), (4, .int (zi (t : Int))), (5, .int (zi (cpt c a (t : Int)))), (6, .int (zi (cpt c b (t : Int)))), (7, .int (zi x7)), (8, .int (zi x8)), (9, .int (zi bt))] 206 [] := by
    intro x7 x8 bt hona honb hp h7 h8 hbt hr3
    clear hru2
    refine mk_iload (nx := 208) X 7 d_Mo_breaks_206 rfl rfl ?_
    refine mk_if_eq (tgt := 236) (nx := 211) X d_Mo_breaks_208 (by omega) (by decide) rfl (fun c208 => ?_) (fun c208 => ?_)
    · skip
      refine mk_iconst (nx := 237) X d_Mo_breaks_236 rfl ?_
      exact hret _ _ _ _ d_Mo_breaks_237 (by omega) (by exact ⟨rfl, Or.inr ⟨rfl, fun hd => by have h3 := hd.2.2; rw [← hbt] at h3; have h4 := (brQ_p hp hr3).mp h3; omega⟩⟩)
    · skip
      refine mk_iload (nx := 213) X 9 d_Mo_breaks_211 rfl rfl ?_
      refine mk_if_lt (tgt := 236) (nx := 216) X d_Mo_breaks_213 (by omega) (by decide) rfl (fun c213 => ?_) (fun c213 => ?_)
      · skip
        refine mk_iconst (nx := 237) X d_Mo_breaks_236 rfl ?_
        exact hret _ _ _ _ d_Mo_breaks_237 (by omega) (by exact ⟨rfl, Or.inr ⟨rfl, fun hd => by have h3 := hd.2.2; rw [← hbt] at h3; have h4 := (brQ_p hp hr3).mp h3; omega⟩⟩)
      · skip
        obtain ⟨u, rfl⟩ : ∃ u : Nat, bt = (u : Int) := ⟨bt.toNat, by omega⟩
        have hub : (u : Int) < an_end c := by omega
        have hpau := cpt_b h.1.1 h.1.2.2.1 ha (u : Int)
        have hpbu := cpt_b h.1.1 h.1.2.2.1 hb (u : Int)
        have hG2 := gp_b (cpt c a (u : Int)) (cpt c b (u : Int))
        refine mk_aloadn (nx := 217) X 0 d_Mo_breaks_216 rfl rfl ?_
        refine mk_iloadn (nx := 218) X 2 d_Mo_breaks_217 rfl rfl ?_
        refine mk_iload (nx := 220) X 9 d_Mo_breaks_218 rfl rfl ?_
        refine mk_callVi (nx := 223) (n := 2) (As := [.int (zi (a : Int)), .int (zi (u : Int))]) (rest := []) X 0 (by decide) (mh_Mo cs ad _) rfl (c_Mo_sounds l D cs ad hi c I h hL a (by omega) u hub) (g_Mo_sounds wd_788) rfl ⟨rfl, rfl⟩ (by decide +kernel) ⟨by decide, by decide⟩ rfl (Nat.le_of_ble_eq_true rfl) rfl d_Mo_breaks_220 rfl ?_
        intro r220 J1 hJ1
        obtain ⟨rfl, hr220⟩ := hJ1
        refine mk_if_eq (tgt := 236) (nx := 226) X d_Mo_breaks_223 (by omega) (by decide) rfl (fun c223 => ?_) (fun c223 => ?_)
        · skip
          have q220 : ¬ (c (3 + a) 0 = 1 ∧ ¬ cpt c a (u : Int) = 1000) := by omega
          clear hr220 c223 r220
          refine mk_iconst (nx := 237) X d_Mo_breaks_236 rfl ?_
          exact hret _ _ _ _ d_Mo_breaks_237 (by omega) (by exact ⟨rfl, Or.inr ⟨rfl, fun hd => by have h3 := hd.2.2; rw [← hbt] at h3; have h4 := (brQ_p hp hr3).mp h3; omega⟩⟩)
        · skip
          have q220 : c (3 + a) 0 = 1 ∧ ¬ cpt c a (u : Int) = 1000 := by omega
          clear hr220 c223 r220
          refine mk_aloadn (nx := 227) X 0 d_Mo_breaks_226 rfl rfl ?_
          refine mk_iloadn (nx := 228) X 3 d_Mo_breaks_227 rfl rfl ?_
          refine mk_iload (nx := 230) X 9 d_Mo_breaks_228 rfl rfl ?_
          refine mk_callVi (nx := 233) (n := 2) (As := [.int (zi (b : Int)), .int (zi (u : Int))]) (rest := []) X 0 (by decide) (mh_Mo cs ad _) rfl (c_Mo_sounds l D cs ad hi c I h hL b (by omega) u hub) (g_Mo_sounds wd_788) rfl ⟨rfl, rfl⟩ (by decide +kernel) ⟨by decide, by decide⟩ rfl (Nat.le_of_ble_eq_true rfl) rfl d_Mo_breaks_230 rfl ?_
          intro r230 J2 hJ2
          obtain ⟨rfl, hr230⟩ := hJ2
          refine mk_if_ne (tgt := 238) (nx := 236) X d_Mo_breaks_233 (by omega) (by decide) rfl (fun c233 => ?_) (fun c233 => ?_)
          · skip
            have q230 : c (3 + b) 0 = 1 ∧ ¬ cpt c b (u : Int) = 1000 := by omega
            clear hr230 c233 r230
            refine mk_aloadn (nx := 239) X 0 d_Mo_breaks_238 rfl rfl ?_
            refine mk_get (nx := 242) (v := .ref (ad 8)) X 0 (by decide) (mh_Mo cs ad _) rfl in_Mo 15 (by decide) wd_610 rfl rfl d_Mo_breaks_239 rfl ?_
            refine mk_sipush (nx := 245) X d_Mo_breaks_242 (by decide) rfl ?_
            refine mk_iloadn (nx := 246) X 2 d_Mo_breaks_245 rfl rfl ?_
            refine mk_imul (nx := 247) X d_Mo_breaks_246 rfl ?_
            refine mk_iload (nx := 249) X 9 d_Mo_breaks_247 rfl rfl ?_
            refine mk_iadd (nx := 250) X d_Mo_breaks_249 rfl ?_
            refine mk_iald (nx := 251) (j := ((1300 * a) + u)) X 8 0 (by decide) (mh_pitchAt cs ad _) rfl (by omega) (by omega) (by decide) (by omega) d_Mo_breaks_250 rfl ?_
            rw [show I 8 ((1300 * a) + u) = cpt c a (u : Int) from ((hL.2 a ha hona).2 u hub).2.1]
            refine mk_istore (nx := 253) X [(10, .int (zi (cpt c a (u : Int)))), (0, .ref (ad 0)), (1, .int (zi rule)), (2, .int (zi (a : Int))), (3, .int (zi (b : Int))), (4, .int (zi (t : Int))), (5, .int (zi (cpt c a (t : Int)))), (6, .int (zi (cpt c b (t : Int)))), (7, .int (zi x7)), (8, .int (zi x8)), (9, .int (zi (u : Int)))] d_Mo_breaks_251 (by decide) rfl rfl ?_
            refine mk_aloadn (nx := 254) X 1 d_Mo_breaks_253 rfl rfl ?_
            refine mk_get (nx := 257) (v := .ref (ad 8)) X 0 (by decide) (mh_Mo cs ad _) rfl in_Mo 15 (by decide) wd_610 rfl rfl d_Mo_breaks_254 rfl ?_
            refine mk_sipush (nx := 260) X d_Mo_breaks_257 (by decide) rfl ?_
            refine mk_iloadn (nx := 261) X 4 d_Mo_breaks_260 rfl rfl ?_
            refine mk_imul (nx := 262) X d_Mo_breaks_261 rfl ?_
            refine mk_iload (nx := 264) X 10 d_Mo_breaks_262 rfl rfl ?_
            refine mk_iadd (nx := 265) X d_Mo_breaks_264 rfl ?_
            refine mk_iald (nx := 266) (j := ((1300 * b) + u)) X 8 0 (by decide) (mh_pitchAt cs ad _) rfl (by omega) (by omega) (by decide) (by omega) d_Mo_breaks_265 rfl ?_
            rw [show I 8 ((1300 * b) + u) = cpt c b (u : Int) from ((hL.2 b hb honb).2 u hub).2.1]
            refine mk_istore (nx := 268) X [(11, .int (zi (cpt c b (u : Int)))), (10, .int (zi (cpt c a (u : Int)))), (0, .ref (ad 0)), (1, .int (zi rule)), (2, .int (zi (a : Int))), (3, .int (zi (b : Int))), (4, .int (zi (t : Int))), (5, .int (zi (cpt c a (t : Int)))), (6, .int (zi (cpt c b (t : Int)))), (7, .int (zi x7)), (8, .int (zi x8)), (9, .int (zi (u : Int)))] d_Mo_breaks_266 (by decide) rfl rfl ?_
            refine mk_iload (nx := 270) X 1 d_Mo_breaks_268 rfl rfl ?_
            refine mk_sipush (nx := 273) X d_Mo_breaks_270 (by decide) rfl ?_
            refine mk_icmp_eq (tgt := 312) (nx := 276) X d_Mo_breaks_273 (by omega) (by omega) (by decide) rfl (fun c273 => ?_) (fun c273 => ?_)
            · skip
              refine mk_iconst (nx := 313) X d_Mo_breaks_312 rfl ?_
              exact hret _ _ _ _ d_Mo_breaks_313 (by omega) (by exact ⟨rfl, Or.inr ⟨rfl, fun hd => by have h3 := hd.2.2; rw [← hbt] at h3; have h4 := (brQ_p hp hr3).mp h3; omega⟩⟩)
            · skip
              refine mk_iload (nx := 278) X 0 d_Mo_breaks_276 rfl rfl ?_
              refine mk_sipush (nx := 281) X d_Mo_breaks_278 (by decide) rfl ?_
              refine mk_icmp_eq (tgt := 312) (nx := 284) X d_Mo_breaks_281 (by omega) (by omega) (by decide) rfl (fun c281 => ?_) (fun c281 => ?_)
              · skip
                refine mk_iconst (nx := 313) X d_Mo_breaks_312 rfl ?_
                exact hret _ _ _ _ d_Mo_breaks_313 (by omega) (by exact ⟨rfl, Or.inr ⟨rfl, fun hd => by have h3 := hd.2.2; rw [← hbt] at h3; have h4 := (brQ_p hp hr3).mp h3; omega⟩⟩)
              · skip
                refine mk_iload (nx := 286) X 7 d_Mo_breaks_284 rfl rfl ?_
                refine mk_iload (nx := 288) X 1 d_Mo_breaks_286 rfl rfl ?_
                refine mk_icmp_le (tgt := 298) (nx := 291) X d_Mo_breaks_288 (by omega) (by omega) (by decide) rfl (fun c288 => ?_) (fun c288 => ?_)
                · skip
                  refine mk_iload (nx := 300) X 7 d_Mo_breaks_298 rfl rfl ?_
                  refine mk_iload (nx := 302) X 1 d_Mo_breaks_300 rfl rfl ?_
                  refine mk_icmp_ge (tgt := 312) (nx := 305) X d_Mo_breaks_302 (by omega) (by omega) (by decide) rfl (fun c302 => ?_) (fun c302 => ?_)
                  · skip
                    refine mk_iconst (nx := 313) X d_Mo_breaks_312 rfl ?_
                    exact hret _ _ _ _ d_Mo_breaks_313 (by omega) (by exact ⟨rfl, Or.inr ⟨rfl, fun hd => by have h3 := hd.2.2; rw [← hbt] at h3; have h4 := (brQ_p hp hr3).mp h3; omega⟩⟩)
                  · skip
                    refine mk_iload (nx := 307) X 8 d_Mo_breaks_305 rfl rfl ?_
                    refine mk_iload (nx := 309) X 0 d_Mo_breaks_307 rfl rfl ?_
                    refine mk_icmp_lt (tgt := 314) (nx := 312) X d_Mo_breaks_309 (by omega) (by omega) (by decide) rfl (fun c309 => ?_) (fun c309 => ?_)
                    · skip
                      refine mk_iload (nx := 316) X 7 d_Mo_breaks_314 rfl rfl ?_
                      refine mk_iload (nx := 318) X 8 d_Mo_breaks_316 rfl rfl ?_
                      refine mk_callSi (nx := 321) (n := 2) (As := [.int (zi (cpt c a (t : Int))), .int (zi (cpt c b (t : Int)))]) (rest := []) X (c_Mo_gap l D cs ad hi I (cpt c a (t : Int)) (cpt c b (t : Int)) (by omega) (by omega)) (g_Mo_gap wd_796) rfl ⟨rfl, rfl⟩ (by decide +kernel) ⟨by decide, by decide⟩ rfl (Nat.le_of_ble_eq_true rfl) rfl d_Mo_breaks_318 rfl ?_
                      intro r318 J3 hJ3
                      obtain ⟨rfl, rfl⟩ := hJ3
                      refine mk_istore (nx := 323) X [(12, .int (zi (gp (cpt c a (t : Int)) (cpt c b (t : Int))))), (11, .int (zi (cpt c b (u : Int)))), (10, .int (zi (cpt c a (u : Int)))), (0, .ref (ad 0)), (1, .int (zi rule)), (2, .int (zi (a : Int))), (3, .int (zi (b : Int))), (4, .int (zi (t : Int))), (5, .int (zi (cpt c a (t : Int)))), (6, .int (zi (cpt c b (t : Int)))), (7, .int (zi x7)), (8, .int (zi x8)), (9, .int (zi (u : Int)))] d_Mo_breaks_321 (by decide) rfl rfl ?_
                      refine mk_iload (nx := 325) X 2 d_Mo_breaks_323 rfl rfl ?_
                      refine mk_iload (nx := 327) X 1 d_Mo_breaks_325 rfl rfl ?_
                      refine mk_callSi (nx := 330) (n := 2) (As := [.int (zi (cpt c a (u : Int))), .int (zi (cpt c b (u : Int)))]) (rest := []) X (c_Mo_gap l D cs ad hi I (cpt c a (u : Int)) (cpt c b (u : Int)) (by omega) (by omega)) (g_Mo_gap wd_796) rfl ⟨rfl, rfl⟩ (by decide +kernel) ⟨by decide, by decide⟩ rfl (Nat.le_of_ble_eq_true rfl) rfl d_Mo_breaks_327 rfl ?_
                      intro r327 J4 hJ4
                      obtain ⟨rfl, rfl⟩ := hJ4
                      refine mk_istore (nx := 332) X [(13, .int (zi (gp (cpt c a (u : Int)) (cpt c b (u : Int))))), (12, .int (zi (gp (cpt c a (t : Int)) (cpt c b (t : Int))))), (11, .int (zi (cpt c b (u : Int)))), (10, .int (zi (cpt c a (u : Int)))), (0, .ref (ad 0)), (1, .int (zi rule)), (2, .int (zi (a : Int))), (3, .int (zi (b : Int))), (4, .int (zi (t : Int))), (5, .int (zi (cpt c a (t : Int)))), (6, .int (zi (cpt c b (t : Int)))), (7, .int (zi x7)), (8, .int (zi x8)), (9, .int (zi (u : Int)))] d_Mo_breaks_330 (by decide) rfl rfl ?_
                      refine mk_iload (nx := 334) X 1 d_Mo_breaks_332 rfl rfl ?_
                      refine mk_if_eq (tgt := 346) (nx := 337) X d_Mo_breaks_334 (by omega) (by decide) rfl (fun c334 => ?_) (fun c334 => ?_)
                      · skip
                        refine mk_iloadn (nx := 347) X 5 d_Mo_breaks_346 rfl rfl ?_
                        refine mk_bipush (nx := 349) X d_Mo_breaks_347 (by decide) rfl ?_
                        refine mk_icmp_ne (tgt := 365) (nx := 352) X d_Mo_breaks_349 (by omega) (by omega) (by decide) rfl (fun c349 => ?_) (fun c349 => ?_)
                        · skip
                          refine mk_iload (nx := 367) X 9 d_Mo_breaks_365 rfl rfl ?_
                          refine mk_iload (nx := 369) X 10 d_Mo_breaks_367 rfl rfl ?_
                          refine mk_icmp_lt (tgt := 380) (nx := 372) X d_Mo_breaks_369 (by omega) (by omega) (by decide) rfl (fun c369 => ?_) (fun c369 => ?_)
                          · skip
                            refine mk_iload (nx := 382) X 10 d_Mo_breaks_380 rfl rfl ?_
                            refine mk_iload (nx := 384) X 2 d_Mo_breaks_382 rfl rfl ?_
                            refine mk_isub (nx := 385) X d_Mo_breaks_384 rfl ?_
                            refine mk_istore (nx := 387) X [(14, .int (zi ((cpt c b (t : Int)) - (cpt c b (u : Int))))), (13, .int (zi (gp (cpt c a (u : Int)) (cpt c b (u : Int))))), (12, .int (zi (gp (cpt c a (t : Int)) (cpt c b (t : Int))))), (11, .int (zi (cpt c b (u : Int)))), (10, .int (zi (cpt c a (u : Int)))), (0, .ref (ad 0)), (1, .int (zi rule)), (2, .int (zi (a : Int))), (3, .int (zi (b : Int))), (4, .int (zi (t : Int))), (5, .int (zi (cpt c a (t : Int)))), (6, .int (zi (cpt c b (t : Int)))), (7, .int (zi x7)), (8, .int (zi x8)), (9, .int (zi (u : Int)))] d_Mo_breaks_385 (by decide) rfl rfl ?_
                            refine mk_iload (nx := 389) X 2 d_Mo_breaks_387 rfl rfl ?_
                            refine mk_iload (nx := 391) X 1 d_Mo_breaks_389 rfl rfl ?_
                            refine mk_icmp_eq (tgt := 411) (nx := 394) X d_Mo_breaks_391 (by omega) (by omega) (by decide) rfl (fun c391 => ?_) (fun c391 => ?_)
                            · skip
                              refine mk_iconst (nx := 412) X d_Mo_breaks_411 rfl ?_
                              exact hret _ _ _ _ d_Mo_breaks_412 (by omega) (by first | exact ⟨rfl, Or.inl ⟨rfl, hona, honb, by rw [← hbt]; exact (brQ_p hp hr3).mpr (by omega)⟩⟩ | exact ⟨rfl, Or.inr ⟨rfl, fun hd => by have h3 := hd.2.2; rw [← hbt] at h3; have h4 := (brQ_p hp hr3).mp h3; omega⟩⟩)
                            · skip
                              refine mk_iload (nx := 396) X 0 d_Mo_breaks_394 rfl rfl ?_
                              refine mk_iconst (nx := 397) X d_Mo_breaks_396 rfl ?_
                              refine mk_icmp_gt (tgt := 407) (nx := 400) X d_Mo_breaks_397 (by omega) (by omega) (by decide) rfl (fun c397 => ?_) (fun c397 => ?_)
                              · skip
                                refine mk_iconst (nx := 408) X d_Mo_breaks_407 rfl ?_
                                refine mk_goto (tgt := 412) X d_Mo_breaks_408 (by decide) ?_
                                exact hret _ _ _ _ d_Mo_breaks_412 (by omega) (by first | exact ⟨rfl, Or.inl ⟨rfl, hona, honb, by rw [← hbt]; exact (brQ_p hp hr3).mpr (by omega)⟩⟩ | exact ⟨rfl, Or.inr ⟨rfl, fun hd => by have h3 := hd.2.2; rw [← hbt] at h3; have h4 := (brQ_p hp hr3).mp h3; omega⟩⟩)
                              · skip
                                refine mk_iload (nx := 402) X 0 d_Mo_breaks_400 rfl rfl ?_
                                refine mk_bipush (nx := 404) X d_Mo_breaks_402 (by decide) rfl ?_
                                refine mk_icmp_ge (tgt := 411) (nx := 407) X d_Mo_breaks_404 (by omega) (by omega) (by decide) rfl (fun c404 => ?_) (fun c404 => ?_)
                                · skip
                                  refine mk_iconst (nx := 412) X d_Mo_breaks_411 rfl ?_
                                  exact hret _ _ _ _ d_Mo_breaks_412 (by omega) (by first | exact ⟨rfl, Or.inl ⟨rfl, hona, honb, by rw [← hbt]; exact (brQ_p hp hr3).mpr (by omega)⟩⟩ | exact ⟨rfl, Or.inr ⟨rfl, fun hd => by have h3 := hd.2.2; rw [← hbt] at h3; have h4 := (brQ_p hp hr3).mp h3; omega⟩⟩)
                                · skip
                                  refine mk_iconst (nx := 408) X d_Mo_breaks_407 rfl ?_
                                  refine mk_goto (tgt := 412) X d_Mo_breaks_408 (by decide) ?_
                                  exact hret _ _ _ _ d_Mo_breaks_412 (by omega) (by first | exact ⟨rfl, Or.inl ⟨rfl, hona, honb, by rw [← hbt]; exact (brQ_p hp hr3).mpr (by omega)⟩⟩ | exact ⟨rfl, Or.inr ⟨rfl, fun hd => by have h3 := hd.2.2; rw [← hbt] at h3; have h4 := (brQ_p hp hr3).mp h3; omega⟩⟩)
                          · skip
                            refine mk_iload (nx := 374) X 9 d_Mo_breaks_372 rfl rfl ?_
                            refine mk_iload (nx := 376) X 3 d_Mo_breaks_374 rfl rfl ?_
                            refine mk_isub (nx := 377) X d_Mo_breaks_376 rfl ?_
                            refine mk_goto (tgt := 385) X d_Mo_breaks_377 (by decide) ?_
                            refine mk_istore (nx := 387) X [(14, .int (zi ((cpt c a (t : Int)) - (cpt c a (u : Int))))), (13, .int (zi (gp (cpt c a (u : Int)) (cpt c b (u : Int))))), (12, .int (zi (gp (cpt c a (t : Int)) (cpt c b (t : Int))))), (11, .int (zi (cpt c b (u : Int)))), (10, .int (zi (cpt c a (u : Int)))), (0, .ref (ad 0)), (1, .int (zi rule)), (2, .int (zi (a : Int))), (3, .int (zi (b : Int))), (4, .int (zi (t : Int))), (5, .int (zi (cpt c a (t : Int)))), (6, .int (zi (cpt c b (t : Int)))), (7, .int (zi x7)), (8, .int (zi x8)), (9, .int (zi (u : Int)))] d_Mo_breaks_385 (by decide) rfl rfl ?_
                            refine mk_iload (nx := 389) X 2 d_Mo_breaks_387 rfl rfl ?_
                            refine mk_iload (nx := 391) X 1 d_Mo_breaks_389 rfl rfl ?_
                            refine mk_icmp_eq (tgt := 411) (nx := 394) X d_Mo_breaks_391 (by omega) (by omega) (by decide) rfl (fun c391 => ?_) (fun c391 => ?_)
                            · skip
                              refine mk_iconst (nx := 412) X d_Mo_breaks_411 rfl ?_
                              exact hret _ _ _ _ d_Mo_breaks_412 (by omega) (by first | exact ⟨rfl, Or.inl ⟨rfl, hona, honb, by rw [← hbt]; exact (brQ_p hp hr3).mpr (by omega)⟩⟩ | exact ⟨rfl, Or.inr ⟨rfl, fun hd => by have h3 := hd.2.2; rw [← hbt] at h3; have h4 := (brQ_p hp hr3).mp h3; omega⟩⟩)
                            · skip
                              refine mk_iload (nx := 396) X 0 d_Mo_breaks_394 rfl rfl ?_
                              refine mk_iconst (nx := 397) X d_Mo_breaks_396 rfl ?_
                              refine mk_icmp_gt (tgt := 407) (nx := 400) X d_Mo_breaks_397 (by omega) (by omega) (by decide) rfl (fun c397 => ?_) (fun c397 => ?_)
                              · skip
                                refine mk_iconst (nx := 408) X d_Mo_breaks_407 rfl ?_
                                refine mk_goto (tgt := 412) X d_Mo_breaks_408 (by decide) ?_
                                exact hret _ _ _ _ d_Mo_breaks_412 (by omega) (by first | exact ⟨rfl, Or.inl ⟨rfl, hona, honb, by rw [← hbt]; exact (brQ_p hp hr3).mpr (by omega)⟩⟩ | exact ⟨rfl, Or.inr ⟨rfl, fun hd => by have h3 := hd.2.2; rw [← hbt] at h3; have h4 := (brQ_p hp hr3).mp h3; omega⟩⟩)
                              · skip
                                refine mk_iload (nx := 402) X 0 d_Mo_breaks_400 rfl rfl ?_
                                refine mk_bipush (nx := 404) X d_Mo_breaks_402 (by decide) rfl ?_
                                refine mk_icmp_ge (tgt := 411) (nx := 407) X d_Mo_breaks_404 (by omega) (by omega) (by decide) rfl (fun c404 => ?_) (fun c404 => ?_)
                                · skip
                                  refine mk_iconst (nx := 412) X d_Mo_breaks_411 rfl ?_
                                  exact hret _ _ _ _ d_Mo_breaks_412 (by omega) (by first | exact ⟨rfl, Or.inl ⟨rfl, hona, honb, by rw [← hbt]; exact (brQ_p hp hr3).mpr (by omega)⟩⟩ | exact ⟨rfl, Or.inr ⟨rfl, fun hd => by have h3 := hd.2.2; rw [← hbt] at h3; have h4 := (brQ_p hp hr3).mp h3; omega⟩⟩)
                                · skip
                                  refine mk_iconst (nx := 408) X d_Mo_breaks_407 rfl ?_
                                  refine mk_goto (tgt := 412) X d_Mo_breaks_408 (by decide) ?_
                                  exact hret _ _ _ _ d_Mo_breaks_412 (by omega) (by first | exact ⟨rfl, Or.inl ⟨rfl, hona, honb, by rw [← hbt]; exact (brQ_p hp hr3).mpr (by omega)⟩⟩ | exact ⟨rfl, Or.inr ⟨rfl, fun hd => by have h3 := hd.2.2; rw [← hbt] at h3; have h4 := (brQ_p hp hr3).mp h3; omega⟩⟩)
                        · skip
                          refine mk_iload (nx := 354) X 1 d_Mo_breaks_352 rfl rfl ?_
                          refine mk_iload (nx := 356) X 0 d_Mo_breaks_354 rfl rfl ?_
                          refine mk_icmp_ne (tgt := 363) (nx := 359) X d_Mo_breaks_356 (by omega) (by omega) (by decide) rfl (fun c356 => ?_) (fun c356 => ?_)
                          · skip
                            refine mk_iconst (nx := 364) X d_Mo_breaks_363 rfl ?_
                            exact hret _ _ _ _ d_Mo_breaks_364 (by omega) (by first | exact ⟨rfl, Or.inl ⟨rfl, hona, honb, by rw [← hbt]; exact (brQ_p hp hr3).mpr (by omega)⟩⟩ | exact ⟨rfl, Or.inr ⟨rfl, fun hd => by have h3 := hd.2.2; rw [← hbt] at h3; have h4 := (brQ_p hp hr3).mp h3; omega⟩⟩)
                          · skip
                            refine mk_iconst (nx := 360) X d_Mo_breaks_359 rfl ?_
                            refine mk_goto (tgt := 364) X d_Mo_breaks_360 (by decide) ?_
                            exact hret _ _ _ _ d_Mo_breaks_364 (by omega) (by first | exact ⟨rfl, Or.inl ⟨rfl, hona, honb, by rw [← hbt]; exact (brQ_p hp hr3).mpr (by omega)⟩⟩ | exact ⟨rfl, Or.inr ⟨rfl, fun hd => by have h3 := hd.2.2; rw [← hbt] at h3; have h4 := (brQ_p hp hr3).mp h3; omega⟩⟩)
                      · skip
                        refine mk_iload (nx := 339) X 1 d_Mo_breaks_337 rfl rfl ?_
                        refine mk_bipush (nx := 341) X d_Mo_breaks_339 (by decide) rfl ?_
                        refine mk_icmp_eq (tgt := 346) (nx := 344) X d_Mo_breaks_341 (by omega) (by omega) (by decide) rfl (fun c341 => ?_) (fun c341 => ?_)
                        · skip
                          refine mk_iloadn (nx := 347) X 5 d_Mo_breaks_346 rfl rfl ?_
                          refine mk_bipush (nx := 349) X d_Mo_breaks_347 (by decide) rfl ?_
                          refine mk_icmp_ne (tgt := 365) (nx := 352) X d_Mo_breaks_349 (by omega) (by omega) (by decide) rfl (fun c349 => ?_) (fun c349 => ?_)
                          · skip
                            refine mk_iload (nx := 367) X 9 d_Mo_breaks_365 rfl rfl ?_
                            refine mk_iload (nx := 369) X 10 d_Mo_breaks_367 rfl rfl ?_
                            refine mk_icmp_lt (tgt := 380) (nx := 372) X d_Mo_breaks_369 (by omega) (by omega) (by decide) rfl (fun c369 => ?_) (fun c369 => ?_)
                            · skip
                              refine mk_iload (nx := 382) X 10 d_Mo_breaks_380 rfl rfl ?_
                              refine mk_iload (nx := 384) X 2 d_Mo_breaks_382 rfl rfl ?_
                              refine mk_isub (nx := 385) X d_Mo_breaks_384 rfl ?_
                              refine mk_istore (nx := 387) X [(14, .int (zi ((cpt c b (t : Int)) - (cpt c b (u : Int))))), (13, .int (zi (gp (cpt c a (u : Int)) (cpt c b (u : Int))))), (12, .int (zi (gp (cpt c a (t : Int)) (cpt c b (t : Int))))), (11, .int (zi (cpt c b (u : Int)))), (10, .int (zi (cpt c a (u : Int)))), (0, .ref (ad 0)), (1, .int (zi rule)), (2, .int (zi (a : Int))), (3, .int (zi (b : Int))), (4, .int (zi (t : Int))), (5, .int (zi (cpt c a (t : Int)))), (6, .int (zi (cpt c b (t : Int)))), (7, .int (zi x7)), (8, .int (zi x8)), (9, .int (zi (u : Int)))] d_Mo_breaks_385 (by decide) rfl rfl ?_
                              refine mk_iload (nx := 389) X 2 d_Mo_breaks_387 rfl rfl ?_
                              refine mk_iload (nx := 391) X 1 d_Mo_breaks_389 rfl rfl ?_
                              refine mk_icmp_eq (tgt := 411) (nx := 394) X d_Mo_breaks_391 (by omega) (by omega) (by decide) rfl (fun c391 => ?_) (fun c391 => ?_)
                              · skip
                                refine mk_iconst (nx := 412) X d_Mo_breaks_411 rfl ?_
                                exact hret _ _ _ _ d_Mo_breaks_412 (by omega) (by first | exact ⟨rfl, Or.inl ⟨rfl, hona, honb, by rw [← hbt]; exact (brQ_p hp hr3).mpr (by omega)⟩⟩ | exact ⟨rfl, Or.inr ⟨rfl, fun hd => by have h3 := hd.2.2; rw [← hbt] at h3; have h4 := (brQ_p hp hr3).mp h3; omega⟩⟩)
                              · skip
                                refine mk_iload (nx := 396) X 0 d_Mo_breaks_394 rfl rfl ?_
                                refine mk_iconst (nx := 397) X d_Mo_breaks_396 rfl ?_
                                refine mk_icmp_gt (tgt := 407) (nx := 400) X d_Mo_breaks_397 (by omega) (by omega) (by decide) rfl (fun c397 => ?_) (fun c397 => ?_)
                                · skip
                                  refine mk_iconst (nx := 408) X d_Mo_breaks_407 rfl ?_
                                  refine mk_goto (tgt := 412) X d_Mo_breaks_408 (by decide) ?_
                                  exact hret _ _ _ _ d_Mo_breaks_412 (by omega) (by first | exact ⟨rfl, Or.inl ⟨rfl, hona, honb, by rw [← hbt]; exact (brQ_p hp hr3).mpr (by omega)⟩⟩ | exact ⟨rfl, Or.inr ⟨rfl, fun hd => by have h3 := hd.2.2; rw [← hbt] at h3; have h4 := (brQ_p hp hr3).mp h3; omega⟩⟩)
                                · skip
                                  refine mk_iload (nx := 402) X 0 d_Mo_breaks_400 rfl rfl ?_
                                  refine mk_bipush (nx := 404) X d_Mo_breaks_402 (by decide) rfl ?_
                                  refine mk_icmp_ge (tgt := 411) (nx := 407) X d_Mo_breaks_404 (by omega) (by omega) (by decide) rfl (fun c404 => ?_) (fun c404 => ?_)
                                  · skip
                                    refine mk_iconst (nx := 412) X d_Mo_breaks_411 rfl ?_
                                    exact hret _ _ _ _ d_Mo_breaks_412 (by omega) (by first | exact ⟨rfl, Or.inl ⟨rfl, hona, honb, by rw [← hbt]; exact (brQ_p hp hr3).mpr (by omega)⟩⟩ | exact ⟨rfl, Or.inr ⟨rfl, fun hd => by have h3 := hd.2.2; rw [← hbt] at h3; have h4 := (brQ_p hp hr3).mp h3; omega⟩⟩)
                                  · skip
                                    refine mk_iconst (nx := 408) X d_Mo_breaks_407 rfl ?_
                                    refine mk_goto (tgt := 412) X d_Mo_breaks_408 (by decide) ?_
                                    exact hret _ _ _ _ d_Mo_breaks_412 (by omega) (by first | exact ⟨rfl, Or.inl ⟨rfl, hona, honb, by rw [← hbt]; exact (brQ_p hp hr3).mpr (by omega)⟩⟩ | exact ⟨rfl, Or.inr ⟨rfl, fun hd => by have h3 := hd.2.2; rw [← hbt] at h3; have h4 := (brQ_p hp hr3).mp h3; omega⟩⟩)
                            · skip
                              refine mk_iload (nx := 374) X 9 d_Mo_breaks_372 rfl rfl ?_
                              refine mk_iload (nx := 376) X 3 d_Mo_breaks_374 rfl rfl ?_
                              refine mk_isub (nx := 377) X d_Mo_breaks_376 rfl ?_
                              refine mk_goto (tgt := 385) X d_Mo_breaks_377 (by decide) ?_
                              refine mk_istore (nx := 387) X [(14, .int (zi ((cpt c a (t : Int)) - (cpt c a (u : Int))))), (13, .int (zi (gp (cpt c a (u : Int)) (cpt c b (u : Int))))), (12, .int (zi (gp (cpt c a (t : Int)) (cpt c b (t : Int))))), (11, .int (zi (cpt c b (u : Int)))), (10, .int (zi (cpt c a (u : Int)))), (0, .ref (ad 0)), (1, .int (zi rule)), (2, .int (zi (a : Int))), (3, .int (zi (b : Int))), (4, .int (zi (t : Int))), (5, .int (zi (cpt c a (t : Int)))), (6, .int (zi (cpt c b (t : Int)))), (7, .int (zi x7)), (8, .int (zi x8)), (9, .int (zi (u : Int)))] d_Mo_breaks_385 (by decide) rfl rfl ?_
                              refine mk_iload (nx := 389) X 2 d_Mo_breaks_387 rfl rfl ?_
                              refine mk_iload (nx := 391) X 1 d_Mo_breaks_389 rfl rfl ?_
                              refine mk_icmp_eq (tgt := 411) (nx := 394) X d_Mo_breaks_391 (by omega) (by omega) (by decide) rfl (fun c391 => ?_) (fun c391 => ?_)
                              · skip
                                refine mk_iconst (nx := 412) X d_Mo_breaks_411 rfl ?_
                                exact hret _ _ _ _ d_Mo_breaks_412 (by omega) (by first | exact ⟨rfl, Or.inl ⟨rfl, hona, honb, by rw [← hbt]; exact (brQ_p hp hr3).mpr (by omega)⟩⟩ | exact ⟨rfl, Or.inr ⟨rfl, fun hd => by have h3 := hd.2.2; rw [← hbt] at h3; have h4 := (brQ_p hp hr3).mp h3; omega⟩⟩)
                              · skip
                                refine mk_iload (nx := 396) X 0 d_Mo_breaks_394 rfl rfl ?_
                                refine mk_iconst (nx := 397) X d_Mo_breaks_396 rfl ?_
                                refine mk_icmp_gt (tgt := 407) (nx := 400) X d_Mo_breaks_397 (by omega) (by omega) (by decide) rfl (fun c397 => ?_) (fun c397 => ?_)
                                · skip
                                  refine mk_iconst (nx := 408) X d_Mo_breaks_407 rfl ?_
                                  refine mk_goto (tgt := 412) X d_Mo_breaks_408 (by decide) ?_
                                  exact hret _ _ _ _ d_Mo_breaks_412 (by omega) (by first | exact ⟨rfl, Or.inl ⟨rfl, hona, honb, by rw [← hbt]; exact (brQ_p hp hr3).mpr (by omega)⟩⟩ | exact ⟨rfl, Or.inr ⟨rfl, fun hd => by have h3 := hd.2.2; rw [← hbt] at h3; have h4 := (brQ_p hp hr3).mp h3; omega⟩⟩)
                                · skip
                                  refine mk_iload (nx := 402) X 0 d_Mo_breaks_400 rfl rfl ?_
                                  refine mk_bipush (nx := 404) X d_Mo_breaks_402 (by decide) rfl ?_
                                  refine mk_icmp_ge (tgt := 411) (nx := 407) X d_Mo_breaks_404 (by omega) (by omega) (by decide) rfl (fun c404 => ?_) (fun c404 => ?_)
                                  · skip
                                    refine mk_iconst (nx := 412) X d_Mo_breaks_411 rfl ?_
                                    exact hret _ _ _ _ d_Mo_breaks_412 (by omega) (by first | exact ⟨rfl, Or.inl ⟨rfl, hona, honb, by rw [← hbt]; exact (brQ_p hp hr3).mpr (by omega)⟩⟩ | exact ⟨rfl, Or.inr ⟨rfl, fun hd => by have h3 := hd.2.2; rw [← hbt] at h3; have h4 := (brQ_p hp hr3).mp h3; omega⟩⟩)
                                  · skip
                                    refine mk_iconst (nx := 408) X d_Mo_breaks_407 rfl ?_
                                    refine mk_goto (tgt := 412) X d_Mo_breaks_408 (by decide) ?_
                                    exact hret _ _ _ _ d_Mo_breaks_412 (by omega) (by first | exact ⟨rfl, Or.inl ⟨rfl, hona, honb, by rw [← hbt]; exact (brQ_p hp hr3).mpr (by omega)⟩⟩ | exact ⟨rfl, Or.inr ⟨rfl, fun hd => by have h3 := hd.2.2; rw [← hbt] at h3; have h4 := (brQ_p hp hr3).mp h3; omega⟩⟩)
                          · skip
                            refine mk_iload (nx := 354) X 1 d_Mo_breaks_352 rfl rfl ?_
                            refine mk_iload (nx := 356) X 0 d_Mo_breaks_354 rfl rfl ?_
                            refine mk_icmp_ne (tgt := 363) (nx := 359) X d_Mo_breaks_356 (by omega) (by omega) (by decide) rfl (fun c356 => ?_) (fun c356 => ?_)
                            · skip
                              refine mk_iconst (nx := 364) X d_Mo_breaks_363 rfl ?_
                              exact hret _ _ _ _ d_Mo_breaks_364 (by omega) (by first | exact ⟨rfl, Or.inl ⟨rfl, hona, honb, by rw [← hbt]; exact (brQ_p hp hr3).mpr (by omega)⟩⟩ | exact ⟨rfl, Or.inr ⟨rfl, fun hd => by have h3 := hd.2.2; rw [← hbt] at h3; have h4 := (brQ_p hp hr3).mp h3; omega⟩⟩)
                            · skip
                              refine mk_iconst (nx := 360) X d_Mo_breaks_359 rfl ?_
                              refine mk_goto (tgt := 364) X d_Mo_breaks_360 (by decide) ?_
                              exact hret _ _ _ _ d_Mo_breaks_364 (by omega) (by first | exact ⟨rfl, Or.inl ⟨rfl, hona, honb, by rw [← hbt]; exact (brQ_p hp hr3).mpr (by omega)⟩⟩ | exact ⟨rfl, Or.inr ⟨rfl, fun hd => by have h3 := hd.2.2; rw [← hbt] at h3; have h4 := (brQ_p hp hr3).mp h3; omega⟩⟩)
                        · skip
                          refine mk_iconst (nx := 345) X d_Mo_breaks_344 rfl ?_
                          exact hret _ _ _ _ d_Mo_breaks_345 (by omega) (by exact ⟨rfl, Or.inr ⟨rfl, fun hd => by have h3 := hd.2.2; rw [← hbt] at h3; have h4 := (brQ_p hp hr3).mp h3; omega⟩⟩)
                    · skip
                      refine mk_iconst (nx := 313) X d_Mo_breaks_312 rfl ?_
                      exact hret _ _ _ _ d_Mo_breaks_313 (by omega) (by exact ⟨rfl, Or.inr ⟨rfl, fun hd => by have h3 := hd.2.2; rw [← hbt] at h3; have h4 := (brQ_p hp hr3).mp h3; omega⟩⟩)
                · skip
                  refine mk_iload (nx := 293) X 8 d_Mo_breaks_291 rfl rfl ?_
                  refine mk_iload (nx := 295) X 0 d_Mo_breaks_293 rfl rfl ?_
                  refine mk_icmp_gt (tgt := 314) (nx := 298) X d_Mo_breaks_295 (by omega) (by omega) (by decide) rfl (fun c295 => ?_) (fun c295 => ?_)
                  · skip
                    refine mk_iload (nx := 316) X 7 d_Mo_breaks_314 rfl rfl ?_
                    refine mk_iload (nx := 318) X 8 d_Mo_breaks_316 rfl rfl ?_
                    refine mk_callSi (nx := 321) (n := 2) (As := [.int (zi (cpt c a (t : Int))), .int (zi (cpt c b (t : Int)))]) (rest := []) X (c_Mo_gap l D cs ad hi I (cpt c a (t : Int)) (cpt c b (t : Int)) (by omega) (by omega)) (g_Mo_gap wd_796) rfl ⟨rfl, rfl⟩ (by decide +kernel) ⟨by decide, by decide⟩ rfl (Nat.le_of_ble_eq_true rfl) rfl d_Mo_breaks_318 rfl ?_
                    intro r318 J5 hJ5
                    obtain ⟨rfl, rfl⟩ := hJ5
                    refine mk_istore (nx := 323) X [(12, .int (zi (gp (cpt c a (t : Int)) (cpt c b (t : Int))))), (11, .int (zi (cpt c b (u : Int)))), (10, .int (zi (cpt c a (u : Int)))), (0, .ref (ad 0)), (1, .int (zi rule)), (2, .int (zi (a : Int))), (3, .int (zi (b : Int))), (4, .int (zi (t : Int))), (5, .int (zi (cpt c a (t : Int)))), (6, .int (zi (cpt c b (t : Int)))), (7, .int (zi x7)), (8, .int (zi x8)), (9, .int (zi (u : Int)))] d_Mo_breaks_321 (by decide) rfl rfl ?_
                    refine mk_iload (nx := 325) X 2 d_Mo_breaks_323 rfl rfl ?_
                    refine mk_iload (nx := 327) X 1 d_Mo_breaks_325 rfl rfl ?_
                    refine mk_callSi (nx := 330) (n := 2) (As := [.int (zi (cpt c a (u : Int))), .int (zi (cpt c b (u : Int)))]) (rest := []) X (c_Mo_gap l D cs ad hi I (cpt c a (u : Int)) (cpt c b (u : Int)) (by omega) (by omega)) (g_Mo_gap wd_796) rfl ⟨rfl, rfl⟩ (by decide +kernel) ⟨by decide, by decide⟩ rfl (Nat.le_of_ble_eq_true rfl) rfl d_Mo_breaks_327 rfl ?_
                    intro r327 J6 hJ6
                    obtain ⟨rfl, rfl⟩ := hJ6
                    refine mk_istore (nx := 332) X [(13, .int (zi (gp (cpt c a (u : Int)) (cpt c b (u : Int))))), (12, .int (zi (gp (cpt c a (t : Int)) (cpt c b (t : Int))))), (11, .int (zi (cpt c b (u : Int)))), (10, .int (zi (cpt c a (u : Int)))), (0, .ref (ad 0)), (1, .int (zi rule)), (2, .int (zi (a : Int))), (3, .int (zi (b : Int))), (4, .int (zi (t : Int))), (5, .int (zi (cpt c a (t : Int)))), (6, .int (zi (cpt c b (t : Int)))), (7, .int (zi x7)), (8, .int (zi x8)), (9, .int (zi (u : Int)))] d_Mo_breaks_330 (by decide) rfl rfl ?_
                    refine mk_iload (nx := 334) X 1 d_Mo_breaks_332 rfl rfl ?_
                    refine mk_if_eq (tgt := 346) (nx := 337) X d_Mo_breaks_334 (by omega) (by decide) rfl (fun c334 => ?_) (fun c334 => ?_)
                    · skip
                      refine mk_iloadn (nx := 347) X 5 d_Mo_breaks_346 rfl rfl ?_
                      refine mk_bipush (nx := 349) X d_Mo_breaks_347 (by decide) rfl ?_
                      refine mk_icmp_ne (tgt := 365) (nx := 352) X d_Mo_breaks_349 (by omega) (by omega) (by decide) rfl (fun c349 => ?_) (fun c349 => ?_)
                      · skip
                        refine mk_iload (nx := 367) X 9 d_Mo_breaks_365 rfl rfl ?_
                        refine mk_iload (nx := 369) X 10 d_Mo_breaks_367 rfl rfl ?_
                        refine mk_icmp_lt (tgt := 380) (nx := 372) X d_Mo_breaks_369 (by omega) (by omega) (by decide) rfl (fun c369 => ?_) (fun c369 => ?_)
                        · skip
                          refine mk_iload (nx := 382) X 10 d_Mo_breaks_380 rfl rfl ?_
                          refine mk_iload (nx := 384) X 2 d_Mo_breaks_382 rfl rfl ?_
                          refine mk_isub (nx := 385) X d_Mo_breaks_384 rfl ?_
                          refine mk_istore (nx := 387) X [(14, .int (zi ((cpt c b (t : Int)) - (cpt c b (u : Int))))), (13, .int (zi (gp (cpt c a (u : Int)) (cpt c b (u : Int))))), (12, .int (zi (gp (cpt c a (t : Int)) (cpt c b (t : Int))))), (11, .int (zi (cpt c b (u : Int)))), (10, .int (zi (cpt c a (u : Int)))), (0, .ref (ad 0)), (1, .int (zi rule)), (2, .int (zi (a : Int))), (3, .int (zi (b : Int))), (4, .int (zi (t : Int))), (5, .int (zi (cpt c a (t : Int)))), (6, .int (zi (cpt c b (t : Int)))), (7, .int (zi x7)), (8, .int (zi x8)), (9, .int (zi (u : Int)))] d_Mo_breaks_385 (by decide) rfl rfl ?_
                          refine mk_iload (nx := 389) X 2 d_Mo_breaks_387 rfl rfl ?_
                          refine mk_iload (nx := 391) X 1 d_Mo_breaks_389 rfl rfl ?_
                          refine mk_icmp_eq (tgt := 411) (nx := 394) X d_Mo_breaks_391 (by omega) (by omega) (by decide) rfl (fun c391 => ?_) (fun c391 => ?_)
                          · skip
                            refine mk_iconst (nx := 412) X d_Mo_breaks_411 rfl ?_
                            exact hret _ _ _ _ d_Mo_breaks_412 (by omega) (by first | exact ⟨rfl, Or.inl ⟨rfl, hona, honb, by rw [← hbt]; exact (brQ_p hp hr3).mpr (by omega)⟩⟩ | exact ⟨rfl, Or.inr ⟨rfl, fun hd => by have h3 := hd.2.2; rw [← hbt] at h3; have h4 := (brQ_p hp hr3).mp h3; omega⟩⟩)
                          · skip
                            refine mk_iload (nx := 396) X 0 d_Mo_breaks_394 rfl rfl ?_
                            refine mk_iconst (nx := 397) X d_Mo_breaks_396 rfl ?_
                            refine mk_icmp_gt (tgt := 407) (nx := 400) X d_Mo_breaks_397 (by omega) (by omega) (by decide) rfl (fun c397 => ?_) (fun c397 => ?_)
                            · skip
                              refine mk_iconst (nx := 408) X d_Mo_breaks_407 rfl ?_
                              refine mk_goto (tgt := 412) X d_Mo_breaks_408 (by decide) ?_
                              exact hret _ _ _ _ d_Mo_breaks_412 (by omega) (by first | exact ⟨rfl, Or.inl ⟨rfl, hona, honb, by rw [← hbt]; exact (brQ_p hp hr3).mpr (by omega)⟩⟩ | exact ⟨rfl, Or.inr ⟨rfl, fun hd => by have h3 := hd.2.2; rw [← hbt] at h3; have h4 := (brQ_p hp hr3).mp h3; omega⟩⟩)
                            · skip
                              refine mk_iload (nx := 402) X 0 d_Mo_breaks_400 rfl rfl ?_
                              refine mk_bipush (nx := 404) X d_Mo_breaks_402 (by decide) rfl ?_
                              refine mk_icmp_ge (tgt := 411) (nx := 407) X d_Mo_breaks_404 (by omega) (by omega) (by decide) rfl (fun c404 => ?_) (fun c404 => ?_)
                              · skip
                                refine mk_iconst (nx := 412) X d_Mo_breaks_411 rfl ?_
                                exact hret _ _ _ _ d_Mo_breaks_412 (by omega) (by first | exact ⟨rfl, Or.inl ⟨rfl, hona, honb, by rw [← hbt]; exact (brQ_p hp hr3).mpr (by omega)⟩⟩ | exact ⟨rfl, Or.inr ⟨rfl, fun hd => by have h3 := hd.2.2; rw [← hbt] at h3; have h4 := (brQ_p hp hr3).mp h3; omega⟩⟩)
                              · skip
                                refine mk_iconst (nx := 408) X d_Mo_breaks_407 rfl ?_
                                refine mk_goto (tgt := 412) X d_Mo_breaks_408 (by decide) ?_
                                exact hret _ _ _ _ d_Mo_breaks_412 (by omega) (by first | exact ⟨rfl, Or.inl ⟨rfl, hona, honb, by rw [← hbt]; exact (brQ_p hp hr3).mpr (by omega)⟩⟩ | exact ⟨rfl, Or.inr ⟨rfl, fun hd => by have h3 := hd.2.2; rw [← hbt] at h3; have h4 := (brQ_p hp hr3).mp h3; omega⟩⟩)
                        · skip
                          refine mk_iload (nx := 374) X 9 d_Mo_breaks_372 rfl rfl ?_
                          refine mk_iload (nx := 376) X 3 d_Mo_breaks_374 rfl rfl ?_
                          refine mk_isub (nx := 377) X d_Mo_breaks_376 rfl ?_
                          refine mk_goto (tgt := 385) X d_Mo_breaks_377 (by decide) ?_
                          refine mk_istore (nx := 387) X [(14, .int (zi ((cpt c a (t : Int)) - (cpt c a (u : Int))))), (13, .int (zi (gp (cpt c a (u : Int)) (cpt c b (u : Int))))), (12, .int (zi (gp (cpt c a (t : Int)) (cpt c b (t : Int))))), (11, .int (zi (cpt c b (u : Int)))), (10, .int (zi (cpt c a (u : Int)))), (0, .ref (ad 0)), (1, .int (zi rule)), (2, .int (zi (a : Int))), (3, .int (zi (b : Int))), (4, .int (zi (t : Int))), (5, .int (zi (cpt c a (t : Int)))), (6, .int (zi (cpt c b (t : Int)))), (7, .int (zi x7)), (8, .int (zi x8)), (9, .int (zi (u : Int)))] d_Mo_breaks_385 (by decide) rfl rfl ?_
                          refine mk_iload (nx := 389) X 2 d_Mo_breaks_387 rfl rfl ?_
                          refine mk_iload (nx := 391) X 1 d_Mo_breaks_389 rfl rfl ?_
                          refine mk_icmp_eq (tgt := 411) (nx := 394) X d_Mo_breaks_391 (by omega) (by omega) (by decide) rfl (fun c391 => ?_) (fun c391 => ?_)
                          · skip
                            refine mk_iconst (nx := 412) X d_Mo_breaks_411 rfl ?_
                            exact hret _ _ _ _ d_Mo_breaks_412 (by omega) (by first | exact ⟨rfl, Or.inl ⟨rfl, hona, honb, by rw [← hbt]; exact (brQ_p hp hr3).mpr (by omega)⟩⟩ | exact ⟨rfl, Or.inr ⟨rfl, fun hd => by have h3 := hd.2.2; rw [← hbt] at h3; have h4 := (brQ_p hp hr3).mp h3; omega⟩⟩)
                          · skip
                            refine mk_iload (nx := 396) X 0 d_Mo_breaks_394 rfl rfl ?_
                            refine mk_iconst (nx := 397) X d_Mo_breaks_396 rfl ?_
                            refine mk_icmp_gt (tgt := 407) (nx := 400) X d_Mo_breaks_397 (by omega) (by omega) (by decide) rfl (fun c397 => ?_) (fun c397 => ?_)
                            · skip
                              refine mk_iconst (nx := 408) X d_Mo_breaks_407 rfl ?_
                              refine mk_goto (tgt := 412) X d_Mo_breaks_408 (by decide) ?_
                              exact hret _ _ _ _ d_Mo_breaks_412 (by omega) (by first | exact ⟨rfl, Or.inl ⟨rfl, hona, honb, by rw [← hbt]; exact (brQ_p hp hr3).mpr (by omega)⟩⟩ | exact ⟨rfl, Or.inr ⟨rfl, fun hd => by have h3 := hd.2.2; rw [← hbt] at h3; have h4 := (brQ_p hp hr3).mp h3; omega⟩⟩)
                            · skip
                              refine mk_iload (nx := 402) X 0 d_Mo_breaks_400 rfl rfl ?_
                              refine mk_bipush (nx := 404) X d_Mo_breaks_402 (by decide) rfl ?_
                              refine mk_icmp_ge (tgt := 411) (nx := 407) X d_Mo_breaks_404 (by omega) (by omega) (by decide) rfl (fun c404 => ?_) (fun c404 => ?_)
                              · skip
                                refine mk_iconst (nx := 412) X d_Mo_breaks_411 rfl ?_
                                exact hret _ _ _ _ d_Mo_breaks_412 (by omega) (by first | exact ⟨rfl, Or.inl ⟨rfl, hona, honb, by rw [← hbt]; exact (brQ_p hp hr3).mpr (by omega)⟩⟩ | exact ⟨rfl, Or.inr ⟨rfl, fun hd => by have h3 := hd.2.2; rw [← hbt] at h3; have h4 := (brQ_p hp hr3).mp h3; omega⟩⟩)
                              · skip
                                refine mk_iconst (nx := 408) X d_Mo_breaks_407 rfl ?_
                                refine mk_goto (tgt := 412) X d_Mo_breaks_408 (by decide) ?_
                                exact hret _ _ _ _ d_Mo_breaks_412 (by omega) (by first | exact ⟨rfl, Or.inl ⟨rfl, hona, honb, by rw [← hbt]; exact (brQ_p hp hr3).mpr (by omega)⟩⟩ | exact ⟨rfl, Or.inr ⟨rfl, fun hd => by have h3 := hd.2.2; rw [← hbt] at h3; have h4 := (brQ_p hp hr3).mp h3; omega⟩⟩)
                      · skip
                        refine mk_iload (nx := 354) X 1 d_Mo_breaks_352 rfl rfl ?_
                        refine mk_iload (nx := 356) X 0 d_Mo_breaks_354 rfl rfl ?_
                        refine mk_icmp_ne (tgt := 363) (nx := 359) X d_Mo_breaks_356 (by omega) (by omega) (by decide) rfl (fun c356 => ?_) (fun c356 => ?_)
                        · skip
                          refine mk_iconst (nx := 364) X d_Mo_breaks_363 rfl ?_
                          exact hret _ _ _ _ d_Mo_breaks_364 (by omega) (by first | exact ⟨rfl, Or.inl ⟨rfl, hona, honb, by rw [← hbt]; exact (brQ_p hp hr3).mpr (by omega)⟩⟩ | exact ⟨rfl, Or.inr ⟨rfl, fun hd => by have h3 := hd.2.2; rw [← hbt] at h3; have h4 := (brQ_p hp hr3).mp h3; omega⟩⟩)
                        · skip
                          refine mk_iconst (nx := 360) X d_Mo_breaks_359 rfl ?_
                          refine mk_goto (tgt := 364) X d_Mo_breaks_360 (by decide) ?_
                          exact hret _ _ _ _ d_Mo_breaks_364 (by omega) (by first | exact ⟨rfl, Or.inl ⟨rfl, hona, honb, by rw [← hbt]; exact (brQ_p hp hr3).mpr (by omega)⟩⟩ | exact ⟨rfl, Or.inr ⟨rfl, fun hd => by have h3 := hd.2.2; rw [← hbt] at h3; have h4 := (brQ_p hp hr3).mp h3; omega⟩⟩)
                    · skip
                      refine mk_iload (nx := 339) X 1 d_Mo_breaks_337 rfl rfl ?_
                      refine mk_bipush (nx := 341) X d_Mo_breaks_339 (by decide) rfl ?_
                      refine mk_icmp_eq (tgt := 346) (nx := 344) X d_Mo_breaks_341 (by omega) (by omega) (by decide) rfl (fun c341 => ?_) (fun c341 => ?_)
                      · skip
                        refine mk_iloadn (nx := 347) X 5 d_Mo_breaks_346 rfl rfl ?_
                        refine mk_bipush (nx := 349) X d_Mo_breaks_347 (by decide) rfl ?_
                        refine mk_icmp_ne (tgt := 365) (nx := 352) X d_Mo_breaks_349 (by omega) (by omega) (by decide) rfl (fun c349 => ?_) (fun c349 => ?_)
                        · skip
                          refine mk_iload (nx := 367) X 9 d_Mo_breaks_365 rfl rfl ?_
                          refine mk_iload (nx := 369) X 10 d_Mo_breaks_367 rfl rfl ?_
                          refine mk_icmp_lt (tgt := 380) (nx := 372) X d_Mo_breaks_369 (by omega) (by omega) (by decide) rfl (fun c369 => ?_) (fun c369 => ?_)
                          · skip
                            refine mk_iload (nx := 382) X 10 d_Mo_breaks_380 rfl rfl ?_
                            refine mk_iload (nx := 384) X 2 d_Mo_breaks_382 rfl rfl ?_
                            refine mk_isub (nx := 385) X d_Mo_breaks_384 rfl ?_
                            refine mk_istore (nx := 387) X [(14, .int (zi ((cpt c b (t : Int)) - (cpt c b (u : Int))))), (13, .int (zi (gp (cpt c a (u : Int)) (cpt c b (u : Int))))), (12, .int (zi (gp (cpt c a (t : Int)) (cpt c b (t : Int))))), (11, .int (zi (cpt c b (u : Int)))), (10, .int (zi (cpt c a (u : Int)))), (0, .ref (ad 0)), (1, .int (zi rule)), (2, .int (zi (a : Int))), (3, .int (zi (b : Int))), (4, .int (zi (t : Int))), (5, .int (zi (cpt c a (t : Int)))), (6, .int (zi (cpt c b (t : Int)))), (7, .int (zi x7)), (8, .int (zi x8)), (9, .int (zi (u : Int)))] d_Mo_breaks_385 (by decide) rfl rfl ?_
                            refine mk_iload (nx := 389) X 2 d_Mo_breaks_387 rfl rfl ?_
                            refine mk_iload (nx := 391) X 1 d_Mo_breaks_389 rfl rfl ?_
                            refine mk_icmp_eq (tgt := 411) (nx := 394) X d_Mo_breaks_391 (by omega) (by omega) (by decide) rfl (fun c391 => ?_) (fun c391 => ?_)
                            · skip
                              refine mk_iconst (nx := 412) X d_Mo_breaks_411 rfl ?_
                              exact hret _ _ _ _ d_Mo_breaks_412 (by omega) (by first | exact ⟨rfl, Or.inl ⟨rfl, hona, honb, by rw [← hbt]; exact (brQ_p hp hr3).mpr (by omega)⟩⟩ | exact ⟨rfl, Or.inr ⟨rfl, fun hd => by have h3 := hd.2.2; rw [← hbt] at h3; have h4 := (brQ_p hp hr3).mp h3; omega⟩⟩)
                            · skip
                              refine mk_iload (nx := 396) X 0 d_Mo_breaks_394 rfl rfl ?_
                              refine mk_iconst (nx := 397) X d_Mo_breaks_396 rfl ?_
                              refine mk_icmp_gt (tgt := 407) (nx := 400) X d_Mo_breaks_397 (by omega) (by omega) (by decide) rfl (fun c397 => ?_) (fun c397 => ?_)
                              · skip
                                refine mk_iconst (nx := 408) X d_Mo_breaks_407 rfl ?_
                                refine mk_goto (tgt := 412) X d_Mo_breaks_408 (by decide) ?_
                                exact hret _ _ _ _ d_Mo_breaks_412 (by omega) (by first | exact ⟨rfl, Or.inl ⟨rfl, hona, honb, by rw [← hbt]; exact (brQ_p hp hr3).mpr (by omega)⟩⟩ | exact ⟨rfl, Or.inr ⟨rfl, fun hd => by have h3 := hd.2.2; rw [← hbt] at h3; have h4 := (brQ_p hp hr3).mp h3; omega⟩⟩)
                              · skip
                                refine mk_iload (nx := 402) X 0 d_Mo_breaks_400 rfl rfl ?_
                                refine mk_bipush (nx := 404) X d_Mo_breaks_402 (by decide) rfl ?_
                                refine mk_icmp_ge (tgt := 411) (nx := 407) X d_Mo_breaks_404 (by omega) (by omega) (by decide) rfl (fun c404 => ?_) (fun c404 => ?_)
                                · skip
                                  refine mk_iconst (nx := 412) X d_Mo_breaks_411 rfl ?_
                                  exact hret _ _ _ _ d_Mo_breaks_412 (by omega) (by first | exact ⟨rfl, Or.inl ⟨rfl, hona, honb, by rw [← hbt]; exact (brQ_p hp hr3).mpr (by omega)⟩⟩ | exact ⟨rfl, Or.inr ⟨rfl, fun hd => by have h3 := hd.2.2; rw [← hbt] at h3; have h4 := (brQ_p hp hr3).mp h3; omega⟩⟩)
                                · skip
                                  refine mk_iconst (nx := 408) X d_Mo_breaks_407 rfl ?_
                                  refine mk_goto (tgt := 412) X d_Mo_breaks_408 (by decide) ?_
                                  exact hret _ _ _ _ d_Mo_breaks_412 (by omega) (by first | exact ⟨rfl, Or.inl ⟨rfl, hona, honb, by rw [← hbt]; exact (brQ_p hp hr3).mpr (by omega)⟩⟩ | exact ⟨rfl, Or.inr ⟨rfl, fun hd => by have h3 := hd.2.2; rw [← hbt] at h3; have h4 := (brQ_p hp hr3).mp h3; omega⟩⟩)
                          · skip
                            refine mk_iload (nx := 374) X 9 d_Mo_breaks_372 rfl rfl ?_
                            refine mk_iload (nx := 376) X 3 d_Mo_breaks_374 rfl rfl ?_
                            refine mk_isub (nx := 377) X d_Mo_breaks_376 rfl ?_
                            refine mk_goto (tgt := 385) X d_Mo_breaks_377 (by decide) ?_
                            refine mk_istore (nx := 387) X [(14, .int (zi ((cpt c a (t : Int)) - (cpt c a (u : Int))))), (13, .int (zi (gp (cpt c a (u : Int)) (cpt c b (u : Int))))), (12, .int (zi (gp (cpt c a (t : Int)) (cpt c b (t : Int))))), (11, .int (zi (cpt c b (u : Int)))), (10, .int (zi (cpt c a (u : Int)))), (0, .ref (ad 0)), (1, .int (zi rule)), (2, .int (zi (a : Int))), (3, .int (zi (b : Int))), (4, .int (zi (t : Int))), (5, .int (zi (cpt c a (t : Int)))), (6, .int (zi (cpt c b (t : Int)))), (7, .int (zi x7)), (8, .int (zi x8)), (9, .int (zi (u : Int)))] d_Mo_breaks_385 (by decide) rfl rfl ?_
                            refine mk_iload (nx := 389) X 2 d_Mo_breaks_387 rfl rfl ?_
                            refine mk_iload (nx := 391) X 1 d_Mo_breaks_389 rfl rfl ?_
                            refine mk_icmp_eq (tgt := 411) (nx := 394) X d_Mo_breaks_391 (by omega) (by omega) (by decide) rfl (fun c391 => ?_) (fun c391 => ?_)
                            · skip
                              refine mk_iconst (nx := 412) X d_Mo_breaks_411 rfl ?_
                              exact hret _ _ _ _ d_Mo_breaks_412 (by omega) (by first | exact ⟨rfl, Or.inl ⟨rfl, hona, honb, by rw [← hbt]; exact (brQ_p hp hr3).mpr (by omega)⟩⟩ | exact ⟨rfl, Or.inr ⟨rfl, fun hd => by have h3 := hd.2.2; rw [← hbt] at h3; have h4 := (brQ_p hp hr3).mp h3; omega⟩⟩)
                            · skip
                              refine mk_iload (nx := 396) X 0 d_Mo_breaks_394 rfl rfl ?_
                              refine mk_iconst (nx := 397) X d_Mo_breaks_396 rfl ?_
                              refine mk_icmp_gt (tgt := 407) (nx := 400) X d_Mo_breaks_397 (by omega) (by omega) (by decide) rfl (fun c397 => ?_) (fun c397 => ?_)
                              · skip
                                refine mk_iconst (nx := 408) X d_Mo_breaks_407 rfl ?_
                                refine mk_goto (tgt := 412) X d_Mo_breaks_408 (by decide) ?_
                                exact hret _ _ _ _ d_Mo_breaks_412 (by omega) (by first | exact ⟨rfl, Or.inl ⟨rfl, hona, honb, by rw [← hbt]; exact (brQ_p hp hr3).mpr (by omega)⟩⟩ | exact ⟨rfl, Or.inr ⟨rfl, fun hd => by have h3 := hd.2.2; rw [← hbt] at h3; have h4 := (brQ_p hp hr3).mp h3; omega⟩⟩)
                              · skip
                                refine mk_iload (nx := 402) X 0 d_Mo_breaks_400 rfl rfl ?_
                                refine mk_bipush (nx := 404) X d_Mo_breaks_402 (by decide) rfl ?_
                                refine mk_icmp_ge (tgt := 411) (nx := 407) X d_Mo_breaks_404 (by omega) (by omega) (by decide) rfl (fun c404 => ?_) (fun c404 => ?_)
                                · skip
                                  refine mk_iconst (nx := 412) X d_Mo_breaks_411 rfl ?_
                                  exact hret _ _ _ _ d_Mo_breaks_412 (by omega) (by first | exact ⟨rfl, Or.inl ⟨rfl, hona, honb, by rw [← hbt]; exact (brQ_p hp hr3).mpr (by omega)⟩⟩ | exact ⟨rfl, Or.inr ⟨rfl, fun hd => by have h3 := hd.2.2; rw [← hbt] at h3; have h4 := (brQ_p hp hr3).mp h3; omega⟩⟩)
                                · skip
                                  refine mk_iconst (nx := 408) X d_Mo_breaks_407 rfl ?_
                                  refine mk_goto (tgt := 412) X d_Mo_breaks_408 (by decide) ?_
                                  exact hret _ _ _ _ d_Mo_breaks_412 (by omega) (by first | exact ⟨rfl, Or.inl ⟨rfl, hona, honb, by rw [← hbt]; exact (brQ_p hp hr3).mpr (by omega)⟩⟩ | exact ⟨rfl, Or.inr ⟨rfl, fun hd => by have h3 := hd.2.2; rw [← hbt] at h3; have h4 := (brQ_p hp hr3).mp h3; omega⟩⟩)
                        · skip
                          refine mk_iload (nx := 354) X 1 d_Mo_breaks_352 rfl rfl ?_
                          refine mk_iload (nx := 356) X 0 d_Mo_breaks_354 rfl rfl ?_
                          refine mk_icmp_ne (tgt := 363) (nx := 359) X d_Mo_breaks_356 (by omega) (by omega) (by decide) rfl (fun c356 => ?_) (fun c356 => ?_)
                          · skip
                            refine mk_iconst (nx := 364) X d_Mo_breaks_363 rfl ?_
                            exact hret _ _ _ _ d_Mo_breaks_364 (by omega) (by first | exact ⟨rfl, Or.inl ⟨rfl, hona, honb, by rw [← hbt]; exact (brQ_p hp hr3).mpr (by omega)⟩⟩ | exact ⟨rfl, Or.inr ⟨rfl, fun hd => by have h3 := hd.2.2; rw [← hbt] at h3; have h4 := (brQ_p hp hr3).mp h3; omega⟩⟩)
                          · skip
                            refine mk_iconst (nx := 360) X d_Mo_breaks_359 rfl ?_
                            refine mk_goto (tgt := 364) X d_Mo_breaks_360 (by decide) ?_
                            exact hret _ _ _ _ d_Mo_breaks_364 (by omega) (by first | exact ⟨rfl, Or.inl ⟨rfl, hona, honb, by rw [← hbt]; exact (brQ_p hp hr3).mpr (by omega)⟩⟩ | exact ⟨rfl, Or.inr ⟨rfl, fun hd => by have h3 := hd.2.2; rw [← hbt] at h3; have h4 := (brQ_p hp hr3).mp h3; omega⟩⟩)
                      · skip
                        refine mk_iconst (nx := 345) X d_Mo_breaks_344 rfl ?_
                        exact hret _ _ _ _ d_Mo_breaks_345 (by omega) (by exact ⟨rfl, Or.inr ⟨rfl, fun hd => by have h3 := hd.2.2; rw [← hbt] at h3; have h4 := (brQ_p hp hr3).mp h3; omega⟩⟩)
                  · skip
                    refine mk_iload (nx := 300) X 7 d_Mo_breaks_298 rfl rfl ?_
                    refine mk_iload (nx := 302) X 1 d_Mo_breaks_300 rfl rfl ?_
                    refine mk_icmp_ge (tgt := 312) (nx := 305) X d_Mo_breaks_302 (by omega) (by omega) (by decide) rfl (fun c302 => ?_) (fun c302 => ?_)
                    · skip
                      refine mk_iconst (nx := 313) X d_Mo_breaks_312 rfl ?_
                      exact hret _ _ _ _ d_Mo_breaks_313 (by omega) (by exact ⟨rfl, Or.inr ⟨rfl, fun hd => by have h3 := hd.2.2; rw [← hbt] at h3; have h4 := (brQ_p hp hr3).mp h3; omega⟩⟩)
                    · skip
                      refine mk_iload (nx := 307) X 8 d_Mo_breaks_305 rfl rfl ?_
                      refine mk_iload (nx := 309) X 0 d_Mo_breaks_307 rfl rfl ?_
                      refine mk_icmp_lt (tgt := 314) (nx := 312) X d_Mo_breaks_309 (by omega) (by omega) (by decide) rfl (fun c309 => ?_) (fun c309 => ?_)
                      · skip
                        refine mk_iload (nx := 316) X 7 d_Mo_breaks_314 rfl rfl ?_
                        refine mk_iload (nx := 318) X 8 d_Mo_breaks_316 rfl rfl ?_
                        refine mk_callSi (nx := 321) (n := 2) (As := [.int (zi (cpt c a (t : Int))), .int (zi (cpt c b (t : Int)))]) (rest := []) X (c_Mo_gap l D cs ad hi I (cpt c a (t : Int)) (cpt c b (t : Int)) (by omega) (by omega)) (g_Mo_gap wd_796) rfl ⟨rfl, rfl⟩ (by decide +kernel) ⟨by decide, by decide⟩ rfl (Nat.le_of_ble_eq_true rfl) rfl d_Mo_breaks_318 rfl ?_
                        intro r318 J7 hJ7
                        obtain ⟨rfl, rfl⟩ := hJ7
                        refine mk_istore (nx := 323) X [(12, .int (zi (gp (cpt c a (t : Int)) (cpt c b (t : Int))))), (11, .int (zi (cpt c b (u : Int)))), (10, .int (zi (cpt c a (u : Int)))), (0, .ref (ad 0)), (1, .int (zi rule)), (2, .int (zi (a : Int))), (3, .int (zi (b : Int))), (4, .int (zi (t : Int))), (5, .int (zi (cpt c a (t : Int)))), (6, .int (zi (cpt c b (t : Int)))), (7, .int (zi x7)), (8, .int (zi x8)), (9, .int (zi (u : Int)))] d_Mo_breaks_321 (by decide) rfl rfl ?_
                        refine mk_iload (nx := 325) X 2 d_Mo_breaks_323 rfl rfl ?_
                        refine mk_iload (nx := 327) X 1 d_Mo_breaks_325 rfl rfl ?_
                        refine mk_callSi (nx := 330) (n := 2) (As := [.int (zi (cpt c a (u : Int))), .int (zi (cpt c b (u : Int)))]) (rest := []) X (c_Mo_gap l D cs ad hi I (cpt c a (u : Int)) (cpt c b (u : Int)) (by omega) (by omega)) (g_Mo_gap wd_796) rfl ⟨rfl, rfl⟩ (by decide +kernel) ⟨by decide, by decide⟩ rfl (Nat.le_of_ble_eq_true rfl) rfl d_Mo_breaks_327 rfl ?_
                        intro r327 J8 hJ8
                        obtain ⟨rfl, rfl⟩ := hJ8
                        refine mk_istore (nx := 332) X [(13, .int (zi (gp (cpt c a (u : Int)) (cpt c b (u : Int))))), (12, .int (zi (gp (cpt c a (t : Int)) (cpt c b (t : Int))))), (11, .int (zi (cpt c b (u : Int)))), (10, .int (zi (cpt c a (u : Int)))), (0, .ref (ad 0)), (1, .int (zi rule)), (2, .int (zi (a : Int))), (3, .int (zi (b : Int))), (4, .int (zi (t : Int))), (5, .int (zi (cpt c a (t : Int)))), (6, .int (zi (cpt c b (t : Int)))), (7, .int (zi x7)), (8, .int (zi x8)), (9, .int (zi (u : Int)))] d_Mo_breaks_330 (by decide) rfl rfl ?_
                        refine mk_iload (nx := 334) X 1 d_Mo_breaks_332 rfl rfl ?_
                        refine mk_if_eq (tgt := 346) (nx := 337) X d_Mo_breaks_334 (by omega) (by decide) rfl (fun c334 => ?_) (fun c334 => ?_)
                        · skip
                          refine mk_iloadn (nx := 347) X 5 d_Mo_breaks_346 rfl rfl ?_
                          refine mk_bipush (nx := 349) X d_Mo_breaks_347 (by decide) rfl ?_
                          refine mk_icmp_ne (tgt := 365) (nx := 352) X d_Mo_breaks_349 (by omega) (by omega) (by decide) rfl (fun c349 => ?_) (fun c349 => ?_)
                          · skip
                            refine mk_iload (nx := 367) X 9 d_Mo_breaks_365 rfl rfl ?_
                            refine mk_iload (nx := 369) X 10 d_Mo_breaks_367 rfl rfl ?_
                            refine mk_icmp_lt (tgt := 380) (nx := 372) X d_Mo_breaks_369 (by omega) (by omega) (by decide) rfl (fun c369 => ?_) (fun c369 => ?_)
                            · skip
                              refine mk_iload (nx := 382) X 10 d_Mo_breaks_380 rfl rfl ?_
                              refine mk_iload (nx := 384) X 2 d_Mo_breaks_382 rfl rfl ?_
                              refine mk_isub (nx := 385) X d_Mo_breaks_384 rfl ?_
                              refine mk_istore (nx := 387) X [(14, .int (zi ((cpt c b (t : Int)) - (cpt c b (u : Int))))), (13, .int (zi (gp (cpt c a (u : Int)) (cpt c b (u : Int))))), (12, .int (zi (gp (cpt c a (t : Int)) (cpt c b (t : Int))))), (11, .int (zi (cpt c b (u : Int)))), (10, .int (zi (cpt c a (u : Int)))), (0, .ref (ad 0)), (1, .int (zi rule)), (2, .int (zi (a : Int))), (3, .int (zi (b : Int))), (4, .int (zi (t : Int))), (5, .int (zi (cpt c a (t : Int)))), (6, .int (zi (cpt c b (t : Int)))), (7, .int (zi x7)), (8, .int (zi x8)), (9, .int (zi (u : Int)))] d_Mo_breaks_385 (by decide) rfl rfl ?_
                              refine mk_iload (nx := 389) X 2 d_Mo_breaks_387 rfl rfl ?_
                              refine mk_iload (nx := 391) X 1 d_Mo_breaks_389 rfl rfl ?_
                              refine mk_icmp_eq (tgt := 411) (nx := 394) X d_Mo_breaks_391 (by omega) (by omega) (by decide) rfl (fun c391 => ?_) (fun c391 => ?_)
                              · skip
                                refine mk_iconst (nx := 412) X d_Mo_breaks_411 rfl ?_
                                exact hret _ _ _ _ d_Mo_breaks_412 (by omega) (by first | exact ⟨rfl, Or.inl ⟨rfl, hona, honb, by rw [← hbt]; exact (brQ_p hp hr3).mpr (by omega)⟩⟩ | exact ⟨rfl, Or.inr ⟨rfl, fun hd => by have h3 := hd.2.2; rw [← hbt] at h3; have h4 := (brQ_p hp hr3).mp h3; omega⟩⟩)
                              · skip
                                refine mk_iload (nx := 396) X 0 d_Mo_breaks_394 rfl rfl ?_
                                refine mk_iconst (nx := 397) X d_Mo_breaks_396 rfl ?_
                                refine mk_icmp_gt (tgt := 407) (nx := 400) X d_Mo_breaks_397 (by omega) (by omega) (by decide) rfl (fun c397 => ?_) (fun c397 => ?_)
                                · skip
                                  refine mk_iconst (nx := 408) X d_Mo_breaks_407 rfl ?_
                                  refine mk_goto (tgt := 412) X d_Mo_breaks_408 (by decide) ?_
                                  exact hret _ _ _ _ d_Mo_breaks_412 (by omega) (by first | exact ⟨rfl, Or.inl ⟨rfl, hona, honb, by rw [← hbt]; exact (brQ_p hp hr3).mpr (by omega)⟩⟩ | exact ⟨rfl, Or.inr ⟨rfl, fun hd => by have h3 := hd.2.2; rw [← hbt] at h3; have h4 := (brQ_p hp hr3).mp h3; omega⟩⟩)
                                · skip
                                  refine mk_iload (nx := 402) X 0 d_Mo_breaks_400 rfl rfl ?_
                                  refine mk_bipush (nx := 404) X d_Mo_breaks_402 (by decide) rfl ?_
                                  refine mk_icmp_ge (tgt := 411) (nx := 407) X d_Mo_breaks_404 (by omega) (by omega) (by decide) rfl (fun c404 => ?_) (fun c404 => ?_)
                                  · skip
                                    refine mk_iconst (nx := 412) X d_Mo_breaks_411 rfl ?_
                                    exact hret _ _ _ _ d_Mo_breaks_412 (by omega) (by first | exact ⟨rfl, Or.inl ⟨rfl, hona, honb, by rw [← hbt]; exact (brQ_p hp hr3).mpr (by omega)⟩⟩ | exact ⟨rfl, Or.inr ⟨rfl, fun hd => by have h3 := hd.2.2; rw [← hbt] at h3; have h4 := (brQ_p hp hr3).mp h3; omega⟩⟩)
                                  · skip
                                    refine mk_iconst (nx := 408) X d_Mo_breaks_407 rfl ?_
                                    refine mk_goto (tgt := 412) X d_Mo_breaks_408 (by decide) ?_
                                    exact hret _ _ _ _ d_Mo_breaks_412 (by omega) (by first | exact ⟨rfl, Or.inl ⟨rfl, hona, honb, by rw [← hbt]; exact (brQ_p hp hr3).mpr (by omega)⟩⟩ | exact ⟨rfl, Or.inr ⟨rfl, fun hd => by have h3 := hd.2.2; rw [← hbt] at h3; have h4 := (brQ_p hp hr3).mp h3; omega⟩⟩)
                            · skip
                              refine mk_iload (nx := 374) X 9 d_Mo_breaks_372 rfl rfl ?_
                              refine mk_iload (nx := 376) X 3 d_Mo_breaks_374 rfl rfl ?_
                              refine mk_isub (nx := 377) X d_Mo_breaks_376 rfl ?_
                              refine mk_goto (tgt := 385) X d_Mo_breaks_377 (by decide) ?_
                              refine mk_istore (nx := 387) X [(14, .int (zi ((cpt c a (t : Int)) - (cpt c a (u : Int))))), (13, .int (zi (gp (cpt c a (u : Int)) (cpt c b (u : Int))))), (12, .int (zi (gp (cpt c a (t : Int)) (cpt c b (t : Int))))), (11, .int (zi (cpt c b (u : Int)))), (10, .int (zi (cpt c a (u : Int)))), (0, .ref (ad 0)), (1, .int (zi rule)), (2, .int (zi (a : Int))), (3, .int (zi (b : Int))), (4, .int (zi (t : Int))), (5, .int (zi (cpt c a (t : Int)))), (6, .int (zi (cpt c b (t : Int)))), (7, .int (zi x7)), (8, .int (zi x8)), (9, .int (zi (u : Int)))] d_Mo_breaks_385 (by decide) rfl rfl ?_
                              refine mk_iload (nx := 389) X 2 d_Mo_breaks_387 rfl rfl ?_
                              refine mk_iload (nx := 391) X 1 d_Mo_breaks_389 rfl rfl ?_
                              refine mk_icmp_eq (tgt := 411) (nx := 394) X d_Mo_breaks_391 (by omega) (by omega) (by decide) rfl (fun c391 => ?_) (fun c391 => ?_)
                              · skip
                                refine mk_iconst (nx := 412) X d_Mo_breaks_411 rfl ?_
                                exact hret _ _ _ _ d_Mo_breaks_412 (by omega) (by first | exact ⟨rfl, Or.inl ⟨rfl, hona, honb, by rw [← hbt]; exact (brQ_p hp hr3).mpr (by omega)⟩⟩ | exact ⟨rfl, Or.inr ⟨rfl, fun hd => by have h3 := hd.2.2; rw [← hbt] at h3; have h4 := (brQ_p hp hr3).mp h3; omega⟩⟩)
                              · skip
                                refine mk_iload (nx := 396) X 0 d_Mo_breaks_394 rfl rfl ?_
                                refine mk_iconst (nx := 397) X d_Mo_breaks_396 rfl ?_
                                refine mk_icmp_gt (tgt := 407) (nx := 400) X d_Mo_breaks_397 (by omega) (by omega) (by decide) rfl (fun c397 => ?_) (fun c397 => ?_)
                                · skip
                                  refine mk_iconst (nx := 408) X d_Mo_breaks_407 rfl ?_
                                  refine mk_goto (tgt := 412) X d_Mo_breaks_408 (by decide) ?_
                                  exact hret _ _ _ _ d_Mo_breaks_412 (by omega) (by first | exact ⟨rfl, Or.inl ⟨rfl, hona, honb, by rw [← hbt]; exact (brQ_p hp hr3).mpr (by omega)⟩⟩ | exact ⟨rfl, Or.inr ⟨rfl, fun hd => by have h3 := hd.2.2; rw [← hbt] at h3; have h4 := (brQ_p hp hr3).mp h3; omega⟩⟩)
                                · skip
                                  refine mk_iload (nx := 402) X 0 d_Mo_breaks_400 rfl rfl ?_
                                  refine mk_bipush (nx := 404) X d_Mo_breaks_402 (by decide) rfl ?_
                                  refine mk_icmp_ge (tgt := 411) (nx := 407) X d_Mo_breaks_404 (by omega) (by omega) (by decide) rfl (fun c404 => ?_) (fun c404 => ?_)
                                  · skip
                                    refine mk_iconst (nx := 412) X d_Mo_breaks_411 rfl ?_
                                    exact hret _ _ _ _ d_Mo_breaks_412 (by omega) (by first | exact ⟨rfl, Or.inl ⟨rfl, hona, honb, by rw [← hbt]; exact (brQ_p hp hr3).mpr (by omega)⟩⟩ | exact ⟨rfl, Or.inr ⟨rfl, fun hd => by have h3 := hd.2.2; rw [← hbt] at h3; have h4 := (brQ_p hp hr3).mp h3; omega⟩⟩)
                                  · skip
                                    refine mk_iconst (nx := 408) X d_Mo_breaks_407 rfl ?_
                                    refine mk_goto (tgt := 412) X d_Mo_breaks_408 (by decide) ?_
                                    exact hret _ _ _ _ d_Mo_breaks_412 (by omega) (by first | exact ⟨rfl, Or.inl ⟨rfl, hona, honb, by rw [← hbt]; exact (brQ_p hp hr3).mpr (by omega)⟩⟩ | exact ⟨rfl, Or.inr ⟨rfl, fun hd => by have h3 := hd.2.2; rw [← hbt] at h3; have h4 := (brQ_p hp hr3).mp h3; omega⟩⟩)
                          · skip
                            refine mk_iload (nx := 354) X 1 d_Mo_breaks_352 rfl rfl ?_
                            refine mk_iload (nx := 356) X 0 d_Mo_breaks_354 rfl rfl ?_
                            refine mk_icmp_ne (tgt := 363) (nx := 359) X d_Mo_breaks_356 (by omega) (by omega) (by decide) rfl (fun c356 => ?_) (fun c356 => ?_)
                            · skip
                              refine mk_iconst (nx := 364) X d_Mo_breaks_363 rfl ?_
                              exact hret _ _ _ _ d_Mo_breaks_364 (by omega) (by first | exact ⟨rfl, Or.inl ⟨rfl, hona, honb, by rw [← hbt]; exact (brQ_p hp hr3).mpr (by omega)⟩⟩ | exact ⟨rfl, Or.inr ⟨rfl, fun hd => by have h3 := hd.2.2; rw [← hbt] at h3; have h4 := (brQ_p hp hr3).mp h3; omega⟩⟩)
                            · skip
                              refine mk_iconst (nx := 360) X d_Mo_breaks_359 rfl ?_
                              refine mk_goto (tgt := 364) X d_Mo_breaks_360 (by decide) ?_
                              exact hret _ _ _ _ d_Mo_breaks_364 (by omega) (by first | exact ⟨rfl, Or.inl ⟨rfl, hona, honb, by rw [← hbt]; exact (brQ_p hp hr3).mpr (by omega)⟩⟩ | exact ⟨rfl, Or.inr ⟨rfl, fun hd => by have h3 := hd.2.2; rw [← hbt] at h3; have h4 := (brQ_p hp hr3).mp h3; omega⟩⟩)
                        · skip
                          refine mk_iload (nx := 339) X 1 d_Mo_breaks_337 rfl rfl ?_
                          refine mk_bipush (nx := 341) X d_Mo_breaks_339 (by decide) rfl ?_
                          refine mk_icmp_eq (tgt := 346) (nx := 344) X d_Mo_breaks_341 (by omega) (by omega) (by decide) rfl (fun c341 => ?_) (fun c341 => ?_)
                          · skip
                            refine mk_iloadn (nx := 347) X 5 d_Mo_breaks_346 rfl rfl ?_
                            refine mk_bipush (nx := 349) X d_Mo_breaks_347 (by decide) rfl ?_
                            refine mk_icmp_ne (tgt := 365) (nx := 352) X d_Mo_breaks_349 (by omega) (by omega) (by decide) rfl (fun c349 => ?_) (fun c349 => ?_)
                            · skip
                              refine mk_iload (nx := 367) X 9 d_Mo_breaks_365 rfl rfl ?_
                              refine mk_iload (nx := 369) X 10 d_Mo_breaks_367 rfl rfl ?_
                              refine mk_icmp_lt (tgt := 380) (nx := 372) X d_Mo_breaks_369 (by omega) (by omega) (by decide) rfl (fun c369 => ?_) (fun c369 => ?_)
                              · skip
                                refine mk_iload (nx := 382) X 10 d_Mo_breaks_380 rfl rfl ?_
                                refine mk_iload (nx := 384) X 2 d_Mo_breaks_382 rfl rfl ?_
                                refine mk_isub (nx := 385) X d_Mo_breaks_384 rfl ?_
                                refine mk_istore (nx := 387) X [(14, .int (zi ((cpt c b (t : Int)) - (cpt c b (u : Int))))), (13, .int (zi (gp (cpt c a (u : Int)) (cpt c b (u : Int))))), (12, .int (zi (gp (cpt c a (t : Int)) (cpt c b (t : Int))))), (11, .int (zi (cpt c b (u : Int)))), (10, .int (zi (cpt c a (u : Int)))), (0, .ref (ad 0)), (1, .int (zi rule)), (2, .int (zi (a : Int))), (3, .int (zi (b : Int))), (4, .int (zi (t : Int))), (5, .int (zi (cpt c a (t : Int)))), (6, .int (zi (cpt c b (t : Int)))), (7, .int (zi x7)), (8, .int (zi x8)), (9, .int (zi (u : Int)))] d_Mo_breaks_385 (by decide) rfl rfl ?_
                                refine mk_iload (nx := 389) X 2 d_Mo_breaks_387 rfl rfl ?_
                                refine mk_iload (nx := 391) X 1 d_Mo_breaks_389 rfl rfl ?_
                                refine mk_icmp_eq (tgt := 411) (nx := 394) X d_Mo_breaks_391 (by omega) (by omega) (by decide) rfl (fun c391 => ?_) (fun c391 => ?_)
                                · skip
                                  refine mk_iconst (nx := 412) X d_Mo_breaks_411 rfl ?_
                                  exact hret _ _ _ _ d_Mo_breaks_412 (by omega) (by first | exact ⟨rfl, Or.inl ⟨rfl, hona, honb, by rw [← hbt]; exact (brQ_p hp hr3).mpr (by omega)⟩⟩ | exact ⟨rfl, Or.inr ⟨rfl, fun hd => by have h3 := hd.2.2; rw [← hbt] at h3; have h4 := (brQ_p hp hr3).mp h3; omega⟩⟩)
                                · skip
                                  refine mk_iload (nx := 396) X 0 d_Mo_breaks_394 rfl rfl ?_
                                  refine mk_iconst (nx := 397) X d_Mo_breaks_396 rfl ?_
                                  refine mk_icmp_gt (tgt := 407) (nx := 400) X d_Mo_breaks_397 (by omega) (by omega) (by decide) rfl (fun c397 => ?_) (fun c397 => ?_)
                                  · skip
                                    refine mk_iconst (nx := 408) X d_Mo_breaks_407 rfl ?_
                                    refine mk_goto (tgt := 412) X d_Mo_breaks_408 (by decide) ?_
                                    exact hret _ _ _ _ d_Mo_breaks_412 (by omega) (by first | exact ⟨rfl, Or.inl ⟨rfl, hona, honb, by rw [← hbt]; exact (brQ_p hp hr3).mpr (by omega)⟩⟩ | exact ⟨rfl, Or.inr ⟨rfl, fun hd => by have h3 := hd.2.2; rw [← hbt] at h3; have h4 := (brQ_p hp hr3).mp h3; omega⟩⟩)
                                  · skip
                                    refine mk_iload (nx := 402) X 0 d_Mo_breaks_400 rfl rfl ?_
                                    refine mk_bipush (nx := 404) X d_Mo_breaks_402 (by decide) rfl ?_
                                    refine mk_icmp_ge (tgt := 411) (nx := 407) X d_Mo_breaks_404 (by omega) (by omega) (by decide) rfl (fun c404 => ?_) (fun c404 => ?_)
                                    · skip
                                      refine mk_iconst (nx := 412) X d_Mo_breaks_411 rfl ?_
                                      exact hret _ _ _ _ d_Mo_breaks_412 (by omega) (by first | exact ⟨rfl, Or.inl ⟨rfl, hona, honb, by rw [← hbt]; exact (brQ_p hp hr3).mpr (by omega)⟩⟩ | exact ⟨rfl, Or.inr ⟨rfl, fun hd => by have h3 := hd.2.2; rw [← hbt] at h3; have h4 := (brQ_p hp hr3).mp h3; omega⟩⟩)
                                    · skip
                                      refine mk_iconst (nx := 408) X d_Mo_breaks_407 rfl ?_
                                      refine mk_goto (tgt := 412) X d_Mo_breaks_408 (by decide) ?_
                                      exact hret _ _ _ _ d_Mo_breaks_412 (by omega) (by first | exact ⟨rfl, Or.inl ⟨rfl, hona, honb, by rw [← hbt]; exact (brQ_p hp hr3).mpr (by omega)⟩⟩ | exact ⟨rfl, Or.inr ⟨rfl, fun hd => by have h3 := hd.2.2; rw [← hbt] at h3; have h4 := (brQ_p hp hr3).mp h3; omega⟩⟩)
                              · skip
                                refine mk_iload (nx := 374) X 9 d_Mo_breaks_372 rfl rfl ?_
                                refine mk_iload (nx := 376) X 3 d_Mo_breaks_374 rfl rfl ?_
                                refine mk_isub (nx := 377) X d_Mo_breaks_376 rfl ?_
                                refine mk_goto (tgt := 385) X d_Mo_breaks_377 (by decide) ?_
                                refine mk_istore (nx := 387) X [(14, .int (zi ((cpt c a (t : Int)) - (cpt c a (u : Int))))), (13, .int (zi (gp (cpt c a (u : Int)) (cpt c b (u : Int))))), (12, .int (zi (gp (cpt c a (t : Int)) (cpt c b (t : Int))))), (11, .int (zi (cpt c b (u : Int)))), (10, .int (zi (cpt c a (u : Int)))), (0, .ref (ad 0)), (1, .int (zi rule)), (2, .int (zi (a : Int))), (3, .int (zi (b : Int))), (4, .int (zi (t : Int))), (5, .int (zi (cpt c a (t : Int)))), (6, .int (zi (cpt c b (t : Int)))), (7, .int (zi x7)), (8, .int (zi x8)), (9, .int (zi (u : Int)))] d_Mo_breaks_385 (by decide) rfl rfl ?_
                                refine mk_iload (nx := 389) X 2 d_Mo_breaks_387 rfl rfl ?_
                                refine mk_iload (nx := 391) X 1 d_Mo_breaks_389 rfl rfl ?_
                                refine mk_icmp_eq (tgt := 411) (nx := 394) X d_Mo_breaks_391 (by omega) (by omega) (by decide) rfl (fun c391 => ?_) (fun c391 => ?_)
                                · skip
                                  refine mk_iconst (nx := 412) X d_Mo_breaks_411 rfl ?_
                                  exact hret _ _ _ _ d_Mo_breaks_412 (by omega) (by first | exact ⟨rfl, Or.inl ⟨rfl, hona, honb, by rw [← hbt]; exact (brQ_p hp hr3).mpr (by omega)⟩⟩ | exact ⟨rfl, Or.inr ⟨rfl, fun hd => by have h3 := hd.2.2; rw [← hbt] at h3; have h4 := (brQ_p hp hr3).mp h3; omega⟩⟩)
                                · skip
                                  refine mk_iload (nx := 396) X 0 d_Mo_breaks_394 rfl rfl ?_
                                  refine mk_iconst (nx := 397) X d_Mo_breaks_396 rfl ?_
                                  refine mk_icmp_gt (tgt := 407) (nx := 400) X d_Mo_breaks_397 (by omega) (by omega) (by decide) rfl (fun c397 => ?_) (fun c397 => ?_)
                                  · skip
                                    refine mk_iconst (nx := 408) X d_Mo_breaks_407 rfl ?_
                                    refine mk_goto (tgt := 412) X d_Mo_breaks_408 (by decide) ?_
                                    exact hret _ _ _ _ d_Mo_breaks_412 (by omega) (by first | exact ⟨rfl, Or.inl ⟨rfl, hona, honb, by rw [← hbt]; exact (brQ_p hp hr3).mpr (by omega)⟩⟩ | exact ⟨rfl, Or.inr ⟨rfl, fun hd => by have h3 := hd.2.2; rw [← hbt] at h3; have h4 := (brQ_p hp hr3).mp h3; omega⟩⟩)
                                  · skip
                                    refine mk_iload (nx := 402) X 0 d_Mo_breaks_400 rfl rfl ?_
                                    refine mk_bipush (nx := 404) X d_Mo_breaks_402 (by decide) rfl ?_
                                    refine mk_icmp_ge (tgt := 411) (nx := 407) X d_Mo_breaks_404 (by omega) (by omega) (by decide) rfl (fun c404 => ?_) (fun c404 => ?_)
                                    · skip
                                      refine mk_iconst (nx := 412) X d_Mo_breaks_411 rfl ?_
                                      exact hret _ _ _ _ d_Mo_breaks_412 (by omega) (by first | exact ⟨rfl, Or.inl ⟨rfl, hona, honb, by rw [← hbt]; exact (brQ_p hp hr3).mpr (by omega)⟩⟩ | exact ⟨rfl, Or.inr ⟨rfl, fun hd => by have h3 := hd.2.2; rw [← hbt] at h3; have h4 := (brQ_p hp hr3).mp h3; omega⟩⟩)
                                    · skip
                                      refine mk_iconst (nx := 408) X d_Mo_breaks_407 rfl ?_
                                      refine mk_goto (tgt := 412) X d_Mo_breaks_408 (by decide) ?_
                                      exact hret _ _ _ _ d_Mo_breaks_412 (by omega) (by first | exact ⟨rfl, Or.inl ⟨rfl, hona, honb, by rw [← hbt]; exact (brQ_p hp hr3).mpr (by omega)⟩⟩ | exact ⟨rfl, Or.inr ⟨rfl, fun hd => by have h3 := hd.2.2; rw [← hbt] at h3; have h4 := (brQ_p hp hr3).mp h3; omega⟩⟩)
                            · skip
                              refine mk_iload (nx := 354) X 1 d_Mo_breaks_352 rfl rfl ?_
                              refine mk_iload (nx := 356) X 0 d_Mo_breaks_354 rfl rfl ?_
                              refine mk_icmp_ne (tgt := 363) (nx := 359) X d_Mo_breaks_356 (by omega) (by omega) (by decide) rfl (fun c356 => ?_) (fun c356 => ?_)
                              · skip
                                refine mk_iconst (nx := 364) X d_Mo_breaks_363 rfl ?_
                                exact hret _ _ _ _ d_Mo_breaks_364 (by omega) (by first | exact ⟨rfl, Or.inl ⟨rfl, hona, honb, by rw [← hbt]; exact (brQ_p hp hr3).mpr (by omega)⟩⟩ | exact ⟨rfl, Or.inr ⟨rfl, fun hd => by have h3 := hd.2.2; rw [← hbt] at h3; have h4 := (brQ_p hp hr3).mp h3; omega⟩⟩)
                              · skip
                                refine mk_iconst (nx := 360) X d_Mo_breaks_359 rfl ?_
                                refine mk_goto (tgt := 364) X d_Mo_breaks_360 (by decide) ?_
                                exact hret _ _ _ _ d_Mo_breaks_364 (by omega) (by first | exact ⟨rfl, Or.inl ⟨rfl, hona, honb, by rw [← hbt]; exact (brQ_p hp hr3).mpr (by omega)⟩⟩ | exact ⟨rfl, Or.inr ⟨rfl, fun hd => by have h3 := hd.2.2; rw [← hbt] at h3; have h4 := (brQ_p hp hr3).mp h3; omega⟩⟩)
                          · skip
                            refine mk_iconst (nx := 345) X d_Mo_breaks_344 rfl ?_
                            exact hret _ _ _ _ d_Mo_breaks_345 (by omega) (by exact ⟨rfl, Or.inr ⟨rfl, fun hd => by have h3 := hd.2.2; rw [← hbt] at h3; have h4 := (brQ_p hp hr3).mp h3; omega⟩⟩)
                      · skip
                        refine mk_iconst (nx := 313) X d_Mo_breaks_312 rfl ?_
                        exact hret _ _ _ _ d_Mo_breaks_313 (by omega) (by exact ⟨rfl, Or.inr ⟨rfl, fun hd => by have h3 := hd.2.2; rw [← hbt] at h3; have h4 := (brQ_p hp hr3).mp h3; omega⟩⟩)
          · skip
            have q230 : ¬ (c (3 + b) 0 = 1 ∧ ¬ cpt c b (u : Int) = 1000) := by omega
            clear hr230 c233 r230
            refine mk_iconst (nx := 237) X d_Mo_breaks_236 rfl ?_
            exact hret _ _ _ _ d_Mo_breaks_237 (by omega) (by exact ⟨rfl, Or.inr ⟨rfl, fun hd => by have h3 := hd.2.2; rw [← hbt] at h3; have h4 := (brQ_p hp hr3).mp h3; omega⟩⟩)
  have L124 : ∀ (x7 : Int) (x8 : Int), (c (3 + a) 0 = 1) → (c (3 + b) 0 = 1) → (¬ cpt c a t = 1000 ∧ ¬ cpt c b t = 1000 ∧ ¬ cpt c a t = 1001 ∧ ¬ cpt c b t = 1001) → (x7 = min (csk c a t) (csk c b t)) → (x8 = max (csk c a t) (csk c b t)) → mk_A p_ l e_ rm_Mo_breaks s_ m_ as_ bl_ me_ co_ Q_ 15 D cmcl (mo_sh cs ad) 16 16 ad I [(0, .ref (ad 0)), (1, .int (zi rule)), (2, .int (zi (a : Int))), (3, .int (zi (b : Int))), (4, .int (zi (t : Int))), (5, .int (zi (cpt c a (t : Int)))), (6, .int (zi (cpt c b (t : Int)))), (7, .int (zi x7)), (8, .int (zi x8))] 124 [] := by
    intro x7 x8 hona honb hp h7 h8
    refine mk_iloadn (nx := 125) X 1 d_Mo_breaks_124 rfl rfl ?_
    refine mk_iconst (nx := 126) X d_Mo_breaks_125 rfl ?_
    refine mk_icmp_ne (tgt := 151) (nx := 129) X d_Mo_breaks_126 (by omega) (by omega) (by decide) rfl (fun c126 => ?_) (fun c126 => ?_)
    · skip
      refine mk_iloadn (nx := 152) X 1 d_Mo_breaks_151 rfl rfl ?_
      refine mk_bipush (nx := 154) X d_Mo_breaks_152 (by decide) rfl ?_
      refine mk_icmp_ne (tgt := 175) (nx := 157) X d_Mo_breaks_154 (by omega) (by omega) (by decide) rfl (fun c154 => ?_) (fun c154 => ?_)
      · skip
        refine mk_iload (nx := 177) X 4 d_Mo_breaks_175 rfl rfl ?_
        refine mk_if_le (tgt := 187) (nx := 180) X d_Mo_breaks_177 (by omega) (by decide) rfl (fun c177 => ?_) (fun c177 => ?_)
        · skip
          refine mk_aloadn (nx := 188) X 0 d_Mo_breaks_187 rfl rfl ?_
          refine mk_get (nx := 191) (v := .int (zi (I 0 12))) X 0 (by decide) (mh_Mo cs ad _) rfl in_Mo 12 (by decide) wd_607 rfl rfl d_Mo_breaks_188 rfl ?_
          rw [show I 0 12 = c 0 6 from i07]
          refine mk_if_le (tgt := 203) (nx := 194) X d_Mo_breaks_191 (by omega) (by decide) rfl (fun c191 => ?_) (fun c191 => ?_)
          · skip
            refine mk_iconst (nx := 204) X d_Mo_breaks_203 rfl ?_
            refine mk_istore (nx := 206) X [(9, .int (zi (-1))), (0, .ref (ad 0)), (1, .int (zi rule)), (2, .int (zi (a : Int))), (3, .int (zi (b : Int))), (4, .int (zi (t : Int))), (5, .int (zi (cpt c a (t : Int)))), (6, .int (zi (cpt c b (t : Int)))), (7, .int (zi x7)), (8, .int (zi x8))] d_Mo_breaks_204 (by decide) rfl rfl ?_
            refine mk_lv [1, 2, 3, 4, 5, 6, 7, 8, 9, 0] rfl ?_
            exact L206 x7 x8 (-1) (by omega) (by omega) (by omega) (by omega) (by omega) (by first | rw [btm, if_pos (by omega)] | (rw [btm, if_neg (by omega), if_pos (by omega)]) | (rw [btm, if_neg (by omega), if_neg (by omega)])) (by omega)
          · skip
            refine mk_aloadn (nx := 195) X 0 d_Mo_breaks_194 rfl rfl ?_
            refine mk_get (nx := 198) (v := .int (zi (I 0 12))) X 0 (by decide) (mh_Mo cs ad _) rfl in_Mo 12 (by decide) wd_607 rfl rfl d_Mo_breaks_195 rfl ?_
            rw [show I 0 12 = c 0 6 from i07]
            refine mk_iconst (nx := 199) X d_Mo_breaks_198 rfl ?_
            refine mk_isub (nx := 200) X d_Mo_breaks_199 rfl ?_
            refine mk_goto (tgt := 204) X d_Mo_breaks_200 (by decide) ?_
            refine mk_istore (nx := 206) X [(9, .int (zi ((c 0 6) - 1))), (0, .ref (ad 0)), (1, .int (zi rule)), (2, .int (zi (a : Int))), (3, .int (zi (b : Int))), (4, .int (zi (t : Int))), (5, .int (zi (cpt c a (t : Int)))), (6, .int (zi (cpt c b (t : Int)))), (7, .int (zi x7)), (8, .int (zi x8))] d_Mo_breaks_204 (by decide) rfl rfl ?_
            refine mk_lv [1, 2, 3, 4, 5, 6, 7, 8, 9, 0] rfl ?_
            exact L206 x7 x8 ((c 0 6) - 1) (by omega) (by omega) (by omega) (by omega) (by omega) (by first | rw [btm, if_pos (by omega)] | (rw [btm, if_neg (by omega), if_pos (by omega)]) | (rw [btm, if_neg (by omega), if_neg (by omega)])) (by omega)
        · skip
          refine mk_iload (nx := 182) X 4 d_Mo_breaks_180 rfl rfl ?_
          refine mk_iconst (nx := 183) X d_Mo_breaks_182 rfl ?_
          refine mk_isub (nx := 184) X d_Mo_breaks_183 rfl ?_
          refine mk_goto (tgt := 204) X d_Mo_breaks_184 (by decide) ?_
          refine mk_istore (nx := 206) X [(9, .int (zi ((t : Int) - 1))), (0, .ref (ad 0)), (1, .int (zi rule)), (2, .int (zi (a : Int))), (3, .int (zi (b : Int))), (4, .int (zi (t : Int))), (5, .int (zi (cpt c a (t : Int)))), (6, .int (zi (cpt c b (t : Int)))), (7, .int (zi x7)), (8, .int (zi x8))] d_Mo_breaks_204 (by decide) rfl rfl ?_
          refine mk_lv [1, 2, 3, 4, 5, 6, 7, 8, 9, 0] rfl ?_
          exact L206 x7 x8 ((t : Int) - 1) (by omega) (by omega) (by omega) (by omega) (by omega) (by first | rw [btm, if_pos (by omega)] | (rw [btm, if_neg (by omega), if_pos (by omega)]) | (rw [btm, if_neg (by omega), if_neg (by omega)])) (by omega)
      · skip
        refine mk_iload (nx := 159) X 8 d_Mo_breaks_157 rfl rfl ?_
        refine mk_if_eq (tgt := 173) (nx := 162) X d_Mo_breaks_159 (by omega) (by decide) rfl (fun c159 => ?_) (fun c159 => ?_)
        · skip
          refine mk_iconst (nx := 174) X d_Mo_breaks_173 rfl ?_
          exact hret _ _ _ _ d_Mo_breaks_174 (by omega) (by (obtain rfl : rule = 64 := by omega); first | exact ⟨rfl, Or.inl ⟨rfl, hona, honb, (brQ_64 hp).mpr (by omega)⟩⟩ | exact ⟨rfl, Or.inr ⟨rfl, fun hd => by have h3 := (brQ_64 hp).mp hd.2.2; omega⟩⟩)
        · skip
          refine mk_iload (nx := 164) X 5 d_Mo_breaks_162 rfl rfl ?_
          refine mk_iload (nx := 166) X 6 d_Mo_breaks_164 rfl rfl ?_
          refine mk_icmp_ge (tgt := 173) (nx := 169) X d_Mo_breaks_166 (by omega) (by omega) (by decide) rfl (fun c166 => ?_) (fun c166 => ?_)
          · skip
            refine mk_iconst (nx := 174) X d_Mo_breaks_173 rfl ?_
            exact hret _ _ _ _ d_Mo_breaks_174 (by omega) (by (obtain rfl : rule = 64 := by omega); first | exact ⟨rfl, Or.inl ⟨rfl, hona, honb, (brQ_64 hp).mpr (by omega)⟩⟩ | exact ⟨rfl, Or.inr ⟨rfl, fun hd => by have h3 := (brQ_64 hp).mp hd.2.2; omega⟩⟩)
          · skip
            refine mk_iconst (nx := 170) X d_Mo_breaks_169 rfl ?_
            refine mk_goto (tgt := 174) X d_Mo_breaks_170 (by decide) ?_
            exact hret _ _ _ _ d_Mo_breaks_174 (by omega) (by (obtain rfl : rule = 64 := by omega); first | exact ⟨rfl, Or.inl ⟨rfl, hona, honb, (brQ_64 hp).mpr (by omega)⟩⟩ | exact ⟨rfl, Or.inr ⟨rfl, fun hd => by have h3 := (brQ_64 hp).mp hd.2.2; omega⟩⟩)
    · skip
      refine mk_iload (nx := 131) X 8 d_Mo_breaks_129 rfl rfl ?_
      refine mk_if_eq (tgt := 149) (nx := 134) X d_Mo_breaks_131 (by omega) (by decide) rfl (fun c131 => ?_) (fun c131 => ?_)
      · skip
        refine mk_iconst (nx := 150) X d_Mo_breaks_149 rfl ?_
        exact hret _ _ _ _ d_Mo_breaks_150 (by omega) (by (obtain rfl : rule = 4 := by omega); first | exact ⟨rfl, Or.inl ⟨rfl, hona, honb, (brQ_4 hp).mpr (by omega)⟩⟩ | exact ⟨rfl, Or.inr ⟨rfl, fun hd => by have h3 := (brQ_4 hp).mp hd.2.2; omega⟩⟩)
      · skip
        refine mk_aloadn (nx := 135) X 0 d_Mo_breaks_134 rfl rfl ?_
        refine mk_iloadn (nx := 136) X 2 d_Mo_breaks_135 rfl rfl ?_
        refine mk_iloadn (nx := 137) X 3 d_Mo_breaks_136 rfl rfl ?_
        refine mk_iload (nx := 139) X 4 d_Mo_breaks_137 rfl rfl ?_
        refine mk_callVi (nx := 142) (n := 3) (As := [.int (zi (a : Int)), .int (zi (b : Int)), .int (zi (t : Int))]) (rest := []) X 0 (by decide) (mh_Mo cs ad _) rfl (c_Mo_isDissonant l D cs ad hi c I h hL a b ha hb t ht hona honb) (g_Mo_isDissonant wd_792) rfl ⟨rfl, rfl⟩ (by decide +kernel) ⟨by decide, by decide⟩ rfl (Nat.le_of_ble_eq_true rfl) rfl d_Mo_breaks_139 rfl ?_
        intro r139 J9 hJ9
        obtain ⟨rfl, hr139⟩ := hJ9
        have hdd : (r139 = 1 ∨ r139 = 0) ∧ r139 = disI c a b (t : Int) := hr139.elim (fun e => ⟨Or.inl e.1, by rw [e.1, disI_y e.2]⟩) (fun e => ⟨Or.inr e.1, by rw [e.1, disI_n e.2]⟩)
        refine mk_if_eq (tgt := 149) (nx := 145) X d_Mo_breaks_142 (by omega) (by decide) rfl (fun c142 => ?_) (fun c142 => ?_)
        · skip
          refine mk_iconst (nx := 150) X d_Mo_breaks_149 rfl ?_
          exact hret _ _ _ _ d_Mo_breaks_150 (by omega) (by (obtain rfl : rule = 4 := by omega); first | exact ⟨rfl, Or.inl ⟨rfl, hona, honb, (brQ_4 hp).mpr (by omega)⟩⟩ | exact ⟨rfl, Or.inr ⟨rfl, fun hd => by have h3 := (brQ_4 hp).mp hd.2.2; omega⟩⟩)
        · skip
          refine mk_iconst (nx := 146) X d_Mo_breaks_145 rfl ?_
          refine mk_goto (tgt := 150) X d_Mo_breaks_146 (by decide) ?_
          exact hret _ _ _ _ d_Mo_breaks_150 (by omega) (by (obtain rfl : rule = 4 := by omega); first | exact ⟨rfl, Or.inl ⟨rfl, hona, honb, (brQ_4 hp).mpr (by omega)⟩⟩ | exact ⟨rfl, Or.inr ⟨rfl, fun hd => by have h3 := (brQ_4 hp).mp hd.2.2; omega⟩⟩)
  have L97 : ∀ (x7 : Int), (c (3 + a) 0 = 1) → (c (3 + b) 0 = 1) → (¬ cpt c a t = 1000 ∧ ¬ cpt c b t = 1000 ∧ ¬ cpt c a t = 1001 ∧ ¬ cpt c b t = 1001) → (x7 = min (csk c a t) (csk c b t)) → mk_A p_ l e_ rm_Mo_breaks s_ m_ as_ bl_ me_ co_ Q_ 15 D cmcl (mo_sh cs ad) 16 16 ad I [(0, .ref (ad 0)), (1, .int (zi rule)), (2, .int (zi (a : Int))), (3, .int (zi (b : Int))), (4, .int (zi (t : Int))), (5, .int (zi (cpt c a (t : Int)))), (6, .int (zi (cpt c b (t : Int)))), (7, .int (zi x7))] 97 [] := by
    intro x7 hona honb hp h7
    refine mk_aloadn (nx := 98) X 0 d_Mo_breaks_97 rfl rfl ?_
    refine mk_iloadn (nx := 99) X 2 d_Mo_breaks_98 rfl rfl ?_
    refine mk_iload (nx := 101) X 4 d_Mo_breaks_99 rfl rfl ?_
    refine mk_callVi (nx := 104) (n := 2) (As := [.int (zi (a : Int)), .int (zi (t : Int))]) (rest := []) X 0 (by decide) (mh_Mo cs ad _) rfl (c_Mo_isStruck l D cs ad hi c I h hL a (by omega) t ht) (g_Mo_isStruck wd_776) rfl ⟨rfl, rfl⟩ (by decide +kernel) ⟨by decide, by decide⟩ rfl (Nat.le_of_ble_eq_true rfl) rfl d_Mo_breaks_101 rfl ?_
    intro r101 J10 hJ10
    obtain ⟨rfl, hr101⟩ := hJ10
    refine mk_if_ne (tgt := 117) (nx := 107) X d_Mo_breaks_104 (by omega) (by decide) rfl (fun c104 => ?_) (fun c104 => ?_)
    · skip
      have q101 : csk c a (t : Int) = 1 := by omega
      clear hr101 c104 r101
      refine mk_iconst (nx := 118) X d_Mo_breaks_117 rfl ?_
      refine mk_goto (tgt := 122) X d_Mo_breaks_118 (by decide) ?_
      refine mk_istore (nx := 124) X [(8, .int (zi 1)), (0, .ref (ad 0)), (1, .int (zi rule)), (2, .int (zi (a : Int))), (3, .int (zi (b : Int))), (4, .int (zi (t : Int))), (5, .int (zi (cpt c a (t : Int)))), (6, .int (zi (cpt c b (t : Int)))), (7, .int (zi x7))] d_Mo_breaks_122 (by decide) rfl rfl ?_
      refine mk_lv [1, 2, 3, 4, 5, 6, 7, 8, 0] rfl ?_
      exact L124 x7 1 (by omega) (by omega) (by omega) (by omega) (by omega)
    · skip
      have q101 : csk c a (t : Int) = 0 := by omega
      clear hr101 c104 r101
      refine mk_aloadn (nx := 108) X 0 d_Mo_breaks_107 rfl rfl ?_
      refine mk_iloadn (nx := 109) X 3 d_Mo_breaks_108 rfl rfl ?_
      refine mk_iload (nx := 111) X 4 d_Mo_breaks_109 rfl rfl ?_
      refine mk_callVi (nx := 114) (n := 2) (As := [.int (zi (b : Int)), .int (zi (t : Int))]) (rest := []) X 0 (by decide) (mh_Mo cs ad _) rfl (c_Mo_isStruck l D cs ad hi c I h hL b (by omega) t ht) (g_Mo_isStruck wd_776) rfl ⟨rfl, rfl⟩ (by decide +kernel) ⟨by decide, by decide⟩ rfl (Nat.le_of_ble_eq_true rfl) rfl d_Mo_breaks_111 rfl ?_
      intro r111 J11 hJ11
      obtain ⟨rfl, hr111⟩ := hJ11
      refine mk_if_eq (tgt := 121) (nx := 117) X d_Mo_breaks_114 (by omega) (by decide) rfl (fun c114 => ?_) (fun c114 => ?_)
      · skip
        have q111 : csk c b (t : Int) = 0 := by omega
        clear hr111 c114 r111
        refine mk_iconst (nx := 122) X d_Mo_breaks_121 rfl ?_
        refine mk_istore (nx := 124) X [(8, .int (zi 0)), (0, .ref (ad 0)), (1, .int (zi rule)), (2, .int (zi (a : Int))), (3, .int (zi (b : Int))), (4, .int (zi (t : Int))), (5, .int (zi (cpt c a (t : Int)))), (6, .int (zi (cpt c b (t : Int)))), (7, .int (zi x7))] d_Mo_breaks_122 (by decide) rfl rfl ?_
        refine mk_lv [1, 2, 3, 4, 5, 6, 7, 8, 0] rfl ?_
        exact L124 x7 0 (by omega) (by omega) (by omega) (by omega) (by omega)
      · skip
        have q111 : csk c b (t : Int) = 1 := by omega
        clear hr111 c114 r111
        refine mk_iconst (nx := 118) X d_Mo_breaks_117 rfl ?_
        refine mk_goto (tgt := 122) X d_Mo_breaks_118 (by decide) ?_
        refine mk_istore (nx := 124) X [(8, .int (zi 1)), (0, .ref (ad 0)), (1, .int (zi rule)), (2, .int (zi (a : Int))), (3, .int (zi (b : Int))), (4, .int (zi (t : Int))), (5, .int (zi (cpt c a (t : Int)))), (6, .int (zi (cpt c b (t : Int)))), (7, .int (zi x7))] d_Mo_breaks_122 (by decide) rfl rfl ?_
        refine mk_lv [1, 2, 3, 4, 5, 6, 7, 8, 0] rfl ?_
        exact L124 x7 1 (by omega) (by omega) (by omega) (by omega) (by omega)
  refine mk_aloadn (nx := 1) X 0 d_Mo_breaks_0 rfl rfl ?_
  refine mk_iloadn (nx := 2) X 2 d_Mo_breaks_1 rfl rfl ?_
  refine mk_iload (nx := 4) X 4 d_Mo_breaks_2 rfl rfl ?_
  refine mk_callVi (nx := 7) (n := 2) (As := [.int (zi (a : Int)), .int (zi (t : Int))]) (rest := []) X 0 (by decide) (mh_Mo cs ad _) rfl (c_Mo_sounds l D cs ad hi c I h hL a (by omega) t ht) (g_Mo_sounds wd_788) rfl ⟨rfl, rfl⟩ (by decide +kernel) ⟨by decide, by decide⟩ rfl (Nat.le_of_ble_eq_true rfl) rfl d_Mo_breaks_4 rfl ?_
  intro r4 J12 hJ12
  obtain ⟨rfl, hr4⟩ := hJ12
  refine mk_if_eq (tgt := 20) (nx := 10) X d_Mo_breaks_7 (by omega) (by decide) rfl (fun c7 => ?_) (fun c7 => ?_)
  · skip
    have q4 : ¬ (c (3 + a) 0 = 1 ∧ ¬ cpt c a (t : Int) = 1000) := by omega
    clear hr4 c7 r4
    refine mk_iconst (nx := 21) X d_Mo_breaks_20 rfl ?_
    exact hret _ _ _ _ d_Mo_breaks_21 (by omega) (by exact ⟨rfl, Or.inr ⟨rfl, fun hd => by have h1 := hd.1; have h2 := hd.2.1; have h3 := hd.2.2.1; have h4 := hd.2.2.2.1; omega⟩⟩)
  · skip
    have q4 : c (3 + a) 0 = 1 ∧ ¬ cpt c a (t : Int) = 1000 := by omega
    clear hr4 c7 r4
    refine mk_aloadn (nx := 11) X 0 d_Mo_breaks_10 rfl rfl ?_
    refine mk_iloadn (nx := 12) X 3 d_Mo_breaks_11 rfl rfl ?_
    refine mk_iload (nx := 14) X 4 d_Mo_breaks_12 rfl rfl ?_
    refine mk_callVi (nx := 17) (n := 2) (As := [.int (zi (b : Int)), .int (zi (t : Int))]) (rest := []) X 0 (by decide) (mh_Mo cs ad _) rfl (c_Mo_sounds l D cs ad hi c I h hL b (by omega) t ht) (g_Mo_sounds wd_788) rfl ⟨rfl, rfl⟩ (by decide +kernel) ⟨by decide, by decide⟩ rfl (Nat.le_of_ble_eq_true rfl) rfl d_Mo_breaks_14 rfl ?_
    intro r14 J13 hJ13
    obtain ⟨rfl, hr14⟩ := hJ13
    refine mk_if_ne (tgt := 22) (nx := 20) X d_Mo_breaks_17 (by omega) (by decide) rfl (fun c17 => ?_) (fun c17 => ?_)
    · skip
      have q14 : c (3 + b) 0 = 1 ∧ ¬ cpt c b (t : Int) = 1000 := by omega
      clear hr14 c17 r14
      have hona : c (3 + a) 0 = 1 := by omega
      have honb : c (3 + b) 0 = 1 := by omega
      refine mk_aloadn (nx := 23) X 0 d_Mo_breaks_22 rfl rfl ?_
      refine mk_get (nx := 26) (v := .ref (ad 8)) X 0 (by decide) (mh_Mo cs ad _) rfl in_Mo 15 (by decide) wd_610 rfl rfl d_Mo_breaks_23 rfl ?_
      refine mk_sipush (nx := 29) X d_Mo_breaks_26 (by decide) rfl ?_
      refine mk_iloadn (nx := 30) X 2 d_Mo_breaks_29 rfl rfl ?_
      refine mk_imul (nx := 31) X d_Mo_breaks_30 rfl ?_
      refine mk_iload (nx := 33) X 4 d_Mo_breaks_31 rfl rfl ?_
      refine mk_iadd (nx := 34) X d_Mo_breaks_33 rfl ?_
      refine mk_iald (nx := 35) (j := ((1300 * a) + t)) X 8 0 (by decide) (mh_pitchAt cs ad _) rfl (by omega) (by omega) (by decide) (by omega) d_Mo_breaks_34 rfl ?_
      rw [show I 8 ((1300 * a) + t) = cpt c a (t : Int) from ((hL.2 a ha hona).2 t ht).2.1]
      refine mk_istore (nx := 37) X [(5, .int (zi (cpt c a (t : Int)))), (0, .ref (ad 0)), (1, .int (zi rule)), (2, .int (zi (a : Int))), (3, .int (zi (b : Int))), (4, .int (zi (t : Int)))] d_Mo_breaks_35 (by decide) rfl rfl ?_
      refine mk_aloadn (nx := 38) X 1 d_Mo_breaks_37 rfl rfl ?_
      refine mk_get (nx := 41) (v := .ref (ad 8)) X 0 (by decide) (mh_Mo cs ad _) rfl in_Mo 15 (by decide) wd_610 rfl rfl d_Mo_breaks_38 rfl ?_
      refine mk_sipush (nx := 44) X d_Mo_breaks_41 (by decide) rfl ?_
      refine mk_iloadn (nx := 45) X 4 d_Mo_breaks_44 rfl rfl ?_
      refine mk_imul (nx := 46) X d_Mo_breaks_45 rfl ?_
      refine mk_iload (nx := 48) X 5 d_Mo_breaks_46 rfl rfl ?_
      refine mk_iadd (nx := 49) X d_Mo_breaks_48 rfl ?_
      refine mk_iald (nx := 50) (j := ((1300 * b) + t)) X 8 0 (by decide) (mh_pitchAt cs ad _) rfl (by omega) (by omega) (by decide) (by omega) d_Mo_breaks_49 rfl ?_
      rw [show I 8 ((1300 * b) + t) = cpt c b (t : Int) from ((hL.2 b hb honb).2 t ht).2.1]
      refine mk_istore (nx := 52) X [(6, .int (zi (cpt c b (t : Int)))), (5, .int (zi (cpt c a (t : Int)))), (0, .ref (ad 0)), (1, .int (zi rule)), (2, .int (zi (a : Int))), (3, .int (zi (b : Int))), (4, .int (zi (t : Int)))] d_Mo_breaks_50 (by decide) rfl rfl ?_
      refine mk_iload (nx := 54) X 1 d_Mo_breaks_52 rfl rfl ?_
      refine mk_sipush (nx := 57) X d_Mo_breaks_54 (by decide) rfl ?_
      refine mk_icmp_eq (tgt := 68) (nx := 60) X d_Mo_breaks_57 (by omega) (by omega) (by decide) rfl (fun c57 => ?_) (fun c57 => ?_)
      · skip
        refine mk_iconst (nx := 69) X d_Mo_breaks_68 rfl ?_
        exact hret _ _ _ _ d_Mo_breaks_69 (by omega) (by exact ⟨rfl, Or.inr ⟨rfl, fun hd => by have h3 := hd.2.2.2.2.1; have h4 := hd.2.2.2.2.2.1; omega⟩⟩)
      · skip
        refine mk_iload (nx := 62) X 0 d_Mo_breaks_60 rfl rfl ?_
        refine mk_sipush (nx := 65) X d_Mo_breaks_62 (by decide) rfl ?_
        refine mk_icmp_ne (tgt := 70) (nx := 68) X d_Mo_breaks_65 (by omega) (by omega) (by decide) rfl (fun c65 => ?_) (fun c65 => ?_)
        · skip
          refine mk_aloadn (nx := 71) X 2 d_Mo_breaks_70 rfl rfl ?_
          refine mk_iloadn (nx := 72) X 4 d_Mo_breaks_71 rfl rfl ?_
          refine mk_iload (nx := 74) X 6 d_Mo_breaks_72 rfl rfl ?_
          refine mk_callVi (nx := 77) (n := 2) (As := [.int (zi (a : Int)), .int (zi (t : Int))]) (rest := []) X 0 (by decide) (mh_Mo cs ad _) rfl (c_Mo_isStruck l D cs ad hi c I h hL a (by omega) t ht) (g_Mo_isStruck wd_776) rfl ⟨rfl, rfl⟩ (by decide +kernel) ⟨by decide, by decide⟩ rfl (Nat.le_of_ble_eq_true rfl) rfl d_Mo_breaks_74 rfl ?_
          intro r74 J14 hJ14
          obtain ⟨rfl, hr74⟩ := hJ14
          refine mk_if_eq (tgt := 94) (nx := 80) X d_Mo_breaks_77 (by omega) (by decide) rfl (fun c77 => ?_) (fun c77 => ?_)
          · skip
            have q74 : csk c a (t : Int) = 0 := by omega
            clear hr74 c77 r74
            refine mk_iconst (nx := 95) X d_Mo_breaks_94 rfl ?_
            refine mk_istore (nx := 97) X [(7, .int (zi 0)), (6, .int (zi (cpt c b (t : Int)))), (5, .int (zi (cpt c a (t : Int)))), (0, .ref (ad 0)), (1, .int (zi rule)), (2, .int (zi (a : Int))), (3, .int (zi (b : Int))), (4, .int (zi (t : Int)))] d_Mo_breaks_95 (by decide) rfl rfl ?_
            refine mk_lv [3, 4, 5, 6, 7, 2, 1, 0] rfl ?_
            exact L97 0 (by omega) (by omega) (by omega) (by omega)
          · skip
            have q74 : csk c a (t : Int) = 1 := by omega
            clear hr74 c77 r74
            refine mk_aloadn (nx := 81) X 2 d_Mo_breaks_80 rfl rfl ?_
            refine mk_iloadn (nx := 82) X 5 d_Mo_breaks_81 rfl rfl ?_
            refine mk_iload (nx := 84) X 6 d_Mo_breaks_82 rfl rfl ?_
            refine mk_callVi (nx := 87) (n := 2) (As := [.int (zi (b : Int)), .int (zi (t : Int))]) (rest := []) X 0 (by decide) (mh_Mo cs ad _) rfl (c_Mo_isStruck l D cs ad hi c I h hL b (by omega) t ht) (g_Mo_isStruck wd_776) rfl ⟨rfl, rfl⟩ (by decide +kernel) ⟨by decide, by decide⟩ rfl (Nat.le_of_ble_eq_true rfl) rfl d_Mo_breaks_84 rfl ?_
            intro r84 J15 hJ15
            obtain ⟨rfl, hr84⟩ := hJ15
            refine mk_if_eq (tgt := 94) (nx := 90) X d_Mo_breaks_87 (by omega) (by decide) rfl (fun c87 => ?_) (fun c87 => ?_)
            · skip
              have q84 : csk c b (t : Int) = 0 := by omega
              clear hr84 c87 r84
              refine mk_iconst (nx := 95) X d_Mo_breaks_94 rfl ?_
              refine mk_istore (nx := 97) X [(7, .int (zi 0)), (6, .int (zi (cpt c b (t : Int)))), (5, .int (zi (cpt c a (t : Int)))), (0, .ref (ad 0)), (1, .int (zi rule)), (2, .int (zi (a : Int))), (3, .int (zi (b : Int))), (4, .int (zi (t : Int)))] d_Mo_breaks_95 (by decide) rfl rfl ?_
              refine mk_lv [3, 4, 5, 6, 7, 2, 1, 0] rfl ?_
              exact L97 0 (by omega) (by omega) (by omega) (by omega)
            · skip
              have q84 : csk c b (t : Int) = 1 := by omega
              clear hr84 c87 r84
              refine mk_iconst (nx := 91) X d_Mo_breaks_90 rfl ?_
              refine mk_goto (tgt := 95) X d_Mo_breaks_91 (by decide) ?_
              refine mk_istore (nx := 97) X [(7, .int (zi 1)), (6, .int (zi (cpt c b (t : Int)))), (5, .int (zi (cpt c a (t : Int)))), (0, .ref (ad 0)), (1, .int (zi rule)), (2, .int (zi (a : Int))), (3, .int (zi (b : Int))), (4, .int (zi (t : Int)))] d_Mo_breaks_95 (by decide) rfl rfl ?_
              refine mk_lv [3, 4, 5, 6, 7, 2, 1, 0] rfl ?_
              exact L97 1 (by omega) (by omega) (by omega) (by omega)
        · skip
          refine mk_iconst (nx := 69) X d_Mo_breaks_68 rfl ?_
          exact hret _ _ _ _ d_Mo_breaks_69 (by omega) (by exact ⟨rfl, Or.inr ⟨rfl, fun hd => by have h3 := hd.2.2.2.2.1; have h4 := hd.2.2.2.2.2.1; omega⟩⟩)
    · skip
      have q14 : ¬ (c (3 + b) 0 = 1 ∧ ¬ cpt c b (t : Int) = 1000) := by omega
      clear hr14 c17 r14
      refine mk_iconst (nx := 21) X d_Mo_breaks_20 rfl ?_
      exact hret _ _ _ _ d_Mo_breaks_21 (by omega) (by exact ⟨rfl, Or.inr ⟨rfl, fun hd => by have h1 := hd.1; have h2 := hd.2.1; have h3 := hd.2.2.1; have h4 := hd.2.2.2.1; omega⟩⟩)
