section MLF
variable {c I J J1 : Wo} {v : Nat}
theorem ziand2 {x : Int} (h : 0 ≤ x ∧ x ≤ 3) : ziand x 2 = 0 ∨ ziand x 2 = 2 := by
  rcases (show x = 0 ∨ x = 1 ∨ x = 2 ∨ x = 3 by omega) with rfl | rfl | rfl | rfl <;> decide
theorem cbg_le (h : wfN c) (hV : wfV c) (hv : v < 4) {i j : Nat} (hij : i ≤ j) (hj : j ≤ cn c) : cbg c v i ≤ cbg c v j := by
  by_cases e : i = j
  · rw [e]; exact Int.le_refl _
  · exact Int.le_of_lt (cbg_lt h hV hv (by omega) hj)
theorem clp_b (h : wfN c) (hV : wfV c) (hv : v < 4) {j : Nat} (hj : j < cn c) : -200 ≤ clp c v j ∧ clp c v j ≤ 1001 := by
  have hcn := cn_e h
  have h1 := (h.2 (cnt c v j) (by have := cnt_lt (c := c) (v := v) hj; omega)).1
  have h2 := (hV.1 v hv).2.2.1
  have hz : -2 ≤ cz c ∧ cz c ≤ 127 := by
    rcases fsr_cases c with q | q
    · omega
    · have := (h.2 (fsr c).toNat (by omega)).1; omega
  by_cases a : c 1 (cnt c v j) = -1
  · rw [clp_r a]; omega
  · by_cases b : c 1 (cnt c v j) = -2 ∨ (¬ ziand (c (3 + v) 3) 1 = 0 ∧ cz c = -2)
    · rw [clp_o hj a b]; omega
    · by_cases d : ziand (c (3 + v) 3) 1 = 0
      · rw [clp_n a (by omega) d]; omega
      · rw [clp_i hj a (by omega) d (by omega)]; omega
theorem MlO_rf : MlO I I v := ⟨fun _ _ _ => rfl, fun _ _ _ _ _ => rfl, fun _ _ => rfl⟩
theorem MlO_w {q k : Nat} {x : Int} (h : MlO I J v) (hq : q = 8 ∨ q = 9 ∨ q = 10) (hk : k < 1300) (e : J1 = up2 J q (1300 * v + k) x) : MlO I J1 v := by
  subst e
  refine ⟨fun a b y => by rw [up2_n (by omega)]; exact h.1 a b y, fun a b y z u => ?_, fun b y => by rw [up2_n (by omega)]; exact h.2.2 b y⟩
  rw [up2_o J q _ x a b (by omega)]
  exact h.2.1 a b y z u
theorem MlO_l {k : Nat} {x : Int} (h : MlO I J v) (hk : k < 24) (e : J1 = up2 J 11 (24 * v + k) x) : MlO I J1 v := by
  subst e
  refine ⟨fun a b y => by rw [up2_n (by omega)]; exact h.1 a b y, fun a b y z u => by rw [up2_n (by omega)]; exact h.2.1 a b y z u, fun b y => ?_⟩
  rw [up2_s, up1_n (by omega)]
  exact h.2.2 b y
theorem moR_fr (hO : ∀ a b, (a < 8 ∨ 12 < a) → ¬ (a = 0 ∧ 18 < b ∧ b < 24) → J a b = I a b) (h : moR c I) : moR c J := by
  obtain ⟨hw, h1, h2, h3, h4⟩ := h
  refine ⟨hw, ⟨by rw [hO 0 2 (by omega) (by omega)]; exact h1.1, fun j hj => by rw [hO 1 j (by omega) (by omega), hO 2 j (by omega) (by omega)]; exact h1.2 j hj⟩, ?_, fun v hv => ?_, ⟨by rw [hO 0 27 (by omega) (by omega)]; exact h4.1, fun k hk => by rw [hO 13 k (by omega) (by omega), hO 14 k (by omega) (by omega)]; exact h4.2 k hk⟩⟩
  · unfold moS at h2 ⊢
    rw [hO 0 8 (by omega) (by omega), hO 0 9 (by omega) (by omega), hO 0 10 (by omega) (by omega), hO 0 11 (by omega) (by omega), hO 0 13 (by omega) (by omega), hO 0 12 (by omega) (by omega), hO 0 14 (by omega) (by omega)]
    exact h2
  · rw [hO 3 v (by omega) (by omega), hO 4 v (by omega) (by omega), hO 5 v (by omega) (by omega), hO 6 v (by omega) (by omega), hO 7 v (by omega) (by omega)]
    exact h3 v hv
theorem moR_ml (hO : MlO I J v) (h : moR c I) : moR c J := moR_fr (fun a b x _ => hO.1 a b (by omega)) h
theorem ml_0 (h : ∀ x : Nat, (x : Int) < an_end c → J 10 (1300 * v + x) = -1 ∧ J 8 (1300 * v + x) = 1000 ∧ J 9 (1300 * v + x) = 0) : MlV c J v (cbg c v 0) := by
  intro x hx
  rw [cbg_0]
  simp only [if_neg (show ¬ (0 ≤ csn c v x ∧ csn c v x < 0) by omega)]
  exact h x hx
theorem ml_c {k : Nat} {J2 J3 : Wo} (h : ∀ x : Nat, x < k → J 10 (1300 * v + x) = -1 ∧ J 8 (1300 * v + x) = 1000 ∧ J 9 (1300 * v + x) = 0) (e1 : J1 = up2 J 8 (1300 * v + k) 1000) (e2 : J2 = up2 J1 9 (1300 * v + k) 0) (e3 : J3 = up2 J2 10 (1300 * v + k) (-1)) : ∀ x : Nat, x < k + 1 → J3 10 (1300 * v + x) = -1 ∧ J3 8 (1300 * v + x) = 1000 ∧ J3 9 (1300 * v + x) = 0 := by
  subst e3; subst e2; subst e1
  refine lt_s (fun x hx => ?_) (by simp [up2, up1])
  have e : ¬ x = k := by omega
  have := h x hx
  simpa [up2, up1, e] using this
theorem ml_l {q : Nat} {o x : Int} (e : J1 = up2 J 11 q x) (h : MlV c J v o) : MlV c J1 v o := by
  subst e
  intro x hx
  rw [up2_n (by omega), up2_n (by omega), up2_n (by omega)]
  exact h x hx
theorem ml_L {j : Nat} (h : MlL c J v j) (e : J1 = up2 J 11 (24 * v + j) (clp c v j)) : MlL c J1 v (j + 1) := by
  subst e
  refine lt_s (fun q hq => ?_) (by rw [up2_s, up1_s])
  rw [up2_s, up1_n (by omega)]
  exact h q hq
theorem ml_Lw {j q k : Nat} {x : Int} (h : MlL c J v j) (hq : q ≠ 11) (e : J1 = up2 J q k x) : MlL c J1 v j := by
  subst e
  intro z hz
  rw [up2_n (Ne.symm hq)]
  exact h z hz
end MLF

-- CanonMakerModel.lay(I)V
theorem d_Mo_lay_0 : decode prog_9_method_16_code 0 = .ok (.aload_n 0, 1) := by decide +kernel
theorem d_Mo_lay_1 : decode prog_9_method_16_code 1 = .ok (.getfield 20, 3) := by decide +kernel
theorem d_Mo_lay_4 : decode prog_9_method_16_code 4 = .ok (.iload_n 1, 1) := by decide +kernel
theorem d_Mo_lay_5 : decode prog_9_method_16_code 5 = .ok (.iaload, 1) := by decide +kernel
theorem d_Mo_lay_6 : decode prog_9_method_16_code 6 = .ok (.istore_n 2, 1) := by decide +kernel
theorem d_Mo_lay_7 : decode prog_9_method_16_code 7 = .ok (.iconst 0, 1) := by decide +kernel
theorem d_Mo_lay_8 : decode prog_9_method_16_code 8 = .ok (.istore_n 3, 1) := by decide +kernel
theorem d_Mo_lay_9 : decode prog_9_method_16_code 9 = .ok (.iload_n 3, 1) := by decide +kernel
theorem d_Mo_lay_10 : decode prog_9_method_16_code 10 = .ok (.aload_n 0, 1) := by decide +kernel
theorem d_Mo_lay_11 : decode prog_9_method_16_code 11 = .ok (.getfield 82, 3) := by decide +kernel
theorem d_Mo_lay_14 : decode prog_9_method_16_code 14 = .ok (.if_icmp .ge 50, 3) := by decide +kernel
theorem d_Mo_lay_17 : decode prog_9_method_16_code 17 = .ok (.aload_n 0, 1) := by decide +kernel
theorem d_Mo_lay_18 : decode prog_9_method_16_code 18 = .ok (.getfield 42, 3) := by decide +kernel
theorem d_Mo_lay_21 : decode prog_9_method_16_code 21 = .ok (.sipush 1300, 3) := by decide +kernel
theorem d_Mo_lay_24 : decode prog_9_method_16_code 24 = .ok (.iload_n 1, 1) := by decide +kernel
theorem d_Mo_lay_25 : decode prog_9_method_16_code 25 = .ok (.imul, 1) := by decide +kernel
theorem d_Mo_lay_26 : decode prog_9_method_16_code 26 = .ok (.iload_n 3, 1) := by decide +kernel
theorem d_Mo_lay_27 : decode prog_9_method_16_code 27 = .ok (.iadd, 1) := by decide +kernel
theorem d_Mo_lay_28 : decode prog_9_method_16_code 28 = .ok (.sipush 1000, 3) := by decide +kernel
theorem d_Mo_lay_31 : decode prog_9_method_16_code 31 = .ok (.iastore, 1) := by decide +kernel
theorem d_Mo_lay_32 : decode prog_9_method_16_code 32 = .ok (.aload_n 0, 1) := by decide +kernel
theorem d_Mo_lay_33 : decode prog_9_method_16_code 33 = .ok (.getfield 45, 3) := by decide +kernel
theorem d_Mo_lay_36 : decode prog_9_method_16_code 36 = .ok (.sipush 1300, 3) := by decide +kernel
theorem d_Mo_lay_39 : decode prog_9_method_16_code 39 = .ok (.iload_n 1, 1) := by decide +kernel
theorem d_Mo_lay_40 : decode prog_9_method_16_code 40 = .ok (.imul, 1) := by decide +kernel
theorem d_Mo_lay_41 : decode prog_9_method_16_code 41 = .ok (.iload_n 3, 1) := by decide +kernel
theorem d_Mo_lay_42 : decode prog_9_method_16_code 42 = .ok (.iadd, 1) := by decide +kernel
theorem d_Mo_lay_43 : decode prog_9_method_16_code 43 = .ok (.iconst 0, 1) := by decide +kernel
theorem d_Mo_lay_44 : decode prog_9_method_16_code 44 = .ok (.bastore, 1) := by decide +kernel
theorem d_Mo_lay_45 : decode prog_9_method_16_code 45 = .ok (.aload_n 0, 1) := by decide +kernel
theorem d_Mo_lay_46 : decode prog_9_method_16_code 46 = .ok (.getfield 48, 3) := by decide +kernel
theorem d_Mo_lay_49 : decode prog_9_method_16_code 49 = .ok (.sipush 1300, 3) := by decide +kernel
theorem d_Mo_lay_52 : decode prog_9_method_16_code 52 = .ok (.iload_n 1, 1) := by decide +kernel
theorem d_Mo_lay_53 : decode prog_9_method_16_code 53 = .ok (.imul, 1) := by decide +kernel
theorem d_Mo_lay_54 : decode prog_9_method_16_code 54 = .ok (.iload_n 3, 1) := by decide +kernel
theorem d_Mo_lay_55 : decode prog_9_method_16_code 55 = .ok (.iadd, 1) := by decide +kernel
theorem d_Mo_lay_56 : decode prog_9_method_16_code 56 = .ok (.iconst (-1), 1) := by decide +kernel
theorem d_Mo_lay_57 : decode prog_9_method_16_code 57 = .ok (.iastore, 1) := by decide +kernel
theorem d_Mo_lay_58 : decode prog_9_method_16_code 58 = .ok (.iinc 3 1, 3) := by decide +kernel
theorem d_Mo_lay_61 : decode prog_9_method_16_code 61 = .ok (.goto (-52), 3) := by decide +kernel
theorem d_Mo_lay_64 : decode prog_9_method_16_code 64 = .ok (.iconst 0, 1) := by decide +kernel
theorem d_Mo_lay_65 : decode prog_9_method_16_code 65 = .ok (.istore_n 3, 1) := by decide +kernel
theorem d_Mo_lay_66 : decode prog_9_method_16_code 66 = .ok (.iload_n 3, 1) := by decide +kernel
theorem d_Mo_lay_67 : decode prog_9_method_16_code 67 = .ok (.aload_n 0, 1) := by decide +kernel
theorem d_Mo_lay_68 : decode prog_9_method_16_code 68 = .ok (.getfield 66, 3) := by decide +kernel
theorem d_Mo_lay_71 : decode prog_9_method_16_code 71 = .ok (.if_icmp .ge 174, 3) := by decide +kernel
theorem d_Mo_lay_74 : decode prog_9_method_16_code 74 = .ok (.aload_n 0, 1) := by decide +kernel
theorem d_Mo_lay_75 : decode prog_9_method_16_code 75 = .ok (.getfield 26, 3) := by decide +kernel
theorem d_Mo_lay_78 : decode prog_9_method_16_code 78 = .ok (.iload_n 1, 1) := by decide +kernel
theorem d_Mo_lay_79 : decode prog_9_method_16_code 79 = .ok (.iaload, 1) := by decide +kernel
theorem d_Mo_lay_80 : decode prog_9_method_16_code 80 = .ok (.iconst 2, 1) := by decide +kernel
theorem d_Mo_lay_81 : decode prog_9_method_16_code 81 = .ok (.iand, 1) := by decide +kernel
theorem d_Mo_lay_82 : decode prog_9_method_16_code 82 = .ok (.ifCond .le 14, 3) := by decide +kernel
theorem d_Mo_lay_85 : decode prog_9_method_16_code 85 = .ok (.aload_n 0, 1) := by decide +kernel
theorem d_Mo_lay_86 : decode prog_9_method_16_code 86 = .ok (.getfield 66, 3) := by decide +kernel
theorem d_Mo_lay_89 : decode prog_9_method_16_code 89 = .ok (.iconst 1, 1) := by decide +kernel
theorem d_Mo_lay_90 : decode prog_9_method_16_code 90 = .ok (.isub, 1) := by decide +kernel
theorem d_Mo_lay_91 : decode prog_9_method_16_code 91 = .ok (.iload_n 3, 1) := by decide +kernel
theorem d_Mo_lay_92 : decode prog_9_method_16_code 92 = .ok (.isub, 1) := by decide +kernel
theorem d_Mo_lay_93 : decode prog_9_method_16_code 93 = .ok (.goto 4, 3) := by decide +kernel
theorem d_Mo_lay_96 : decode prog_9_method_16_code 96 = .ok (.iload_n 3, 1) := by decide +kernel
theorem d_Mo_lay_97 : decode prog_9_method_16_code 97 = .ok (.istore 4, 2) := by decide +kernel
theorem d_Mo_lay_99 : decode prog_9_method_16_code 99 = .ok (.aload_n 0, 1) := by decide +kernel
theorem d_Mo_lay_100 : decode prog_9_method_16_code 100 = .ok (.getfield 51, 3) := by decide +kernel
theorem d_Mo_lay_103 : decode prog_9_method_16_code 103 = .ok (.bipush 24, 2) := by decide +kernel
theorem d_Mo_lay_105 : decode prog_9_method_16_code 105 = .ok (.iload_n 1, 1) := by decide +kernel
theorem d_Mo_lay_106 : decode prog_9_method_16_code 106 = .ok (.imul, 1) := by decide +kernel
theorem d_Mo_lay_107 : decode prog_9_method_16_code 107 = .ok (.iload_n 3, 1) := by decide +kernel
theorem d_Mo_lay_108 : decode prog_9_method_16_code 108 = .ok (.iadd, 1) := by decide +kernel
theorem d_Mo_lay_109 : decode prog_9_method_16_code 109 = .ok (.aload_n 0, 1) := by decide +kernel
theorem d_Mo_lay_110 : decode prog_9_method_16_code 110 = .ok (.iload_n 1, 1) := by decide +kernel
theorem d_Mo_lay_111 : decode prog_9_method_16_code 111 = .ok (.iload 4, 2) := by decide +kernel
theorem d_Mo_lay_113 : decode prog_9_method_16_code 113 = .ok (.invokevirtual 85, 3) := by decide +kernel
theorem d_Mo_lay_116 : decode prog_9_method_16_code 116 = .ok (.iastore, 1) := by decide +kernel
theorem d_Mo_lay_117 : decode prog_9_method_16_code 117 = .ok (.iconst 0, 1) := by decide +kernel
theorem d_Mo_lay_118 : decode prog_9_method_16_code 118 = .ok (.istore 5, 2) := by decide +kernel
theorem d_Mo_lay_120 : decode prog_9_method_16_code 120 = .ok (.iload 5, 2) := by decide +kernel
theorem d_Mo_lay_122 : decode prog_9_method_16_code 122 = .ok (.aload_n 0, 1) := by decide +kernel
theorem d_Mo_lay_123 : decode prog_9_method_16_code 123 = .ok (.getfield 13, 3) := by decide +kernel
theorem d_Mo_lay_126 : decode prog_9_method_16_code 126 = .ok (.iload 4, 2) := by decide +kernel
theorem d_Mo_lay_128 : decode prog_9_method_16_code 128 = .ok (.iaload, 1) := by decide +kernel
theorem d_Mo_lay_129 : decode prog_9_method_16_code 129 = .ok (.aload_n 0, 1) := by decide +kernel
theorem d_Mo_lay_130 : decode prog_9_method_16_code 130 = .ok (.getfield 29, 3) := by decide +kernel
theorem d_Mo_lay_133 : decode prog_9_method_16_code 133 = .ok (.iload_n 1, 1) := by decide +kernel
theorem d_Mo_lay_134 : decode prog_9_method_16_code 134 = .ok (.iaload, 1) := by decide +kernel
theorem d_Mo_lay_135 : decode prog_9_method_16_code 135 = .ok (.imul, 1) := by decide +kernel
theorem d_Mo_lay_136 : decode prog_9_method_16_code 136 = .ok (.if_icmp .ge 103, 3) := by decide +kernel
theorem d_Mo_lay_139 : decode prog_9_method_16_code 139 = .ok (.sipush 1300, 3) := by decide +kernel
theorem d_Mo_lay_142 : decode prog_9_method_16_code 142 = .ok (.iload_n 1, 1) := by decide +kernel
theorem d_Mo_lay_143 : decode prog_9_method_16_code 143 = .ok (.imul, 1) := by decide +kernel
theorem d_Mo_lay_144 : decode prog_9_method_16_code 144 = .ok (.aload_n 0, 1) := by decide +kernel
theorem d_Mo_lay_145 : decode prog_9_method_16_code 145 = .ok (.getfield 72, 3) := by decide +kernel
theorem d_Mo_lay_148 : decode prog_9_method_16_code 148 = .ok (.ifCond .le 12, 3) := by decide +kernel
theorem d_Mo_lay_151 : decode prog_9_method_16_code 151 = .ok (.iload_n 2, 1) := by decide +kernel
theorem d_Mo_lay_152 : decode prog_9_method_16_code 152 = .ok (.aload_n 0, 1) := by decide +kernel
theorem d_Mo_lay_153 : decode prog_9_method_16_code 153 = .ok (.getfield 72, 3) := by decide +kernel
theorem d_Mo_lay_156 : decode prog_9_method_16_code 156 = .ok (.irem, 1) := by decide +kernel
theorem d_Mo_lay_157 : decode prog_9_method_16_code 157 = .ok (.goto 4, 3) := by decide +kernel
theorem d_Mo_lay_160 : decode prog_9_method_16_code 160 = .ok (.iload_n 2, 1) := by decide +kernel
theorem d_Mo_lay_161 : decode prog_9_method_16_code 161 = .ok (.iadd, 1) := by decide +kernel
theorem d_Mo_lay_162 : decode prog_9_method_16_code 162 = .ok (.istore 6, 2) := by decide +kernel
theorem d_Mo_lay_164 : decode prog_9_method_16_code 164 = .ok (.aload_n 0, 1) := by decide +kernel
theorem d_Mo_lay_165 : decode prog_9_method_16_code 165 = .ok (.getfield 48, 3) := by decide +kernel
theorem d_Mo_lay_168 : decode prog_9_method_16_code 168 = .ok (.iload 6, 2) := by decide +kernel
theorem d_Mo_lay_170 : decode prog_9_method_16_code 170 = .ok (.iaload, 1) := by decide +kernel
theorem d_Mo_lay_171 : decode prog_9_method_16_code 171 = .ok (.ifCond .ge 59, 3) := by decide +kernel
theorem d_Mo_lay_174 : decode prog_9_method_16_code 174 = .ok (.aload_n 0, 1) := by decide +kernel
theorem d_Mo_lay_175 : decode prog_9_method_16_code 175 = .ok (.getfield 48, 3) := by decide +kernel
theorem d_Mo_lay_178 : decode prog_9_method_16_code 178 = .ok (.iload 6, 2) := by decide +kernel
theorem d_Mo_lay_180 : decode prog_9_method_16_code 180 = .ok (.iload_n 3, 1) := by decide +kernel
theorem d_Mo_lay_181 : decode prog_9_method_16_code 181 = .ok (.iastore, 1) := by decide +kernel
theorem d_Mo_lay_182 : decode prog_9_method_16_code 182 = .ok (.aload_n 0, 1) := by decide +kernel
theorem d_Mo_lay_183 : decode prog_9_method_16_code 183 = .ok (.getfield 42, 3) := by decide +kernel
theorem d_Mo_lay_186 : decode prog_9_method_16_code 186 = .ok (.iload 6, 2) := by decide +kernel
theorem d_Mo_lay_188 : decode prog_9_method_16_code 188 = .ok (.aload_n 0, 1) := by decide +kernel
theorem d_Mo_lay_189 : decode prog_9_method_16_code 189 = .ok (.getfield 51, 3) := by decide +kernel
theorem d_Mo_lay_192 : decode prog_9_method_16_code 192 = .ok (.bipush 24, 2) := by decide +kernel
theorem d_Mo_lay_194 : decode prog_9_method_16_code 194 = .ok (.iload_n 1, 1) := by decide +kernel
theorem d_Mo_lay_195 : decode prog_9_method_16_code 195 = .ok (.imul, 1) := by decide +kernel
theorem d_Mo_lay_196 : decode prog_9_method_16_code 196 = .ok (.iload_n 3, 1) := by decide +kernel
theorem d_Mo_lay_197 : decode prog_9_method_16_code 197 = .ok (.iadd, 1) := by decide +kernel
theorem d_Mo_lay_198 : decode prog_9_method_16_code 198 = .ok (.iaload, 1) := by decide +kernel
theorem d_Mo_lay_199 : decode prog_9_method_16_code 199 = .ok (.iastore, 1) := by decide +kernel
theorem d_Mo_lay_200 : decode prog_9_method_16_code 200 = .ok (.aload_n 0, 1) := by decide +kernel
theorem d_Mo_lay_201 : decode prog_9_method_16_code 201 = .ok (.getfield 45, 3) := by decide +kernel
theorem d_Mo_lay_204 : decode prog_9_method_16_code 204 = .ok (.iload 6, 2) := by decide +kernel
theorem d_Mo_lay_206 : decode prog_9_method_16_code 206 = .ok (.iload 5, 2) := by decide +kernel
theorem d_Mo_lay_208 : decode prog_9_method_16_code 208 = .ok (.ifCond .ne 20, 3) := by decide +kernel
theorem d_Mo_lay_211 : decode prog_9_method_16_code 211 = .ok (.aload_n 0, 1) := by decide +kernel
theorem d_Mo_lay_212 : decode prog_9_method_16_code 212 = .ok (.getfield 42, 3) := by decide +kernel
theorem d_Mo_lay_215 : decode prog_9_method_16_code 215 = .ok (.iload 6, 2) := by decide +kernel
theorem d_Mo_lay_217 : decode prog_9_method_16_code 217 = .ok (.iaload, 1) := by decide +kernel
theorem d_Mo_lay_218 : decode prog_9_method_16_code 218 = .ok (.sipush 1000, 3) := by decide +kernel
theorem d_Mo_lay_221 : decode prog_9_method_16_code 221 = .ok (.if_icmp .eq 7, 3) := by decide +kernel
theorem d_Mo_lay_224 : decode prog_9_method_16_code 224 = .ok (.iconst 1, 1) := by decide +kernel
theorem d_Mo_lay_225 : decode prog_9_method_16_code 225 = .ok (.goto 4, 3) := by decide +kernel
theorem d_Mo_lay_228 : decode prog_9_method_16_code 228 = .ok (.iconst 0, 1) := by decide +kernel
theorem d_Mo_lay_229 : decode prog_9_method_16_code 229 = .ok (.bastore, 1) := by decide +kernel
theorem d_Mo_lay_230 : decode prog_9_method_16_code 230 = .ok (.iinc 2 1, 3) := by decide +kernel
theorem d_Mo_lay_233 : decode prog_9_method_16_code 233 = .ok (.iinc 5 1, 3) := by decide +kernel
theorem d_Mo_lay_236 : decode prog_9_method_16_code 236 = .ok (.goto (-116), 3) := by decide +kernel
theorem d_Mo_lay_239 : decode prog_9_method_16_code 239 = .ok (.iinc 3 1, 3) := by decide +kernel
theorem d_Mo_lay_242 : decode prog_9_method_16_code 242 = .ok (.goto (-176), 3) := by decide +kernel
theorem d_Mo_lay_245 : decode prog_9_method_16_code 245 = .ok (.return_, 1) := by decide +kernel
abbrev rm_Mo_lay : Room := { frames := 1, cells := 0, slots := 0, locals := 24 }
set_option maxHeartbeats 4000000 in
set_option maxRecDepth 100000 in
theorem c_Mo_lay (l : Launch) (D : va_G) (cs : Nat → ClassId) (ad : Nat → Nat) (hi : mo_inj ad) (c I : Wo) (h : moR c I) (v : Nat) (hv : v < 4) (hon : c (3 + v) 0 = 1) (hT : I 0 19 = an_end c) : mo_C l D cs ad y_Mo_lay ws_Mo_lay rm_Mo_lay [.ref (ad 0), .int (zi (v : Int))] I (mk_pv (fun J => MlO I J v ∧ MlL c J v (cn c) ∧ (∀ x : Nat, (x : Int) < an_end c → J 10 (1300 * v + x) = cpl c v x ∧ J 8 (1300 * v + x) = cpt c v x ∧ J 9 (1300 * v + x) = csk c v x))) := by
  refine mk_metv (own := "CanonMakerModel") (Ts := wA) hi (Nat.le_refl _) (by decide) rfl (fun w h => List.mem_cons_of_mem _ h) rfl (Nat.le_of_ble_eq_true rfl) [(0, .ref (ad 0)), (1, .int (zi (v : Int)))] rfl ?_
  intro p_ e_ s_ m_ as_ bl_ me_ co_ Q_ X hret
  obtain ⟨⟨⟨hn, hN⟩, ⟨hlo, hsc, hbt, hru, hrd, hst⟩, ⟨hV, hV0⟩, ⟨hfc, hF⟩⟩, ⟨i12, iN⟩, ⟨⟨i50, i51, i52, i53, i54⟩, i07, i09⟩, iV, ⟨i010, iF⟩⟩ := id h
  have hcn := cn_e h.1.1
  have hv5 := hV v hv
  have heb := an_end_b h.1.1 h.1.2.1 h.1.2.2.1
  have hz2 := ziand2 hv5.2.2.2.1
  have L66 : ∀ nf : Nat, ∀ (j : Nat) (t : Int) (J : Wo), (j ≤ cn c) → (t = c (3 + v) 1 + cbg c v j) → (MlO I J v) → (MlV c J v (cbg c v j)) → (MlL c J v j) → 24 - j < nf → mk_A p_ l e_ rm_Mo_lay s_ m_ as_ bl_ me_ co_ Q_ 7 D cmcl (mo_sh cs ad) 16 16 ad J [(0, .ref (ad 0)), (1, .int (zi (v : Int))), (2, .int (zi t)), (3, .int (zi (j : Int)))] 66 [] := by
    intro nf
    induction nf with
    | zero => intro j t J hj ht hO hM hL hn; exact absurd hn (Nat.not_lt_zero _)
    | succ nf ih66 =>
      intro j t J hj ht hO hM hL hn66
      have L120 : ∀ nf : Nat, ∀ (k : Nat) (t2 : Int) (Kw : Wo), ((k : Int) ≤ c 2 (cnt c v j) * c (3 + v) 4) → (j < cn c) → (t2 = c (3 + v) 1 + cbg c v j + (k : Int)) → (MlO I Kw v) → (MlV c Kw v (cbg c v j + (k : Int))) → (MlL c Kw v (j + 1)) → 48 - k < nf → mk_A p_ l e_ rm_Mo_lay s_ m_ as_ bl_ me_ co_ Q_ 7 D cmcl (mo_sh cs ad) 16 16 ad Kw [(0, .ref (ad 0)), (1, .int (zi (v : Int))), (2, .int (zi t2)), (3, .int (zi (j : Int))), (4, .int (zi (cnt c v j : Int))), (5, .int (zi (k : Int)))] 120 [] := by
        intro nf
        induction nf with
        | zero => intro k t2 Kw hk hjn ht2 hO2 hM2 hL2 hn; exact absurd hn (Nat.not_lt_zero _)
        | succ nf ih120 =>
          intro k t2 Kw hk hjn ht2 hO2 hM2 hL2 hn120
          have hst := cbg_s (c := c) (v := v) j
          have hle := cbg_le h.1.1 h.1.2.2.1 hv (show j + 1 ≤ cn c by omega) (Nat.le_refl _)
          have hjb := cbg_b h.1.1 h.1.2.2.1 hv (Nat.le_of_lt hjn)
          have hub := cbg_b h.1.1 h.1.2.2.1 hv (Nat.le_refl (cn c))
          have hsp := cbg_step h.1.1 h.1.2.2.1 hv hjn
          have hcl := cnt_lt (c := c) (v := v) hjn
          have hln := (hN (cnt c v j) (by omega)).2
          have hpj := clp_b h.1.1 h.1.2.2.1 hv hjn
          refine mk_iload (nx := 122) X 5 d_Mo_lay_120 rfl rfl ?_
          refine mk_aloadn (nx := 123) X 0 d_Mo_lay_122 rfl rfl ?_
          refine mk_get (nx := 126) (v := .ref (ad 2)) X 0 (by decide) (mh_Mo cs ad _) rfl in_Mo 1 (by decide) wd_596 rfl rfl d_Mo_lay_123 rfl ?_
          refine mk_iload (nx := 128) X 4 d_Mo_lay_126 rfl rfl ?_
          refine mk_iald (nx := 129) (j := (cnt c v j)) X 2 0 (by decide) (mh_lengths cs ad _) rfl (by omega) (by omega) (by decide) rfl d_Mo_lay_128 rfl ?_
          rw [show Kw 2 (cnt c v j) = c 2 (cnt c v j) from ((hO2.1 2 (cnt c v j) (by omega)).trans ((iN (cnt c v j) (by omega)).2))]
          refine mk_aloadn (nx := 130) X 0 d_Mo_lay_129 rfl rfl ?_
          refine mk_get (nx := 133) (v := .ref (ad 7)) X 0 (by decide) (mh_Mo cs ad _) rfl in_Mo 7 (by decide) wd_602 rfl rfl d_Mo_lay_130 rfl ?_
          refine mk_iloadn (nx := 134) X 1 d_Mo_lay_133 rfl rfl ?_
          refine mk_iald (nx := 135) (j := v) X 7 0 (by decide) (mh_factors cs ad _) rfl (by omega) (by omega) (by decide) rfl d_Mo_lay_134 rfl ?_
          rw [show Kw 7 v = c (3 + v) 4 from ((hO2.1 7 v (by omega)).trans ((iV v hv).2.2.2.2))]
          refine mk_imul (nx := 136) X d_Mo_lay_135 rfl ?_
          refine mk_icmp_ge (tgt := 239) (nx := 139) X d_Mo_lay_136 (by omega) (by omega) (by decide) rfl (fun c136 => ?_) (fun c136 => ?_)
          · skip
            refine mk_iinc (nx := 242) X 3 [(3, .int (zi ((j : Int) + 1))), (0, .ref (ad 0)), (1, .int (zi (v : Int))), (2, .int (zi t2)), (4, .int (zi (cnt c v j : Int))), (5, .int (zi (k : Int)))] d_Mo_lay_239 rfl (by decide) rfl rfl ?_
            refine mk_goto (tgt := 66) X d_Mo_lay_242 (by decide) ?_
            refine mk_lv [1, 2, 3, 0] rfl ?_
            exact ih66 (j + 1) t2 Kw (by omega) (by first | (rw [cbg_0]; omega) | omega) (by first | exact hO | exact hO2) (by first | exact ml_0 (fun x hx => hC x (by omega)) | (rw [hst, ← show (k : Int) = c 2 (cnt c v j) * c (3 + v) 4 by omega]; exact hM2)) (by first | exact lt_0 | exact hL2) (by omega)
          · skip
            refine mk_sipush (nx := 142) X d_Mo_lay_139 (by decide) rfl ?_
            refine mk_iloadn (nx := 143) X 1 d_Mo_lay_142 rfl rfl ?_
            refine mk_imul (nx := 144) X d_Mo_lay_143 rfl ?_
            refine mk_aloadn (nx := 145) X 0 d_Mo_lay_144 rfl rfl ?_
            refine mk_get (nx := 148) (v := .int (zi (Kw 0 12))) X 0 (by decide) (mh_Mo cs ad _) rfl in_Mo 12 (by decide) wd_607 rfl rfl d_Mo_lay_145 rfl ?_
            rw [show Kw 0 12 = c 0 6 from ((hO2.1 0 12 (by omega)).trans (i07))]
            refine mk_if_le (tgt := 160) (nx := 151) X d_Mo_lay_148 (by omega) (by decide) rfl (fun c148 => ?_) (fun c148 => ?_)
            · skip
              refine mk_iloadn (nx := 161) X 2 d_Mo_lay_160 rfl rfl ?_
              refine mk_iadd (nx := 162) X d_Mo_lay_161 rfl ?_
              refine mk_nm (fun at_ hat_ => ?_)
              have hb := mlx_b h.1.1 h.1.2.1 h.1.2.2.1 hv hon (o := cbg c v j + (k : Int)) (by omega) (by omega)
              have hme : at_ = 1300 * (v : Int) + mlx c v (cbg c v j + (k : Int)) := by
                rw [hat_]
                unfold mlx
                first | rw [if_pos (by omega), Int.tmod_eq_emod_of_nonneg (by omega), ht2, Int.add_assoc (c (3 + v) 1)] | (rw [if_neg (by omega)]; omega)
              obtain ⟨x, hx⟩ : ∃ x : Nat, (x : Int) = mlx c v (cbg c v j + (k : Int)) := ⟨(mlx c v (cbg c v j + (k : Int))).toNat, by omega⟩
              obtain rfl : at_ = (1300 * (v : Int)) + (x : Int) := by omega
              have hxb : (x : Int) < an_end c := by omega
              have hMx := hM2 x hxb
              have hpb := cpl_b h.1.1 h.1.2.2.1 hv (x : Int)
              have h10 : -1 ≤ Kw 10 ((1300 * v) + x) ∧ Kw 10 ((1300 * v) + x) < 25 := by
                rw [hMx.1]
                split <;> omega
              refine mk_istore (nx := 164) X [(6, .int (zi ((1300 * (v : Int)) + (x : Int)))), (0, .ref (ad 0)), (1, .int (zi (v : Int))), (2, .int (zi t2)), (3, .int (zi (j : Int))), (4, .int (zi (cnt c v j : Int))), (5, .int (zi (k : Int)))] d_Mo_lay_162 (by decide) rfl rfl ?_
              refine mk_aloadn (nx := 165) X 1 d_Mo_lay_164 rfl rfl ?_
              refine mk_get (nx := 168) (v := .ref (ad 10)) X 0 (by decide) (mh_Mo cs ad _) rfl in_Mo 17 (by decide) wd_612 rfl rfl d_Mo_lay_165 rfl ?_
              refine mk_iload (nx := 170) X 0 d_Mo_lay_168 rfl rfl ?_
              refine mk_iald (nx := 171) (j := ((1300 * v) + x)) X 10 0 (by decide) (mh_noteAt cs ad _) rfl (by omega) (by omega) (by decide) (by omega) d_Mo_lay_170 rfl ?_
              refine mk_if_ge (tgt := 230) (nx := 174) X d_Mo_lay_171 (by omega) (by decide) rfl (fun c171 => ?_) (fun c171 => ?_)
              · skip
                refine mk_iinc (nx := 233) X 3 [(2, .int (zi (t2 + 1))), (6, .int (zi ((1300 * (v : Int)) + (x : Int)))), (0, .ref (ad 0)), (1, .int (zi (v : Int))), (3, .int (zi (j : Int))), (4, .int (zi (cnt c v j : Int))), (5, .int (zi (k : Int)))] d_Mo_lay_230 rfl (by decide) rfl rfl ?_
                refine mk_iinc (nx := 236) X 6 [(5, .int (zi ((k : Int) + 1))), (2, .int (zi (t2 + 1))), (6, .int (zi ((1300 * (v : Int)) + (x : Int)))), (0, .ref (ad 0)), (1, .int (zi (v : Int))), (3, .int (zi (j : Int))), (4, .int (zi (cnt c v j : Int)))] d_Mo_lay_233 rfl (by decide) rfl rfl ?_
                refine mk_goto (tgt := 120) X d_Mo_lay_236 (by decide) ?_
                refine mk_lv [3, 4, 1, 5, 6, 0] rfl ?_
                exact ih120 (k + 1) (t2 + 1) Kw (by omega) (by omega) (by omega) (by first | exact MlO_l hO (by omega) hKw | exact hO2 | exact MlO_w (MlO_w (MlO_w hO2 (by omega) (by omega) hKw) (by omega) (by omega) hKw) (by omega) (by omega) hKw) (by first | (rw [show cbg c v j + ((0 : Nat) : Int) = cbg c v j by omega]; exact ml_l hKw hM) | (rw [show cbg c v j + ((k + 1 : Nat) : Int) = cbg c v j + (k : Int) + 1 by omega]; exact ml_A h.1.1 h.1.2.1 h.1.2.2.1 hv hon (by omega) (by omega) hx hM2 (by omega)) | (rw [show cbg c v j + ((k + 1 : Nat) : Int) = cbg c v j + (k : Int) + 1 by omega]; exact ml_B h.1.1 h.1.2.1 h.1.2.2.1 hv hon hjn (by omega) (by omega) hx hM2 (by omega) hKw hKw hKw (by first | rw [if_pos (by omega)] | rw [if_neg (by omega)]))) (by first | exact ml_L hL hKw | exact hL2 | exact ml_Lw (ml_Lw (ml_Lw hL2 (by decide) hKw) (by decide) hKw) (by decide) hKw) (by omega)
              · skip
                refine mk_aloadn (nx := 175) X 1 d_Mo_lay_174 rfl rfl ?_
                refine mk_get (nx := 178) (v := .ref (ad 10)) X 0 (by decide) (mh_Mo cs ad _) rfl in_Mo 17 (by decide) wd_612 rfl rfl d_Mo_lay_175 rfl ?_
                refine mk_iload (nx := 180) X 0 d_Mo_lay_178 rfl rfl ?_
                refine mk_iloadn (nx := 181) X 4 d_Mo_lay_180 rfl rfl ?_
                refine mk_iast (nx := 182) (j := ((1300 * v) + x)) X 10 0 (by decide) (mh_noteAt cs ad) rfl (by omega) (by omega) (by decide) (by omega) d_Mo_lay_181 rfl ?_
                obtain ⟨J1, hJ1⟩ : ∃ W_ : Wo, W_ = up2 Kw 10 ((1300 * v) + x) (j : Int) := ⟨_, rfl⟩
                refine mk_same hJ1.symm ?_
                have hJ1s : J1 10 ((1300 * v) + x) = (j : Int) := hJ1 ▸ up2_ss Kw 10 ((1300 * v) + x) (j : Int)
                have hJ1o : ∀ a b, (a ≠ 10 ∨ b ≠ ((1300 * v) + x)) → J1 a b = Kw a b := hJ1 ▸ up2_o Kw 10 ((1300 * v) + x) (j : Int)
                refine mk_aloadn (nx := 183) X 1 d_Mo_lay_182 rfl rfl ?_
                refine mk_get (nx := 186) (v := .ref (ad 8)) X 0 (by decide) (mh_Mo cs ad _) rfl in_Mo 15 (by decide) wd_610 rfl rfl d_Mo_lay_183 rfl ?_
                refine mk_iload (nx := 188) X 0 d_Mo_lay_186 rfl rfl ?_
                refine mk_aloadn (nx := 189) X 1 d_Mo_lay_188 rfl rfl ?_
                refine mk_get (nx := 192) (v := .ref (ad 11)) X 0 (by decide) (mh_Mo cs ad _) rfl in_Mo 18 (by decide) wd_613 rfl rfl d_Mo_lay_189 rfl ?_
                refine mk_bipush (nx := 194) X d_Mo_lay_192 (by decide) rfl ?_
                refine mk_iloadn (nx := 195) X 2 d_Mo_lay_194 rfl rfl ?_
                refine mk_imul (nx := 196) X d_Mo_lay_195 rfl ?_
                refine mk_iloadn (nx := 197) X 4 d_Mo_lay_196 rfl rfl ?_
                refine mk_iadd (nx := 198) X d_Mo_lay_197 rfl ?_
                refine mk_iald (nx := 199) (j := ((24 * v) + j)) X 11 0 (by decide) (mh_line cs ad _) rfl (by omega) (by omega) (by decide) (by omega) d_Mo_lay_198 rfl ?_
                rw [show J1 11 ((24 * v) + j) = Kw 11 ((24 * v) + j) from hJ1o 11 ((24 * v) + j) (Or.inl (by decide))]
                rw [show Kw 11 ((24 * v) + j) = clp c v j from (hL2 j (by omega))]
                refine mk_iast (nx := 200) (j := ((1300 * v) + x)) X 8 0 (by decide) (mh_pitchAt cs ad) rfl (by omega) (by omega) (by decide) (by omega) d_Mo_lay_199 rfl ?_
                obtain ⟨J2, hJ2⟩ : ∃ W_ : Wo, W_ = up2 J1 8 ((1300 * v) + x) (clp c v j) := ⟨_, rfl⟩
                refine mk_same hJ2.symm ?_
                have hJ2s : J2 8 ((1300 * v) + x) = clp c v j := hJ2 ▸ up2_ss J1 8 ((1300 * v) + x) (clp c v j)
                have hJ2o : ∀ a b, (a ≠ 8 ∨ b ≠ ((1300 * v) + x)) → J2 a b = J1 a b := hJ2 ▸ up2_o J1 8 ((1300 * v) + x) (clp c v j)
                refine mk_aloadn (nx := 201) X 1 d_Mo_lay_200 rfl rfl ?_
                refine mk_get (nx := 204) (v := .ref (ad 9)) X 0 (by decide) (mh_Mo cs ad _) rfl in_Mo 16 (by decide) wd_611 rfl rfl d_Mo_lay_201 rfl ?_
                refine mk_iload (nx := 206) X 0 d_Mo_lay_204 rfl rfl ?_
                refine mk_iload (nx := 208) X 6 d_Mo_lay_206 rfl rfl ?_
                refine mk_if_ne (tgt := 228) (nx := 211) X d_Mo_lay_208 (by omega) (by decide) rfl (fun c208 => ?_) (fun c208 => ?_)
                · skip
                  refine mk_iconst (nx := 229) X d_Mo_lay_228 rfl ?_
                  refine mk_zast (nx := 230) (j := ((1300 * v) + x)) X 9 1 (by decide) (mh_struck cs ad) rfl (by omega) (by omega) (by decide) (by omega) (by omega) d_Mo_lay_229 rfl ?_
                  obtain ⟨J3, hJ3⟩ : ∃ W_ : Wo, W_ = up2 J2 9 ((1300 * v) + x) 0 := ⟨_, rfl⟩
                  refine mk_same hJ3.symm ?_
                  have hJ3s : J3 9 ((1300 * v) + x) = 0 := hJ3 ▸ up2_ss J2 9 ((1300 * v) + x) 0
                  have hJ3o : ∀ a b, (a ≠ 9 ∨ b ≠ ((1300 * v) + x)) → J3 a b = J2 a b := hJ3 ▸ up2_o J2 9 ((1300 * v) + x) 0
                  refine mk_iinc (nx := 233) X 3 [(2, .int (zi (t2 + 1))), (6, .int (zi ((1300 * (v : Int)) + (x : Int)))), (0, .ref (ad 0)), (1, .int (zi (v : Int))), (3, .int (zi (j : Int))), (4, .int (zi (cnt c v j : Int))), (5, .int (zi (k : Int)))] d_Mo_lay_230 rfl (by decide) rfl rfl ?_
                  refine mk_iinc (nx := 236) X 6 [(5, .int (zi ((k : Int) + 1))), (2, .int (zi (t2 + 1))), (6, .int (zi ((1300 * (v : Int)) + (x : Int)))), (0, .ref (ad 0)), (1, .int (zi (v : Int))), (3, .int (zi (j : Int))), (4, .int (zi (cnt c v j : Int)))] d_Mo_lay_233 rfl (by decide) rfl rfl ?_
                  refine mk_goto (tgt := 120) X d_Mo_lay_236 (by decide) ?_
                  refine mk_lv [3, 4, 1, 5, 6, 0] rfl ?_
                  exact ih120 (k + 1) (t2 + 1) J3 (by omega) (by omega) (by omega) (by first | exact MlO_l hO (by omega) hJ3 | exact hO2 | exact MlO_w (MlO_w (MlO_w hO2 (by omega) (by omega) hJ1) (by omega) (by omega) hJ2) (by omega) (by omega) hJ3) (by first | (rw [show cbg c v j + ((0 : Nat) : Int) = cbg c v j by omega]; exact ml_l hJ3 hM) | (rw [show cbg c v j + ((k + 1 : Nat) : Int) = cbg c v j + (k : Int) + 1 by omega]; exact ml_A h.1.1 h.1.2.1 h.1.2.2.1 hv hon (by omega) (by omega) hx hM2 (by omega)) | (rw [show cbg c v j + ((k + 1 : Nat) : Int) = cbg c v j + (k : Int) + 1 by omega]; exact ml_B h.1.1 h.1.2.1 h.1.2.2.1 hv hon hjn (by omega) (by omega) hx hM2 (by omega) hJ1 hJ2 hJ3 (by first | rw [if_pos (by omega)] | rw [if_neg (by omega)]))) (by first | exact ml_L hL hJ3 | exact hL2 | exact ml_Lw (ml_Lw (ml_Lw hL2 (by decide) hJ1) (by decide) hJ2) (by decide) hJ3) (by omega)
                · skip
                  refine mk_aloadn (nx := 212) X 1 d_Mo_lay_211 rfl rfl ?_
                  refine mk_get (nx := 215) (v := .ref (ad 8)) X 0 (by decide) (mh_Mo cs ad _) rfl in_Mo 15 (by decide) wd_610 rfl rfl d_Mo_lay_212 rfl ?_
                  refine mk_iload (nx := 217) X 0 d_Mo_lay_215 rfl rfl ?_
                  refine mk_iald (nx := 218) (j := ((1300 * v) + x)) X 8 0 (by decide) (mh_pitchAt cs ad _) rfl (by omega) (by omega) (by decide) (by omega) d_Mo_lay_217 rfl ?_
                  rw [hJ2s]
                  refine mk_sipush (nx := 221) X d_Mo_lay_218 (by decide) rfl ?_
                  refine mk_icmp_eq (tgt := 228) (nx := 224) X d_Mo_lay_221 (by omega) (by omega) (by decide) rfl (fun c221 => ?_) (fun c221 => ?_)
                  · skip
                    refine mk_iconst (nx := 229) X d_Mo_lay_228 rfl ?_
                    refine mk_zast (nx := 230) (j := ((1300 * v) + x)) X 9 1 (by decide) (mh_struck cs ad) rfl (by omega) (by omega) (by decide) (by omega) (by omega) d_Mo_lay_229 rfl ?_
                    obtain ⟨J4, hJ4⟩ : ∃ W_ : Wo, W_ = up2 J2 9 ((1300 * v) + x) 0 := ⟨_, rfl⟩
                    refine mk_same hJ4.symm ?_
                    have hJ4s : J4 9 ((1300 * v) + x) = 0 := hJ4 ▸ up2_ss J2 9 ((1300 * v) + x) 0
                    have hJ4o : ∀ a b, (a ≠ 9 ∨ b ≠ ((1300 * v) + x)) → J4 a b = J2 a b := hJ4 ▸ up2_o J2 9 ((1300 * v) + x) 0
                    refine mk_iinc (nx := 233) X 3 [(2, .int (zi (t2 + 1))), (6, .int (zi ((1300 * (v : Int)) + (x : Int)))), (0, .ref (ad 0)), (1, .int (zi (v : Int))), (3, .int (zi (j : Int))), (4, .int (zi (cnt c v j : Int))), (5, .int (zi (k : Int)))] d_Mo_lay_230 rfl (by decide) rfl rfl ?_
                    refine mk_iinc (nx := 236) X 6 [(5, .int (zi ((k : Int) + 1))), (2, .int (zi (t2 + 1))), (6, .int (zi ((1300 * (v : Int)) + (x : Int)))), (0, .ref (ad 0)), (1, .int (zi (v : Int))), (3, .int (zi (j : Int))), (4, .int (zi (cnt c v j : Int)))] d_Mo_lay_233 rfl (by decide) rfl rfl ?_
                    refine mk_goto (tgt := 120) X d_Mo_lay_236 (by decide) ?_
                    refine mk_lv [3, 4, 1, 5, 6, 0] rfl ?_
                    exact ih120 (k + 1) (t2 + 1) J4 (by omega) (by omega) (by omega) (by first | exact MlO_l hO (by omega) hJ4 | exact hO2 | exact MlO_w (MlO_w (MlO_w hO2 (by omega) (by omega) hJ1) (by omega) (by omega) hJ2) (by omega) (by omega) hJ4) (by first | (rw [show cbg c v j + ((0 : Nat) : Int) = cbg c v j by omega]; exact ml_l hJ4 hM) | (rw [show cbg c v j + ((k + 1 : Nat) : Int) = cbg c v j + (k : Int) + 1 by omega]; exact ml_A h.1.1 h.1.2.1 h.1.2.2.1 hv hon (by omega) (by omega) hx hM2 (by omega)) | (rw [show cbg c v j + ((k + 1 : Nat) : Int) = cbg c v j + (k : Int) + 1 by omega]; exact ml_B h.1.1 h.1.2.1 h.1.2.2.1 hv hon hjn (by omega) (by omega) hx hM2 (by omega) hJ1 hJ2 hJ4 (by first | rw [if_pos (by omega)] | rw [if_neg (by omega)]))) (by first | exact ml_L hL hJ4 | exact hL2 | exact ml_Lw (ml_Lw (ml_Lw hL2 (by decide) hJ1) (by decide) hJ2) (by decide) hJ4) (by omega)
                  · skip
                    refine mk_iconst (nx := 225) X d_Mo_lay_224 rfl ?_
                    refine mk_goto (tgt := 229) X d_Mo_lay_225 (by decide) ?_
                    refine mk_zast (nx := 230) (j := ((1300 * v) + x)) X 9 1 (by decide) (mh_struck cs ad) rfl (by omega) (by omega) (by decide) (by omega) (by omega) d_Mo_lay_229 rfl ?_
                    obtain ⟨J5, hJ5⟩ : ∃ W_ : Wo, W_ = up2 J2 9 ((1300 * v) + x) 1 := ⟨_, rfl⟩
                    refine mk_same hJ5.symm ?_
                    have hJ5s : J5 9 ((1300 * v) + x) = 1 := hJ5 ▸ up2_ss J2 9 ((1300 * v) + x) 1
                    have hJ5o : ∀ a b, (a ≠ 9 ∨ b ≠ ((1300 * v) + x)) → J5 a b = J2 a b := hJ5 ▸ up2_o J2 9 ((1300 * v) + x) 1
                    refine mk_iinc (nx := 233) X 3 [(2, .int (zi (t2 + 1))), (6, .int (zi ((1300 * (v : Int)) + (x : Int)))), (0, .ref (ad 0)), (1, .int (zi (v : Int))), (3, .int (zi (j : Int))), (4, .int (zi (cnt c v j : Int))), (5, .int (zi (k : Int)))] d_Mo_lay_230 rfl (by decide) rfl rfl ?_
                    refine mk_iinc (nx := 236) X 6 [(5, .int (zi ((k : Int) + 1))), (2, .int (zi (t2 + 1))), (6, .int (zi ((1300 * (v : Int)) + (x : Int)))), (0, .ref (ad 0)), (1, .int (zi (v : Int))), (3, .int (zi (j : Int))), (4, .int (zi (cnt c v j : Int)))] d_Mo_lay_233 rfl (by decide) rfl rfl ?_
                    refine mk_goto (tgt := 120) X d_Mo_lay_236 (by decide) ?_
                    refine mk_lv [3, 4, 1, 5, 6, 0] rfl ?_
                    exact ih120 (k + 1) (t2 + 1) J5 (by omega) (by omega) (by omega) (by first | exact MlO_l hO (by omega) hJ5 | exact hO2 | exact MlO_w (MlO_w (MlO_w hO2 (by omega) (by omega) hJ1) (by omega) (by omega) hJ2) (by omega) (by omega) hJ5) (by first | (rw [show cbg c v j + ((0 : Nat) : Int) = cbg c v j by omega]; exact ml_l hJ5 hM) | (rw [show cbg c v j + ((k + 1 : Nat) : Int) = cbg c v j + (k : Int) + 1 by omega]; exact ml_A h.1.1 h.1.2.1 h.1.2.2.1 hv hon (by omega) (by omega) hx hM2 (by omega)) | (rw [show cbg c v j + ((k + 1 : Nat) : Int) = cbg c v j + (k : Int) + 1 by omega]; exact ml_B h.1.1 h.1.2.1 h.1.2.2.1 hv hon hjn (by omega) (by omega) hx hM2 (by omega) hJ1 hJ2 hJ5 (by first | rw [if_pos (by omega)] | rw [if_neg (by omega)]))) (by first | exact ml_L hL hJ5 | exact hL2 | exact ml_Lw (ml_Lw (ml_Lw hL2 (by decide) hJ1) (by decide) hJ2) (by decide) hJ5) (by omega)
            · skip
              refine mk_iloadn (nx := 152) X 2 d_Mo_lay_151 rfl rfl ?_
              refine mk_aloadn (nx := 153) X 0 d_Mo_lay_152 rfl rfl ?_
              refine mk_get (nx := 156) (v := .int (zi (Kw 0 12))) X 0 (by decide) (mh_Mo cs ad _) rfl in_Mo 12 (by decide) wd_607 rfl rfl d_Mo_lay_153 rfl ?_
              rw [show Kw 0 12 = c 0 6 from ((hO2.1 0 12 (by omega)).trans (i07))]
              refine mk_irem (nx := 157) X d_Mo_lay_156 (by omega) (by omega) (by omega) rfl ?_
              refine mk_goto (tgt := 161) X d_Mo_lay_157 (by decide) ?_
              refine mk_iadd (nx := 162) X d_Mo_lay_161 rfl ?_
              refine mk_nm (fun at_ hat_ => ?_)
              have hb := mlx_b h.1.1 h.1.2.1 h.1.2.2.1 hv hon (o := cbg c v j + (k : Int)) (by omega) (by omega)
              have hme : at_ = 1300 * (v : Int) + mlx c v (cbg c v j + (k : Int)) := by
                rw [hat_]
                unfold mlx
                first | rw [if_pos (by omega), Int.tmod_eq_emod_of_nonneg (by omega), ht2, Int.add_assoc (c (3 + v) 1)] | (rw [if_neg (by omega)]; omega)
              obtain ⟨x, hx⟩ : ∃ x : Nat, (x : Int) = mlx c v (cbg c v j + (k : Int)) := ⟨(mlx c v (cbg c v j + (k : Int))).toNat, by omega⟩
              obtain rfl : at_ = (1300 * (v : Int)) + (x : Int) := by omega
              have hxb : (x : Int) < an_end c := by omega
              have hMx := hM2 x hxb
              have hpb := cpl_b h.1.1 h.1.2.2.1 hv (x : Int)
              have h10 : -1 ≤ Kw 10 ((1300 * v) + x) ∧ Kw 10 ((1300 * v) + x) < 25 := by
                rw [hMx.1]
                split <;> omega
              refine mk_istore (nx := 164) X [(6, .int (zi ((1300 * (v : Int)) + (x : Int)))), (0, .ref (ad 0)), (1, .int (zi (v : Int))), (2, .int (zi t2)), (3, .int (zi (j : Int))), (4, .int (zi (cnt c v j : Int))), (5, .int (zi (k : Int)))] d_Mo_lay_162 (by decide) rfl rfl ?_
              refine mk_aloadn (nx := 165) X 1 d_Mo_lay_164 rfl rfl ?_
              refine mk_get (nx := 168) (v := .ref (ad 10)) X 0 (by decide) (mh_Mo cs ad _) rfl in_Mo 17 (by decide) wd_612 rfl rfl d_Mo_lay_165 rfl ?_
              refine mk_iload (nx := 170) X 0 d_Mo_lay_168 rfl rfl ?_
              refine mk_iald (nx := 171) (j := ((1300 * v) + x)) X 10 0 (by decide) (mh_noteAt cs ad _) rfl (by omega) (by omega) (by decide) (by omega) d_Mo_lay_170 rfl ?_
              refine mk_if_ge (tgt := 230) (nx := 174) X d_Mo_lay_171 (by omega) (by decide) rfl (fun c171 => ?_) (fun c171 => ?_)
              · skip
                refine mk_iinc (nx := 233) X 3 [(2, .int (zi (t2 + 1))), (6, .int (zi ((1300 * (v : Int)) + (x : Int)))), (0, .ref (ad 0)), (1, .int (zi (v : Int))), (3, .int (zi (j : Int))), (4, .int (zi (cnt c v j : Int))), (5, .int (zi (k : Int)))] d_Mo_lay_230 rfl (by decide) rfl rfl ?_
                refine mk_iinc (nx := 236) X 6 [(5, .int (zi ((k : Int) + 1))), (2, .int (zi (t2 + 1))), (6, .int (zi ((1300 * (v : Int)) + (x : Int)))), (0, .ref (ad 0)), (1, .int (zi (v : Int))), (3, .int (zi (j : Int))), (4, .int (zi (cnt c v j : Int)))] d_Mo_lay_233 rfl (by decide) rfl rfl ?_
                refine mk_goto (tgt := 120) X d_Mo_lay_236 (by decide) ?_
                refine mk_lv [3, 4, 1, 5, 6, 0] rfl ?_
                exact ih120 (k + 1) (t2 + 1) Kw (by omega) (by omega) (by omega) (by first | exact MlO_l hO (by omega) hKw | exact hO2 | exact MlO_w (MlO_w (MlO_w hO2 (by omega) (by omega) hKw) (by omega) (by omega) hKw) (by omega) (by omega) hKw) (by first | (rw [show cbg c v j + ((0 : Nat) : Int) = cbg c v j by omega]; exact ml_l hKw hM) | (rw [show cbg c v j + ((k + 1 : Nat) : Int) = cbg c v j + (k : Int) + 1 by omega]; exact ml_A h.1.1 h.1.2.1 h.1.2.2.1 hv hon (by omega) (by omega) hx hM2 (by omega)) | (rw [show cbg c v j + ((k + 1 : Nat) : Int) = cbg c v j + (k : Int) + 1 by omega]; exact ml_B h.1.1 h.1.2.1 h.1.2.2.1 hv hon hjn (by omega) (by omega) hx hM2 (by omega) hKw hKw hKw (by first | rw [if_pos (by omega)] | rw [if_neg (by omega)]))) (by first | exact ml_L hL hKw | exact hL2 | exact ml_Lw (ml_Lw (ml_Lw hL2 (by decide) hKw) (by decide) hKw) (by decide) hKw) (by omega)
              · skip
                refine mk_aloadn (nx := 175) X 1 d_Mo_lay_174 rfl rfl ?_
                refine mk_get (nx := 178) (v := .ref (ad 10)) X 0 (by decide) (mh_Mo cs ad _) rfl in_Mo 17 (by decide) wd_612 rfl rfl d_Mo_lay_175 rfl ?_
                refine mk_iload (nx := 180) X 0 d_Mo_lay_178 rfl rfl ?_
                refine mk_iloadn (nx := 181) X 4 d_Mo_lay_180 rfl rfl ?_
                refine mk_iast (nx := 182) (j := ((1300 * v) + x)) X 10 0 (by decide) (mh_noteAt cs ad) rfl (by omega) (by omega) (by decide) (by omega) d_Mo_lay_181 rfl ?_
                obtain ⟨J6, hJ6⟩ : ∃ W_ : Wo, W_ = up2 Kw 10 ((1300 * v) + x) (j : Int) := ⟨_, rfl⟩
                refine mk_same hJ6.symm ?_
                have hJ6s : J6 10 ((1300 * v) + x) = (j : Int) := hJ6 ▸ up2_ss Kw 10 ((1300 * v) + x) (j : Int)
                have hJ6o : ∀ a b, (a ≠ 10 ∨ b ≠ ((1300 * v) + x)) → J6 a b = Kw a b := hJ6 ▸ up2_o Kw 10 ((1300 * v) + x) (j : Int)
                refine mk_aloadn (nx := 183) X 1 d_Mo_lay_182 rfl rfl ?_
                refine mk_get (nx := 186) (v := .ref (ad 8)) X 0 (by decide) (mh_Mo cs ad _) rfl in_Mo 15 (by decide) wd_610 rfl rfl d_Mo_lay_183 rfl ?_
                refine mk_iload (nx := 188) X 0 d_Mo_lay_186 rfl rfl ?_
                refine mk_aloadn (nx := 189) X 1 d_Mo_lay_188 rfl rfl ?_
                refine mk_get (nx := 192) (v := .ref (ad 11)) X 0 (by decide) (mh_Mo cs ad _) rfl in_Mo 18 (by decide) wd_613 rfl rfl d_Mo_lay_189 rfl ?_
                refine mk_bipush (nx := 194) X d_Mo_lay_192 (by decide) rfl ?_
                refine mk_iloadn (nx := 195) X 2 d_Mo_lay_194 rfl rfl ?_
                refine mk_imul (nx := 196) X d_Mo_lay_195 rfl ?_
                refine mk_iloadn (nx := 197) X 4 d_Mo_lay_196 rfl rfl ?_
                refine mk_iadd (nx := 198) X d_Mo_lay_197 rfl ?_
                refine mk_iald (nx := 199) (j := ((24 * v) + j)) X 11 0 (by decide) (mh_line cs ad _) rfl (by omega) (by omega) (by decide) (by omega) d_Mo_lay_198 rfl ?_
                rw [show J6 11 ((24 * v) + j) = Kw 11 ((24 * v) + j) from hJ6o 11 ((24 * v) + j) (Or.inl (by decide))]
                rw [show Kw 11 ((24 * v) + j) = clp c v j from (hL2 j (by omega))]
                refine mk_iast (nx := 200) (j := ((1300 * v) + x)) X 8 0 (by decide) (mh_pitchAt cs ad) rfl (by omega) (by omega) (by decide) (by omega) d_Mo_lay_199 rfl ?_
                obtain ⟨J7, hJ7⟩ : ∃ W_ : Wo, W_ = up2 J6 8 ((1300 * v) + x) (clp c v j) := ⟨_, rfl⟩
                refine mk_same hJ7.symm ?_
                have hJ7s : J7 8 ((1300 * v) + x) = clp c v j := hJ7 ▸ up2_ss J6 8 ((1300 * v) + x) (clp c v j)
                have hJ7o : ∀ a b, (a ≠ 8 ∨ b ≠ ((1300 * v) + x)) → J7 a b = J6 a b := hJ7 ▸ up2_o J6 8 ((1300 * v) + x) (clp c v j)
                refine mk_aloadn (nx := 201) X 1 d_Mo_lay_200 rfl rfl ?_
                refine mk_get (nx := 204) (v := .ref (ad 9)) X 0 (by decide) (mh_Mo cs ad _) rfl in_Mo 16 (by decide) wd_611 rfl rfl d_Mo_lay_201 rfl ?_
                refine mk_iload (nx := 206) X 0 d_Mo_lay_204 rfl rfl ?_
                refine mk_iload (nx := 208) X 6 d_Mo_lay_206 rfl rfl ?_
                refine mk_if_ne (tgt := 228) (nx := 211) X d_Mo_lay_208 (by omega) (by decide) rfl (fun c208 => ?_) (fun c208 => ?_)
                · skip
                  refine mk_iconst (nx := 229) X d_Mo_lay_228 rfl ?_
                  refine mk_zast (nx := 230) (j := ((1300 * v) + x)) X 9 1 (by decide) (mh_struck cs ad) rfl (by omega) (by omega) (by decide) (by omega) (by omega) d_Mo_lay_229 rfl ?_
                  obtain ⟨J8, hJ8⟩ : ∃ W_ : Wo, W_ = up2 J7 9 ((1300 * v) + x) 0 := ⟨_, rfl⟩
                  refine mk_same hJ8.symm ?_
                  have hJ8s : J8 9 ((1300 * v) + x) = 0 := hJ8 ▸ up2_ss J7 9 ((1300 * v) + x) 0
                  have hJ8o : ∀ a b, (a ≠ 9 ∨ b ≠ ((1300 * v) + x)) → J8 a b = J7 a b := hJ8 ▸ up2_o J7 9 ((1300 * v) + x) 0
                  refine mk_iinc (nx := 233) X 3 [(2, .int (zi (t2 + 1))), (6, .int (zi ((1300 * (v : Int)) + (x : Int)))), (0, .ref (ad 0)), (1, .int (zi (v : Int))), (3, .int (zi (j : Int))), (4, .int (zi (cnt c v j : Int))), (5, .int (zi (k : Int)))] d_Mo_lay_230 rfl (by decide) rfl rfl ?_
                  refine mk_iinc (nx := 236) X 6 [(5, .int (zi ((k : Int) + 1))), (2, .int (zi (t2 + 1))), (6, .int (zi ((1300 * (v : Int)) + (x : Int)))), (0, .ref (ad 0)), (1, .int (zi (v : Int))), (3, .int (zi (j : Int))), (4, .int (zi (cnt c v j : Int)))] d_Mo_lay_233 rfl (by decide) rfl rfl ?_
                  refine mk_goto (tgt := 120) X d_Mo_lay_236 (by decide) ?_
                  refine mk_lv [3, 4, 1, 5, 6, 0] rfl ?_
                  exact ih120 (k + 1) (t2 + 1) J8 (by omega) (by omega) (by omega) (by first | exact MlO_l hO (by omega) hJ8 | exact hO2 | exact MlO_w (MlO_w (MlO_w hO2 (by omega) (by omega) hJ6) (by omega) (by omega) hJ7) (by omega) (by omega) hJ8) (by first | (rw [show cbg c v j + ((0 : Nat) : Int) = cbg c v j by omega]; exact ml_l hJ8 hM) | (rw [show cbg c v j + ((k + 1 : Nat) : Int) = cbg c v j + (k : Int) + 1 by omega]; exact ml_A h.1.1 h.1.2.1 h.1.2.2.1 hv hon (by omega) (by omega) hx hM2 (by omega)) | (rw [show cbg c v j + ((k + 1 : Nat) : Int) = cbg c v j + (k : Int) + 1 by omega]; exact ml_B h.1.1 h.1.2.1 h.1.2.2.1 hv hon hjn (by omega) (by omega) hx hM2 (by omega) hJ6 hJ7 hJ8 (by first | rw [if_pos (by omega)] | rw [if_neg (by omega)]))) (by first | exact ml_L hL hJ8 | exact hL2 | exact ml_Lw (ml_Lw (ml_Lw hL2 (by decide) hJ6) (by decide) hJ7) (by decide) hJ8) (by omega)
                · skip
                  refine mk_aloadn (nx := 212) X 1 d_Mo_lay_211 rfl rfl ?_
                  refine mk_get (nx := 215) (v := .ref (ad 8)) X 0 (by decide) (mh_Mo cs ad _) rfl in_Mo 15 (by decide) wd_610 rfl rfl d_Mo_lay_212 rfl ?_
                  refine mk_iload (nx := 217) X 0 d_Mo_lay_215 rfl rfl ?_
                  refine mk_iald (nx := 218) (j := ((1300 * v) + x)) X 8 0 (by decide) (mh_pitchAt cs ad _) rfl (by omega) (by omega) (by decide) (by omega) d_Mo_lay_217 rfl ?_
                  rw [hJ7s]
                  refine mk_sipush (nx := 221) X d_Mo_lay_218 (by decide) rfl ?_
                  refine mk_icmp_eq (tgt := 228) (nx := 224) X d_Mo_lay_221 (by omega) (by omega) (by decide) rfl (fun c221 => ?_) (fun c221 => ?_)
                  · skip
                    refine mk_iconst (nx := 229) X d_Mo_lay_228 rfl ?_
                    refine mk_zast (nx := 230) (j := ((1300 * v) + x)) X 9 1 (by decide) (mh_struck cs ad) rfl (by omega) (by omega) (by decide) (by omega) (by omega) d_Mo_lay_229 rfl ?_
                    obtain ⟨J9, hJ9⟩ : ∃ W_ : Wo, W_ = up2 J7 9 ((1300 * v) + x) 0 := ⟨_, rfl⟩
                    refine mk_same hJ9.symm ?_
                    have hJ9s : J9 9 ((1300 * v) + x) = 0 := hJ9 ▸ up2_ss J7 9 ((1300 * v) + x) 0
                    have hJ9o : ∀ a b, (a ≠ 9 ∨ b ≠ ((1300 * v) + x)) → J9 a b = J7 a b := hJ9 ▸ up2_o J7 9 ((1300 * v) + x) 0
                    refine mk_iinc (nx := 233) X 3 [(2, .int (zi (t2 + 1))), (6, .int (zi ((1300 * (v : Int)) + (x : Int)))), (0, .ref (ad 0)), (1, .int (zi (v : Int))), (3, .int (zi (j : Int))), (4, .int (zi (cnt c v j : Int))), (5, .int (zi (k : Int)))] d_Mo_lay_230 rfl (by decide) rfl rfl ?_
                    refine mk_iinc (nx := 236) X 6 [(5, .int (zi ((k : Int) + 1))), (2, .int (zi (t2 + 1))), (6, .int (zi ((1300 * (v : Int)) + (x : Int)))), (0, .ref (ad 0)), (1, .int (zi (v : Int))), (3, .int (zi (j : Int))), (4, .int (zi (cnt c v j : Int)))] d_Mo_lay_233 rfl (by decide) rfl rfl ?_
                    refine mk_goto (tgt := 120) X d_Mo_lay_236 (by decide) ?_
                    refine mk_lv [3, 4, 1, 5, 6, 0] rfl ?_
                    exact ih120 (k + 1) (t2 + 1) J9 (by omega) (by omega) (by omega) (by first | exact MlO_l hO (by omega) hJ9 | exact hO2 | exact MlO_w (MlO_w (MlO_w hO2 (by omega) (by omega) hJ6) (by omega) (by omega) hJ7) (by omega) (by omega) hJ9) (by first | (rw [show cbg c v j + ((0 : Nat) : Int) = cbg c v j by omega]; exact ml_l hJ9 hM) | (rw [show cbg c v j + ((k + 1 : Nat) : Int) = cbg c v j + (k : Int) + 1 by omega]; exact ml_A h.1.1 h.1.2.1 h.1.2.2.1 hv hon (by omega) (by omega) hx hM2 (by omega)) | (rw [show cbg c v j + ((k + 1 : Nat) : Int) = cbg c v j + (k : Int) + 1 by omega]; exact ml_B h.1.1 h.1.2.1 h.1.2.2.1 hv hon hjn (by omega) (by omega) hx hM2 (by omega) hJ6 hJ7 hJ9 (by first | rw [if_pos (by omega)] | rw [if_neg (by omega)]))) (by first | exact ml_L hL hJ9 | exact hL2 | exact ml_Lw (ml_Lw (ml_Lw hL2 (by decide) hJ6) (by decide) hJ7) (by decide) hJ9) (by omega)
                  · skip
                    refine mk_iconst (nx := 225) X d_Mo_lay_224 rfl ?_
                    refine mk_goto (tgt := 229) X d_Mo_lay_225 (by decide) ?_
                    refine mk_zast (nx := 230) (j := ((1300 * v) + x)) X 9 1 (by decide) (mh_struck cs ad) rfl (by omega) (by omega) (by decide) (by omega) (by omega) d_Mo_lay_229 rfl ?_
                    obtain ⟨J10, hJ10⟩ : ∃ W_ : Wo, W_ = up2 J7 9 ((1300 * v) + x) 1 := ⟨_, rfl⟩
                    refine mk_same hJ10.symm ?_
                    have hJ10s : J10 9 ((1300 * v) + x) = 1 := hJ10 ▸ up2_ss J7 9 ((1300 * v) + x) 1
                    have hJ10o : ∀ a b, (a ≠ 9 ∨ b ≠ ((1300 * v) + x)) → J10 a b = J7 a b := hJ10 ▸ up2_o J7 9 ((1300 * v) + x) 1
                    refine mk_iinc (nx := 233) X 3 [(2, .int (zi (t2 + 1))), (6, .int (zi ((1300 * (v : Int)) + (x : Int)))), (0, .ref (ad 0)), (1, .int (zi (v : Int))), (3, .int (zi (j : Int))), (4, .int (zi (cnt c v j : Int))), (5, .int (zi (k : Int)))] d_Mo_lay_230 rfl (by decide) rfl rfl ?_
                    refine mk_iinc (nx := 236) X 6 [(5, .int (zi ((k : Int) + 1))), (2, .int (zi (t2 + 1))), (6, .int (zi ((1300 * (v : Int)) + (x : Int)))), (0, .ref (ad 0)), (1, .int (zi (v : Int))), (3, .int (zi (j : Int))), (4, .int (zi (cnt c v j : Int)))] d_Mo_lay_233 rfl (by decide) rfl rfl ?_
                    refine mk_goto (tgt := 120) X d_Mo_lay_236 (by decide) ?_
                    refine mk_lv [3, 4, 1, 5, 6, 0] rfl ?_
                    exact ih120 (k + 1) (t2 + 1) J10 (by omega) (by omega) (by omega) (by first | exact MlO_l hO (by omega) hJ10 | exact hO2 | exact MlO_w (MlO_w (MlO_w hO2 (by omega) (by omega) hJ6) (by omega) (by omega) hJ7) (by omega) (by omega) hJ10) (by first | (rw [show cbg c v j + ((0 : Nat) : Int) = cbg c v j by omega]; exact ml_l hJ10 hM) | (rw [show cbg c v j + ((k + 1 : Nat) : Int) = cbg c v j + (k : Int) + 1 by omega]; exact ml_A h.1.1 h.1.2.1 h.1.2.2.1 hv hon (by omega) (by omega) hx hM2 (by omega)) | (rw [show cbg c v j + ((k + 1 : Nat) : Int) = cbg c v j + (k : Int) + 1 by omega]; exact ml_B h.1.1 h.1.2.1 h.1.2.2.1 hv hon hjn (by omega) (by omega) hx hM2 (by omega) hJ6 hJ7 hJ10 (by first | rw [if_pos (by omega)] | rw [if_neg (by omega)]))) (by first | exact ml_L hL hJ10 | exact hL2 | exact ml_Lw (ml_Lw (ml_Lw hL2 (by decide) hJ6) (by decide) hJ7) (by decide) hJ10) (by omega)
      refine mk_iloadn (nx := 67) X 3 d_Mo_lay_66 rfl rfl ?_
      refine mk_aloadn (nx := 68) X 0 d_Mo_lay_67 rfl rfl ?_
      refine mk_get (nx := 71) (v := .int (zi (J 0 2))) X 0 (by decide) (mh_Mo cs ad _) rfl in_Mo 2 (by decide) wd_597 rfl rfl d_Mo_lay_68 rfl ?_
      rw [show J 0 2 = c 0 0 from ((hO.1 0 2 (by omega)).trans i12)]
      refine mk_icmp_ge (tgt := 245) (nx := 74) X d_Mo_lay_71 (by omega) (by omega) (by decide) rfl (fun c71 => ?_) (fun c71 => ?_)
      · skip
        exact hret _ _ _ d_Mo_lay_245 (by exact ⟨hO, by rw [← show j = cn c by omega]; exact hL, ml_end h.1.1 h.1.2.2.1 hv (by rw [← show j = cn c by omega]; exact hM)⟩)
      · skip
        have hjn : j < cn c := by omega
        have hcl := cnt_lt (c := c) (v := v) hjn
        have hst0 := cbg_s (c := c) (v := v) j
        have hsp0 := cbg_step h.1.1 h.1.2.2.1 hv hjn
        refine mk_aloadn (nx := 75) X 0 d_Mo_lay_74 rfl rfl ?_
        refine mk_get (nx := 78) (v := .ref (ad 6)) X 0 (by decide) (mh_Mo cs ad _) rfl in_Mo 6 (by decide) wd_601 rfl rfl d_Mo_lay_75 rfl ?_
        refine mk_iloadn (nx := 79) X 1 d_Mo_lay_78 rfl rfl ?_
        refine mk_iald (nx := 80) (j := v) X 6 0 (by decide) (mh_modes cs ad _) rfl (by omega) (by omega) (by decide) rfl d_Mo_lay_79 rfl ?_
        rw [show J 6 v = c (3 + v) 3 from ((hO.1 6 v (by omega)).trans (iV v hv).2.2.2.1)]
        refine mk_iconst (nx := 81) X d_Mo_lay_80 rfl ?_
        refine mk_iand (nx := 82) X d_Mo_lay_81 rfl ?_
        refine mk_if_le (tgt := 96) (nx := 85) X d_Mo_lay_82 (by exact zi_rng _) (by decide) rfl (fun c82 => ?_) (fun c82 => ?_)
        · skip
          refine mk_iloadn (nx := 97) X 3 d_Mo_lay_96 rfl rfl ?_
          refine mk_nm (fun nn hnn => ?_)
          obtain rfl : nn = (cnt c v j : Int) := by
            first | (unfold cnt nt; rw [if_pos (by omega)]; omega) | (unfold cnt nt; rw [if_neg (by omega)]; omega)
          refine mk_istore (nx := 99) X [(4, .int (zi (cnt c v j : Int))), (0, .ref (ad 0)), (1, .int (zi (v : Int))), (2, .int (zi t)), (3, .int (zi (j : Int)))] d_Mo_lay_97 (by decide) rfl rfl ?_
          refine mk_aloadn (nx := 100) X 1 d_Mo_lay_99 rfl rfl ?_
          refine mk_get (nx := 103) (v := .ref (ad 11)) X 0 (by decide) (mh_Mo cs ad _) rfl in_Mo 18 (by decide) wd_613 rfl rfl d_Mo_lay_100 rfl ?_
          refine mk_bipush (nx := 105) X d_Mo_lay_103 (by decide) rfl ?_
          refine mk_iloadn (nx := 106) X 2 d_Mo_lay_105 rfl rfl ?_
          refine mk_imul (nx := 107) X d_Mo_lay_106 rfl ?_
          refine mk_iloadn (nx := 108) X 4 d_Mo_lay_107 rfl rfl ?_
          refine mk_iadd (nx := 109) X d_Mo_lay_108 rfl ?_
          refine mk_aloadn (nx := 110) X 1 d_Mo_lay_109 rfl rfl ?_
          refine mk_iloadn (nx := 111) X 2 d_Mo_lay_110 rfl rfl ?_
          refine mk_iload (nx := 113) X 0 d_Mo_lay_111 rfl rfl ?_
          refine mk_callVi (nx := 116) (n := 2) (As := [.int (zi (v : Int)), .int (zi (cnt c v j : Int))]) (rest := [.int (zi ((24 * (v : Int)) + (j : Int))), .ref (ad 11)]) X 0 (by decide) (mh_Mo cs ad _) rfl (c_Mo_pitchOf l D cs ad hi c J (moR_ml hO h) v hv (cnt c v j) hcl) (g_Mo_pitchOf wd_756) rfl ⟨rfl, rfl⟩ (by decide +kernel) ⟨by decide, by decide⟩ rfl (Nat.le_of_ble_eq_true rfl) rfl d_Mo_lay_113 rfl ?_
          intro r113 J11 hJ11
          obtain ⟨rfl, rfl⟩ := hJ11
          refine mk_iast (nx := 117) (j := ((24 * v) + j)) X 11 0 (by decide) (mh_line cs ad) rfl (by omega) (by omega) (by decide) (by omega) d_Mo_lay_116 rfl ?_
          obtain ⟨J12, hJ12⟩ : ∃ W_ : Wo, W_ = up2 J 11 ((24 * v) + j) (clp c v j) := ⟨_, rfl⟩
          refine mk_same hJ12.symm ?_
          have hJ12s : J12 11 ((24 * v) + j) = clp c v j := hJ12 ▸ up2_ss J 11 ((24 * v) + j) (clp c v j)
          have hJ12o : ∀ a b, (a ≠ 11 ∨ b ≠ ((24 * v) + j)) → J12 a b = J a b := hJ12 ▸ up2_o J 11 ((24 * v) + j) (clp c v j)
          refine mk_iconst (nx := 118) X d_Mo_lay_117 rfl ?_
          refine mk_istore (nx := 120) X [(5, .int (zi 0)), (4, .int (zi (cnt c v j : Int))), (0, .ref (ad 0)), (1, .int (zi (v : Int))), (2, .int (zi t)), (3, .int (zi (j : Int)))] d_Mo_lay_118 (by decide) rfl rfl ?_
          refine mk_lv [2, 3, 4, 5, 1, 0] rfl ?_
          exact L120 _ 0 t J12 (by omega) (by omega) (by omega) (by first | exact MlO_l hO (by omega) hJ12 | exact hO2 | exact MlO_w (MlO_w (MlO_w hO2 (by omega) (by omega) hJ12) (by omega) (by omega) hJ) (by omega) (by omega) hJ12) (by first | (rw [show cbg c v j + ((0 : Nat) : Int) = cbg c v j by omega]; exact ml_l hJ12 hM) | (rw [show cbg c v j + ((k + 1 : Nat) : Int) = cbg c v j + (k : Int) + 1 by omega]; exact ml_A h.1.1 h.1.2.1 h.1.2.2.1 hv hon (by omega) (by omega) hx hM2 (by omega)) | (rw [show cbg c v j + ((k + 1 : Nat) : Int) = cbg c v j + (k : Int) + 1 by omega]; exact ml_B h.1.1 h.1.2.1 h.1.2.2.1 hv hon hjn (by omega) (by omega) hx hM2 (by omega) hJ12 hJ hJ12 (by first | rw [if_pos (by omega)] | rw [if_neg (by omega)]))) (by first | exact ml_L hL hJ12 | exact hL2 | exact ml_Lw (ml_Lw (ml_Lw hL2 (by decide) hJ12) (by decide) hJ) (by decide) hJ12) (Nat.lt_succ_self _)
        · skip
          refine mk_aloadn (nx := 86) X 0 d_Mo_lay_85 rfl rfl ?_
          refine mk_get (nx := 89) (v := .int (zi (J 0 2))) X 0 (by decide) (mh_Mo cs ad _) rfl in_Mo 2 (by decide) wd_597 rfl rfl d_Mo_lay_86 rfl ?_
          rw [show J 0 2 = c 0 0 from ((hO.1 0 2 (by omega)).trans i12)]
          refine mk_iconst (nx := 90) X d_Mo_lay_89 rfl ?_
          refine mk_isub (nx := 91) X d_Mo_lay_90 rfl ?_
          refine mk_iloadn (nx := 92) X 3 d_Mo_lay_91 rfl rfl ?_
          refine mk_isub (nx := 93) X d_Mo_lay_92 rfl ?_
          refine mk_goto (tgt := 97) X d_Mo_lay_93 (by decide) ?_
          refine mk_nm (fun nn hnn => ?_)
          obtain rfl : nn = (cnt c v j : Int) := by
            first | (unfold cnt nt; rw [if_pos (by omega)]; omega) | (unfold cnt nt; rw [if_neg (by omega)]; omega)
          refine mk_istore (nx := 99) X [(4, .int (zi (cnt c v j : Int))), (0, .ref (ad 0)), (1, .int (zi (v : Int))), (2, .int (zi t)), (3, .int (zi (j : Int)))] d_Mo_lay_97 (by decide) rfl rfl ?_
          refine mk_aloadn (nx := 100) X 1 d_Mo_lay_99 rfl rfl ?_
          refine mk_get (nx := 103) (v := .ref (ad 11)) X 0 (by decide) (mh_Mo cs ad _) rfl in_Mo 18 (by decide) wd_613 rfl rfl d_Mo_lay_100 rfl ?_
          refine mk_bipush (nx := 105) X d_Mo_lay_103 (by decide) rfl ?_
          refine mk_iloadn (nx := 106) X 2 d_Mo_lay_105 rfl rfl ?_
          refine mk_imul (nx := 107) X d_Mo_lay_106 rfl ?_
          refine mk_iloadn (nx := 108) X 4 d_Mo_lay_107 rfl rfl ?_
          refine mk_iadd (nx := 109) X d_Mo_lay_108 rfl ?_
          refine mk_aloadn (nx := 110) X 1 d_Mo_lay_109 rfl rfl ?_
          refine mk_iloadn (nx := 111) X 2 d_Mo_lay_110 rfl rfl ?_
          refine mk_iload (nx := 113) X 0 d_Mo_lay_111 rfl rfl ?_
          refine mk_callVi (nx := 116) (n := 2) (As := [.int (zi (v : Int)), .int (zi (cnt c v j : Int))]) (rest := [.int (zi ((24 * (v : Int)) + (j : Int))), .ref (ad 11)]) X 0 (by decide) (mh_Mo cs ad _) rfl (c_Mo_pitchOf l D cs ad hi c J (moR_ml hO h) v hv (cnt c v j) hcl) (g_Mo_pitchOf wd_756) rfl ⟨rfl, rfl⟩ (by decide +kernel) ⟨by decide, by decide⟩ rfl (Nat.le_of_ble_eq_true rfl) rfl d_Mo_lay_113 rfl ?_
          intro r113 J13 hJ13
          obtain ⟨rfl, rfl⟩ := hJ13
          refine mk_iast (nx := 117) (j := ((24 * v) + j)) X 11 0 (by decide) (mh_line cs ad) rfl (by omega) (by omega) (by decide) (by omega) d_Mo_lay_116 rfl ?_
          obtain ⟨J14, hJ14⟩ : ∃ W_ : Wo, W_ = up2 J 11 ((24 * v) + j) (clp c v j) := ⟨_, rfl⟩
          refine mk_same hJ14.symm ?_
          have hJ14s : J14 11 ((24 * v) + j) = clp c v j := hJ14 ▸ up2_ss J 11 ((24 * v) + j) (clp c v j)
          have hJ14o : ∀ a b, (a ≠ 11 ∨ b ≠ ((24 * v) + j)) → J14 a b = J a b := hJ14 ▸ up2_o J 11 ((24 * v) + j) (clp c v j)
          refine mk_iconst (nx := 118) X d_Mo_lay_117 rfl ?_
          refine mk_istore (nx := 120) X [(5, .int (zi 0)), (4, .int (zi (cnt c v j : Int))), (0, .ref (ad 0)), (1, .int (zi (v : Int))), (2, .int (zi t)), (3, .int (zi (j : Int)))] d_Mo_lay_118 (by decide) rfl rfl ?_
          refine mk_lv [2, 3, 4, 5, 1, 0] rfl ?_
          exact L120 _ 0 t J14 (by omega) (by omega) (by omega) (by first | exact MlO_l hO (by omega) hJ14 | exact hO2 | exact MlO_w (MlO_w (MlO_w hO2 (by omega) (by omega) hJ14) (by omega) (by omega) hJ) (by omega) (by omega) hJ14) (by first | (rw [show cbg c v j + ((0 : Nat) : Int) = cbg c v j by omega]; exact ml_l hJ14 hM) | (rw [show cbg c v j + ((k + 1 : Nat) : Int) = cbg c v j + (k : Int) + 1 by omega]; exact ml_A h.1.1 h.1.2.1 h.1.2.2.1 hv hon (by omega) (by omega) hx hM2 (by omega)) | (rw [show cbg c v j + ((k + 1 : Nat) : Int) = cbg c v j + (k : Int) + 1 by omega]; exact ml_B h.1.1 h.1.2.1 h.1.2.2.1 hv hon hjn (by omega) (by omega) hx hM2 (by omega) hJ14 hJ hJ14 (by first | rw [if_pos (by omega)] | rw [if_neg (by omega)]))) (by first | exact ml_L hL hJ14 | exact hL2 | exact ml_Lw (ml_Lw (ml_Lw hL2 (by decide) hJ14) (by decide) hJ) (by decide) hJ14) (Nat.lt_succ_self _)
  have L9 : ∀ nf : Nat, ∀ (k : Nat) (J : Wo), ((k : Int) ≤ an_end c) → (MlO I J v) → (∀ x : Nat, x < k → J 10 (1300 * v + x) = -1 ∧ J 8 (1300 * v + x) = 1000 ∧ J 9 (1300 * v + x) = 0) → 1300 - k < nf → mk_A p_ l e_ rm_Mo_lay s_ m_ as_ bl_ me_ co_ Q_ 7 D cmcl (mo_sh cs ad) 16 16 ad J [(0, .ref (ad 0)), (1, .int (zi (v : Int))), (2, .int (zi (c (3 + v) 1))), (3, .int (zi (k : Int)))] 9 [] := by
    intro nf
    induction nf with
    | zero => intro k J hk hO hC hn; exact absurd hn (Nat.not_lt_zero _)
    | succ nf ih9 =>
      intro k J hk hO hC hn9
      refine mk_iloadn (nx := 10) X 3 d_Mo_lay_9 rfl rfl ?_
      refine mk_aloadn (nx := 11) X 0 d_Mo_lay_10 rfl rfl ?_
      refine mk_get (nx := 14) (v := .int (zi (J 0 19))) X 0 (by decide) (mh_Mo cs ad _) rfl in_Mo 19 (by decide) wd_614 rfl rfl d_Mo_lay_11 rfl ?_
      rw [show J 0 19 = an_end c from ((hO.1 0 19 (by omega)).trans hT)]
      refine mk_icmp_ge (tgt := 64) (nx := 17) X d_Mo_lay_14 (by omega) (by omega) (by decide) rfl (fun c14 => ?_) (fun c14 => ?_)
      · skip
        refine mk_iconst (nx := 65) X d_Mo_lay_64 rfl ?_
        refine mk_istoren (nx := 66) X [(3, .int (zi 0)), (0, .ref (ad 0)), (1, .int (zi (v : Int))), (2, .int (zi (c (3 + v) 1)))] d_Mo_lay_65 (by decide) rfl rfl ?_
        refine mk_lv [1, 2, 3, 0] rfl ?_
        exact L66 _ 0 (c (3 + v) 1) J (by omega) (by first | (rw [cbg_0]; omega) | omega) (by first | exact hO | exact hO2) (by first | exact ml_0 (fun x hx => hC x (by omega)) | (rw [hst, ← show (k : Int) = c 2 (cnt c v j) * c (3 + v) 4 by omega]; exact hM2)) (by first | exact lt_0 | exact hL2) (Nat.lt_succ_self _)
      · skip
        refine mk_aloadn (nx := 18) X 0 d_Mo_lay_17 rfl rfl ?_
        refine mk_get (nx := 21) (v := .ref (ad 8)) X 0 (by decide) (mh_Mo cs ad _) rfl in_Mo 15 (by decide) wd_610 rfl rfl d_Mo_lay_18 rfl ?_
        refine mk_sipush (nx := 24) X d_Mo_lay_21 (by decide) rfl ?_
        refine mk_iloadn (nx := 25) X 1 d_Mo_lay_24 rfl rfl ?_
        refine mk_imul (nx := 26) X d_Mo_lay_25 rfl ?_
        refine mk_iloadn (nx := 27) X 3 d_Mo_lay_26 rfl rfl ?_
        refine mk_iadd (nx := 28) X d_Mo_lay_27 rfl ?_
        refine mk_sipush (nx := 31) X d_Mo_lay_28 (by decide) rfl ?_
        refine mk_iast (nx := 32) (j := ((1300 * v) + k)) X 8 0 (by decide) (mh_pitchAt cs ad) rfl (by omega) (by omega) (by decide) (by omega) d_Mo_lay_31 rfl ?_
        obtain ⟨J15, hJ15⟩ : ∃ W_ : Wo, W_ = up2 J 8 ((1300 * v) + k) 1000 := ⟨_, rfl⟩
        refine mk_same hJ15.symm ?_
        have hJ15s : J15 8 ((1300 * v) + k) = 1000 := hJ15 ▸ up2_ss J 8 ((1300 * v) + k) 1000
        have hJ15o : ∀ a b, (a ≠ 8 ∨ b ≠ ((1300 * v) + k)) → J15 a b = J a b := hJ15 ▸ up2_o J 8 ((1300 * v) + k) 1000
        refine mk_aloadn (nx := 33) X 0 d_Mo_lay_32 rfl rfl ?_
        refine mk_get (nx := 36) (v := .ref (ad 9)) X 0 (by decide) (mh_Mo cs ad _) rfl in_Mo 16 (by decide) wd_611 rfl rfl d_Mo_lay_33 rfl ?_
        refine mk_sipush (nx := 39) X d_Mo_lay_36 (by decide) rfl ?_
        refine mk_iloadn (nx := 40) X 1 d_Mo_lay_39 rfl rfl ?_
        refine mk_imul (nx := 41) X d_Mo_lay_40 rfl ?_
        refine mk_iloadn (nx := 42) X 3 d_Mo_lay_41 rfl rfl ?_
        refine mk_iadd (nx := 43) X d_Mo_lay_42 rfl ?_
        refine mk_iconst (nx := 44) X d_Mo_lay_43 rfl ?_
        refine mk_zast (nx := 45) (j := ((1300 * v) + k)) X 9 1 (by decide) (mh_struck cs ad) rfl (by omega) (by omega) (by decide) (by omega) (by omega) d_Mo_lay_44 rfl ?_
        obtain ⟨J16, hJ16⟩ : ∃ W_ : Wo, W_ = up2 J15 9 ((1300 * v) + k) 0 := ⟨_, rfl⟩
        refine mk_same hJ16.symm ?_
        have hJ16s : J16 9 ((1300 * v) + k) = 0 := hJ16 ▸ up2_ss J15 9 ((1300 * v) + k) 0
        have hJ16o : ∀ a b, (a ≠ 9 ∨ b ≠ ((1300 * v) + k)) → J16 a b = J15 a b := hJ16 ▸ up2_o J15 9 ((1300 * v) + k) 0
        refine mk_aloadn (nx := 46) X 0 d_Mo_lay_45 rfl rfl ?_
        refine mk_get (nx := 49) (v := .ref (ad 10)) X 0 (by decide) (mh_Mo cs ad _) rfl in_Mo 17 (by decide) wd_612 rfl rfl d_Mo_lay_46 rfl ?_
        refine mk_sipush (nx := 52) X d_Mo_lay_49 (by decide) rfl ?_
        refine mk_iloadn (nx := 53) X 1 d_Mo_lay_52 rfl rfl ?_
        refine mk_imul (nx := 54) X d_Mo_lay_53 rfl ?_
        refine mk_iloadn (nx := 55) X 3 d_Mo_lay_54 rfl rfl ?_
        refine mk_iadd (nx := 56) X d_Mo_lay_55 rfl ?_
        refine mk_iconst (nx := 57) X d_Mo_lay_56 rfl ?_
        refine mk_iast (nx := 58) (j := ((1300 * v) + k)) X 10 0 (by decide) (mh_noteAt cs ad) rfl (by omega) (by omega) (by decide) (by omega) d_Mo_lay_57 rfl ?_
        obtain ⟨J17, hJ17⟩ : ∃ W_ : Wo, W_ = up2 J16 10 ((1300 * v) + k) (-1) := ⟨_, rfl⟩
        refine mk_same hJ17.symm ?_
        have hJ17s : J17 10 ((1300 * v) + k) = (-1) := hJ17 ▸ up2_ss J16 10 ((1300 * v) + k) (-1)
        have hJ17o : ∀ a b, (a ≠ 10 ∨ b ≠ ((1300 * v) + k)) → J17 a b = J16 a b := hJ17 ▸ up2_o J16 10 ((1300 * v) + k) (-1)
        refine mk_iinc (nx := 61) X 3 [(3, .int (zi ((k : Int) + 1))), (0, .ref (ad 0)), (1, .int (zi (v : Int))), (2, .int (zi (c (3 + v) 1)))] d_Mo_lay_58 rfl (by decide) rfl rfl ?_
        refine mk_goto (tgt := 9) X d_Mo_lay_61 (by decide) ?_
        refine mk_lv [1, 2, 3, 0] rfl ?_
        exact ih9 (k + 1) J17 (by omega) (by first | exact MlO_rf | exact MlO_w (MlO_w (MlO_w hO (by omega) (by omega) hJ15) (by omega) (by omega) hJ16) (by omega) (by omega) hJ17) (by first | exact lt_0 | exact ml_c hC hJ15 hJ16 hJ17) (by omega)
  refine mk_aloadn (nx := 1) X 0 d_Mo_lay_0 rfl rfl ?_
  refine mk_get (nx := 4) (v := .ref (ad 4)) X 0 (by decide) (mh_Mo cs ad _) rfl in_Mo 4 (by decide) wd_599 rfl rfl d_Mo_lay_1 rfl ?_
  refine mk_iloadn (nx := 5) X 1 d_Mo_lay_4 rfl rfl ?_
  refine mk_iald (nx := 6) (j := v) X 4 0 (by decide) (mh_delays cs ad _) rfl (by omega) (by omega) (by decide) rfl d_Mo_lay_5 rfl ?_
  rw [show I 4 v = c (3 + v) 1 from (iV v hv).2.1]
  refine mk_istoren (nx := 7) X [(2, .int (zi (c (3 + v) 1))), (0, .ref (ad 0)), (1, .int (zi (v : Int)))] d_Mo_lay_6 (by decide) rfl rfl ?_
  refine mk_iconst (nx := 8) X d_Mo_lay_7 rfl ?_
  refine mk_istoren (nx := 9) X [(3, .int (zi 0)), (2, .int (zi (c (3 + v) 1))), (0, .ref (ad 0)), (1, .int (zi (v : Int)))] d_Mo_lay_8 (by decide) rfl rfl ?_
  refine mk_lv [2, 3, 1, 0] rfl ?_
  exact L9 _ 0 I (by omega) (by first | exact MlO_rf | exact MlO_w (MlO_w (MlO_w hO (by omega) (by omega) hI) (by omega) (by omega) hI) (by omega) (by omega) hI) (by first | exact lt_0 | exact ml_c hC hI hI hI) (Nat.lt_succ_self _)
