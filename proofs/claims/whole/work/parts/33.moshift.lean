section MT
variable {c I J J1 J2 K1 K2 K3 : Wo} {u k d : Nat} {i x y : Int}
theorem on_step (f3 : ∀ j, j < 4 → J 3 j = if 1 ≤ j ∧ j < k then (if j = u then 1 else 0) else c (3 + j) 0) (e1 : J1 = up2 J 15 k x) (e2 : J2 = up2 J1 3 k y) (hy : y = if k = u then 1 else 0) (hk : 1 ≤ k) : ∀ j, j < 4 → J2 3 j = if 1 ≤ j ∧ j < k + 1 then (if j = u then 1 else 0) else c (3 + j) 0 := by
  intro j hj
  by_cases e : j = k
  · rw [e, e2, up2_ss, if_pos (show 1 ≤ k ∧ k < k + 1 by omega)]; exact hy
  · rw [e2, up2_o _ _ _ _ _ _ (Or.inr e), e1, up2_o _ _ _ _ _ _ (by omega), f3 j hj]
    by_cases z : 1 ≤ j ∧ j < k
    · rw [if_pos z, if_pos (show 1 ≤ j ∧ j < k + 1 by omega)]
    · rw [if_neg z, if_neg (show ¬ (1 ≤ j ∧ j < k + 1) by omega)]
theorem were_step (f15 : ∀ j, 1 ≤ j → j < k → J 15 j = c (3 + j) 0) (e1 : J1 = up2 J 15 k x) (e2 : J2 = up2 J1 3 k y) (hx : x = c (3 + k) 0) : ∀ j, 1 ≤ j → j < k + 1 → J2 15 j = c (3 + j) 0 := by
  intro j h1 h2
  rw [e2, up2_o _ _ _ _ _ _ (by omega), e1]
  by_cases e : j = k
  · rw [e, up2_ss]; exact hx
  · rw [up2_o _ _ _ _ _ _ (Or.inr e)]; exact f15 j h1 (by omega)
theorem ms_size {L : List (Int × Int)} {dd : Int} (hu : 1 ≤ u ∧ u < 4) : an_size (swl (scf c u dd i) L) = an_size c := by
  rw [swl_rl.size]
  unfold an_size
  rw [scf_0 (by omega) hu, show scf c u dd i 2 = c 2 from funext (fun b => scf_0 (by omega) hu)]
theorem ms_yes (hM : MsI c I J u (shl c u (25 * d + (i + 12).toNat))) (hk : k = (shl c u (25 * d + (i + 12).toNat)).length) (e1 : K1 = up2 J 13 k (d : Int)) (e2 : K2 = up2 K1 14 k i) (e3 : K3 = up2 K2 0 27 ((k : Int) + 1)) (hi : -12 ≤ i ∧ i ≤ 12) (hc : FL (scf c u d i) = []) : MsI c I K3 u (shl c u (25 * d + (i + 1 + 12).toNat)) := by
  rw [show 25 * d + (i + 1 + 12).toNat = 25 * d + (i + 12).toNat + 1 by omega, shl_at (d := (d : Int)) (i := i) (by omega) (by omega) hi, if_pos (cln_y hc)]
  exact ms_add hM hk e1 e2 e3
theorem ms_no (hM : MsI c I J u (shl c u (25 * d + (i + 12).toNat))) (hi : -12 ≤ i ∧ i ≤ 12) (hc : ¬ FL (scf c u d i) = []) : MsI c I J u (shl c u (25 * d + (i + 1 + 12).toNat)) := by
  rw [show 25 * d + (i + 1 + 12).toNat = 25 * d + (i + 12).toNat + 1 by omega, shl_at (d := (d : Int)) (i := i) (by omega) (by omega) hi, if_neg (by rw [cln_n hc]; simp), List.append_nil]
  exact hM
theorem shfR_ok (hu : 1 ≤ u ∧ u < 4) (ho : okS c u) : shfR c (u : Int) ((shl c u (25 * ((mxd c).toNat + 1))).length : Int) (swl c (shl c u (25 * ((mxd c).toNat + 1)))) := Or.inr (Or.inr ⟨by omega, ho, rfl, rfl⟩)
theorem shfR_no (hu : 1 ≤ u ∧ u < 4) (ho : ¬ okS c u) : shfR c (u : Int) (-3) c := Or.inr (Or.inl ⟨by omega, ho, rfl, rfl⟩)
theorem tl_0 (hV : wfV c) : tl c 0 ↔ (0 < c 0 6 ∧ c 0 6 < an_size c) := by
  have h1 : c (3 + 0) 0 = 1 := hV.2.1
  have h2 : c (3 + 0) 4 = 1 := hV.2.2.2.2.2
  unfold tl
  rw [h1, h2, Int.mul_one]
  simp
theorem mxd_b (h : wfN c) : 0 ≤ mxd c ∧ mxd c ≤ 100 := by
  have := an_size_b h
  unfold mxd
  omega
end MT

-- CanonMakerModel.shifts(I)I
theorem d_Mo_shifts_0 : decode prog_9_method_36_code 0 = .ok (.iload_n 1, 1) := by decide +kernel
theorem d_Mo_shifts_1 : decode prog_9_method_36_code 1 = .ok (.iconst 1, 1) := by decide +kernel
theorem d_Mo_shifts_2 : decode prog_9_method_36_code 2 = .ok (.if_icmp .lt 8, 3) := by decide +kernel
theorem d_Mo_shifts_5 : decode prog_9_method_36_code 5 = .ok (.iload_n 1, 1) := by decide +kernel
theorem d_Mo_shifts_6 : decode prog_9_method_36_code 6 = .ok (.iconst 3, 1) := by decide +kernel
theorem d_Mo_shifts_7 : decode prog_9_method_36_code 7 = .ok (.if_icmp .le 5, 3) := by decide +kernel
theorem d_Mo_shifts_10 : decode prog_9_method_36_code 10 = .ok (.iconst (-1), 1) := by decide +kernel
theorem d_Mo_shifts_11 : decode prog_9_method_36_code 11 = .ok (.ireturn, 1) := by decide +kernel
theorem d_Mo_shifts_12 : decode prog_9_method_36_code 12 = .ok (.iconst 0, 1) := by decide +kernel
theorem d_Mo_shifts_13 : decode prog_9_method_36_code 13 = .ok (.istore_n 2, 1) := by decide +kernel
theorem d_Mo_shifts_14 : decode prog_9_method_36_code 14 = .ok (.iconst 0, 1) := by decide +kernel
theorem d_Mo_shifts_15 : decode prog_9_method_36_code 15 = .ok (.istore_n 3, 1) := by decide +kernel
theorem d_Mo_shifts_16 : decode prog_9_method_36_code 16 = .ok (.iload_n 3, 1) := by decide +kernel
theorem d_Mo_shifts_17 : decode prog_9_method_36_code 17 = .ok (.aload_n 0, 1) := by decide +kernel
theorem d_Mo_shifts_18 : decode prog_9_method_36_code 18 = .ok (.getfield 66, 3) := by decide +kernel
theorem d_Mo_shifts_21 : decode prog_9_method_36_code 21 = .ok (.if_icmp .ge 30, 3) := by decide +kernel
theorem d_Mo_shifts_24 : decode prog_9_method_36_code 24 = .ok (.iload_n 2, 1) := by decide +kernel
theorem d_Mo_shifts_25 : decode prog_9_method_36_code 25 = .ok (.ifCond .ne 14, 3) := by decide +kernel
theorem d_Mo_shifts_28 : decode prog_9_method_36_code 28 = .ok (.aload_n 0, 1) := by decide +kernel
theorem d_Mo_shifts_29 : decode prog_9_method_36_code 29 = .ok (.getfield 7, 3) := by decide +kernel
theorem d_Mo_shifts_32 : decode prog_9_method_36_code 32 = .ok (.iload_n 3, 1) := by decide +kernel
theorem d_Mo_shifts_33 : decode prog_9_method_36_code 33 = .ok (.iaload, 1) := by decide +kernel
theorem d_Mo_shifts_34 : decode prog_9_method_36_code 34 = .ok (.bipush (-2), 2) := by decide +kernel
theorem d_Mo_shifts_36 : decode prog_9_method_36_code 36 = .ok (.if_icmp .ne 7, 3) := by decide +kernel
theorem d_Mo_shifts_39 : decode prog_9_method_36_code 39 = .ok (.iconst 1, 1) := by decide +kernel
theorem d_Mo_shifts_40 : decode prog_9_method_36_code 40 = .ok (.goto 4, 3) := by decide +kernel
theorem d_Mo_shifts_43 : decode prog_9_method_36_code 43 = .ok (.iconst 0, 1) := by decide +kernel
theorem d_Mo_shifts_44 : decode prog_9_method_36_code 44 = .ok (.istore_n 2, 1) := by decide +kernel
theorem d_Mo_shifts_45 : decode prog_9_method_36_code 45 = .ok (.iinc 3 1, 3) := by decide +kernel
theorem d_Mo_shifts_48 : decode prog_9_method_36_code 48 = .ok (.goto (-32), 3) := by decide +kernel
theorem d_Mo_shifts_51 : decode prog_9_method_36_code 51 = .ok (.aload_n 0, 1) := by decide +kernel
theorem d_Mo_shifts_52 : decode prog_9_method_36_code 52 = .ok (.getfield 16, 3) := by decide +kernel
theorem d_Mo_shifts_55 : decode prog_9_method_36_code 55 = .ok (.iload_n 1, 1) := by decide +kernel
theorem d_Mo_shifts_56 : decode prog_9_method_36_code 56 = .ok (.baload, 1) := by decide +kernel
theorem d_Mo_shifts_57 : decode prog_9_method_36_code 57 = .ok (.ifCond .eq 37, 3) := by decide +kernel
theorem d_Mo_shifts_60 : decode prog_9_method_36_code 60 = .ok (.iload_n 2, 1) := by decide +kernel
theorem d_Mo_shifts_61 : decode prog_9_method_36_code 61 = .ok (.ifCond .ne 33, 3) := by decide +kernel
theorem d_Mo_shifts_64 : decode prog_9_method_36_code 64 = .ok (.aload_n 0, 1) := by decide +kernel
theorem d_Mo_shifts_65 : decode prog_9_method_36_code 65 = .ok (.getfield 72, 3) := by decide +kernel
theorem d_Mo_shifts_68 : decode prog_9_method_36_code 68 = .ok (.ifCond .le 29, 3) := by decide +kernel
theorem d_Mo_shifts_71 : decode prog_9_method_36_code 71 = .ok (.aload_n 0, 1) := by decide +kernel
theorem d_Mo_shifts_72 : decode prog_9_method_36_code 72 = .ok (.iload_n 1, 1) := by decide +kernel
theorem d_Mo_shifts_73 : decode prog_9_method_36_code 73 = .ok (.invokevirtual 89, 3) := by decide +kernel
theorem d_Mo_shifts_76 : decode prog_9_method_36_code 76 = .ok (.aload_n 0, 1) := by decide +kernel
theorem d_Mo_shifts_77 : decode prog_9_method_36_code 77 = .ok (.getfield 72, 3) := by decide +kernel
theorem d_Mo_shifts_80 : decode prog_9_method_36_code 80 = .ok (.if_icmp .gt 14, 3) := by decide +kernel
theorem d_Mo_shifts_83 : decode prog_9_method_36_code 83 = .ok (.aload_n 0, 1) := by decide +kernel
theorem d_Mo_shifts_84 : decode prog_9_method_36_code 84 = .ok (.invokevirtual 78, 3) := by decide +kernel
theorem d_Mo_shifts_87 : decode prog_9_method_36_code 87 = .ok (.aload_n 0, 1) := by decide +kernel
theorem d_Mo_shifts_88 : decode prog_9_method_36_code 88 = .ok (.getfield 72, 3) := by decide +kernel
theorem d_Mo_shifts_91 : decode prog_9_method_36_code 91 = .ok (.if_icmp .le 6, 3) := by decide +kernel
theorem d_Mo_shifts_94 : decode prog_9_method_36_code 94 = .ok (.bipush (-3), 2) := by decide +kernel
theorem d_Mo_shifts_96 : decode prog_9_method_36_code 96 = .ok (.ireturn, 1) := by decide +kernel
theorem d_Mo_shifts_97 : decode prog_9_method_36_code 97 = .ok (.aload_n 0, 1) := by decide +kernel
theorem d_Mo_shifts_98 : decode prog_9_method_36_code 98 = .ok (.getfield 20, 3) := by decide +kernel
theorem d_Mo_shifts_101 : decode prog_9_method_36_code 101 = .ok (.iload_n 1, 1) := by decide +kernel
theorem d_Mo_shifts_102 : decode prog_9_method_36_code 102 = .ok (.iaload, 1) := by decide +kernel
theorem d_Mo_shifts_103 : decode prog_9_method_36_code 103 = .ok (.istore_n 3, 1) := by decide +kernel
theorem d_Mo_shifts_104 : decode prog_9_method_36_code 104 = .ok (.aload_n 0, 1) := by decide +kernel
theorem d_Mo_shifts_105 : decode prog_9_method_36_code 105 = .ok (.getfield 23, 3) := by decide +kernel
theorem d_Mo_shifts_108 : decode prog_9_method_36_code 108 = .ok (.iload_n 1, 1) := by decide +kernel
theorem d_Mo_shifts_109 : decode prog_9_method_36_code 109 = .ok (.iaload, 1) := by decide +kernel
theorem d_Mo_shifts_110 : decode prog_9_method_36_code 110 = .ok (.istore 4, 2) := by decide +kernel
theorem d_Mo_shifts_112 : decode prog_9_method_36_code 112 = .ok (.iconst 1, 1) := by decide +kernel
theorem d_Mo_shifts_113 : decode prog_9_method_36_code 113 = .ok (.istore 5, 2) := by decide +kernel
theorem d_Mo_shifts_115 : decode prog_9_method_36_code 115 = .ok (.iload 5, 2) := by decide +kernel
theorem d_Mo_shifts_117 : decode prog_9_method_36_code 117 = .ok (.iconst 4, 1) := by decide +kernel
theorem d_Mo_shifts_118 : decode prog_9_method_36_code 118 = .ok (.if_icmp .ge 41, 3) := by decide +kernel
theorem d_Mo_shifts_121 : decode prog_9_method_36_code 121 = .ok (.aload_n 0, 1) := by decide +kernel
theorem d_Mo_shifts_122 : decode prog_9_method_36_code 122 = .ok (.getfield 63, 3) := by decide +kernel
theorem d_Mo_shifts_125 : decode prog_9_method_36_code 125 = .ok (.iload 5, 2) := by decide +kernel
theorem d_Mo_shifts_127 : decode prog_9_method_36_code 127 = .ok (.aload_n 0, 1) := by decide +kernel
theorem d_Mo_shifts_128 : decode prog_9_method_36_code 128 = .ok (.getfield 16, 3) := by decide +kernel
theorem d_Mo_shifts_131 : decode prog_9_method_36_code 131 = .ok (.iload 5, 2) := by decide +kernel
theorem d_Mo_shifts_133 : decode prog_9_method_36_code 133 = .ok (.baload, 1) := by decide +kernel
theorem d_Mo_shifts_134 : decode prog_9_method_36_code 134 = .ok (.bastore, 1) := by decide +kernel
theorem d_Mo_shifts_135 : decode prog_9_method_36_code 135 = .ok (.aload_n 0, 1) := by decide +kernel
theorem d_Mo_shifts_136 : decode prog_9_method_36_code 136 = .ok (.getfield 16, 3) := by decide +kernel
theorem d_Mo_shifts_139 : decode prog_9_method_36_code 139 = .ok (.iload 5, 2) := by decide +kernel
theorem d_Mo_shifts_141 : decode prog_9_method_36_code 141 = .ok (.iload 5, 2) := by decide +kernel
theorem d_Mo_shifts_143 : decode prog_9_method_36_code 143 = .ok (.iload_n 1, 1) := by decide +kernel
theorem d_Mo_shifts_144 : decode prog_9_method_36_code 144 = .ok (.if_icmp .ne 7, 3) := by decide +kernel
theorem d_Mo_shifts_147 : decode prog_9_method_36_code 147 = .ok (.iconst 1, 1) := by decide +kernel
theorem d_Mo_shifts_148 : decode prog_9_method_36_code 148 = .ok (.goto 4, 3) := by decide +kernel
theorem d_Mo_shifts_151 : decode prog_9_method_36_code 151 = .ok (.iconst 0, 1) := by decide +kernel
theorem d_Mo_shifts_152 : decode prog_9_method_36_code 152 = .ok (.bastore, 1) := by decide +kernel
theorem d_Mo_shifts_153 : decode prog_9_method_36_code 153 = .ok (.iinc 5 1, 3) := by decide +kernel
theorem d_Mo_shifts_156 : decode prog_9_method_36_code 156 = .ok (.goto (-41), 3) := by decide +kernel
theorem d_Mo_shifts_159 : decode prog_9_method_36_code 159 = .ok (.aload_n 0, 1) := by decide +kernel
theorem d_Mo_shifts_160 : decode prog_9_method_36_code 160 = .ok (.iconst 0, 1) := by decide +kernel
theorem d_Mo_shifts_161 : decode prog_9_method_36_code 161 = .ok (.putfield 156, 3) := by decide +kernel
theorem d_Mo_shifts_164 : decode prog_9_method_36_code 164 = .ok (.aload_n 0, 1) := by decide +kernel
theorem d_Mo_shifts_165 : decode prog_9_method_36_code 165 = .ok (.invokevirtual 78, 3) := by decide +kernel
theorem d_Mo_shifts_168 : decode prog_9_method_36_code 168 = .ok (.bipush 100, 2) := by decide +kernel
theorem d_Mo_shifts_170 : decode prog_9_method_36_code 170 = .ok (.if_icmp .ge 10, 3) := by decide +kernel
theorem d_Mo_shifts_173 : decode prog_9_method_36_code 173 = .ok (.aload_n 0, 1) := by decide +kernel
theorem d_Mo_shifts_174 : decode prog_9_method_36_code 174 = .ok (.invokevirtual 78, 3) := by decide +kernel
theorem d_Mo_shifts_177 : decode prog_9_method_36_code 177 = .ok (.goto 5, 3) := by decide +kernel
theorem d_Mo_shifts_180 : decode prog_9_method_36_code 180 = .ok (.bipush 100, 2) := by decide +kernel
theorem d_Mo_shifts_182 : decode prog_9_method_36_code 182 = .ok (.istore 5, 2) := by decide +kernel
theorem d_Mo_shifts_184 : decode prog_9_method_36_code 184 = .ok (.iconst 0, 1) := by decide +kernel
theorem d_Mo_shifts_185 : decode prog_9_method_36_code 185 = .ok (.istore 6, 2) := by decide +kernel
theorem d_Mo_shifts_187 : decode prog_9_method_36_code 187 = .ok (.iload 6, 2) := by decide +kernel
theorem d_Mo_shifts_189 : decode prog_9_method_36_code 189 = .ok (.iload 5, 2) := by decide +kernel
theorem d_Mo_shifts_191 : decode prog_9_method_36_code 191 = .ok (.if_icmp .gt 81, 3) := by decide +kernel
theorem d_Mo_shifts_194 : decode prog_9_method_36_code 194 = .ok (.bipush (-12), 2) := by decide +kernel
theorem d_Mo_shifts_196 : decode prog_9_method_36_code 196 = .ok (.istore 7, 2) := by decide +kernel
theorem d_Mo_shifts_198 : decode prog_9_method_36_code 198 = .ok (.iload 7, 2) := by decide +kernel
theorem d_Mo_shifts_200 : decode prog_9_method_36_code 200 = .ok (.bipush 12, 2) := by decide +kernel
theorem d_Mo_shifts_202 : decode prog_9_method_36_code 202 = .ok (.if_icmp .gt 64, 3) := by decide +kernel
theorem d_Mo_shifts_205 : decode prog_9_method_36_code 205 = .ok (.aload_n 0, 1) := by decide +kernel
theorem d_Mo_shifts_206 : decode prog_9_method_36_code 206 = .ok (.getfield 20, 3) := by decide +kernel
theorem d_Mo_shifts_209 : decode prog_9_method_36_code 209 = .ok (.iload_n 1, 1) := by decide +kernel
theorem d_Mo_shifts_210 : decode prog_9_method_36_code 210 = .ok (.iload 6, 2) := by decide +kernel
theorem d_Mo_shifts_212 : decode prog_9_method_36_code 212 = .ok (.iastore, 1) := by decide +kernel
theorem d_Mo_shifts_213 : decode prog_9_method_36_code 213 = .ok (.aload_n 0, 1) := by decide +kernel
theorem d_Mo_shifts_214 : decode prog_9_method_36_code 214 = .ok (.getfield 23, 3) := by decide +kernel
theorem d_Mo_shifts_217 : decode prog_9_method_36_code 217 = .ok (.iload_n 1, 1) := by decide +kernel
theorem d_Mo_shifts_218 : decode prog_9_method_36_code 218 = .ok (.iload 7, 2) := by decide +kernel
theorem d_Mo_shifts_220 : decode prog_9_method_36_code 220 = .ok (.iastore, 1) := by decide +kernel
theorem d_Mo_shifts_221 : decode prog_9_method_36_code 221 = .ok (.aload_n 0, 1) := by decide +kernel
theorem d_Mo_shifts_222 : decode prog_9_method_36_code 222 = .ok (.invokevirtual 153, 3) := by decide +kernel
theorem d_Mo_shifts_225 : decode prog_9_method_36_code 225 = .ok (.ifCond .eq 35, 3) := by decide +kernel
theorem d_Mo_shifts_228 : decode prog_9_method_36_code 228 = .ok (.aload_n 0, 1) := by decide +kernel
theorem d_Mo_shifts_229 : decode prog_9_method_36_code 229 = .ok (.getfield 57, 3) := by decide +kernel
theorem d_Mo_shifts_232 : decode prog_9_method_36_code 232 = .ok (.aload_n 0, 1) := by decide +kernel
theorem d_Mo_shifts_233 : decode prog_9_method_36_code 233 = .ok (.getfield 156, 3) := by decide +kernel
theorem d_Mo_shifts_236 : decode prog_9_method_36_code 236 = .ok (.iload 6, 2) := by decide +kernel
theorem d_Mo_shifts_238 : decode prog_9_method_36_code 238 = .ok (.iastore, 1) := by decide +kernel
theorem d_Mo_shifts_239 : decode prog_9_method_36_code 239 = .ok (.aload_n 0, 1) := by decide +kernel
theorem d_Mo_shifts_240 : decode prog_9_method_36_code 240 = .ok (.getfield 60, 3) := by decide +kernel
theorem d_Mo_shifts_243 : decode prog_9_method_36_code 243 = .ok (.aload_n 0, 1) := by decide +kernel
theorem d_Mo_shifts_244 : decode prog_9_method_36_code 244 = .ok (.getfield 156, 3) := by decide +kernel
theorem d_Mo_shifts_247 : decode prog_9_method_36_code 247 = .ok (.iload 7, 2) := by decide +kernel
theorem d_Mo_shifts_249 : decode prog_9_method_36_code 249 = .ok (.iastore, 1) := by decide +kernel
theorem d_Mo_shifts_250 : decode prog_9_method_36_code 250 = .ok (.aload_n 0, 1) := by decide +kernel
theorem d_Mo_shifts_251 : decode prog_9_method_36_code 251 = .ok (.dup, 1) := by decide +kernel
theorem d_Mo_shifts_252 : decode prog_9_method_36_code 252 = .ok (.getfield 156, 3) := by decide +kernel
theorem d_Mo_shifts_255 : decode prog_9_method_36_code 255 = .ok (.iconst 1, 1) := by decide +kernel
theorem d_Mo_shifts_256 : decode prog_9_method_36_code 256 = .ok (.iadd, 1) := by decide +kernel
theorem d_Mo_shifts_257 : decode prog_9_method_36_code 257 = .ok (.putfield 156, 3) := by decide +kernel
theorem d_Mo_shifts_260 : decode prog_9_method_36_code 260 = .ok (.iinc 7 1, 3) := by decide +kernel
theorem d_Mo_shifts_263 : decode prog_9_method_36_code 263 = .ok (.goto (-65), 3) := by decide +kernel
theorem d_Mo_shifts_266 : decode prog_9_method_36_code 266 = .ok (.iinc 6 1, 3) := by decide +kernel
theorem d_Mo_shifts_269 : decode prog_9_method_36_code 269 = .ok (.goto (-82), 3) := by decide +kernel
theorem d_Mo_shifts_272 : decode prog_9_method_36_code 272 = .ok (.aload_n 0, 1) := by decide +kernel
theorem d_Mo_shifts_273 : decode prog_9_method_36_code 273 = .ok (.getfield 20, 3) := by decide +kernel
theorem d_Mo_shifts_276 : decode prog_9_method_36_code 276 = .ok (.iload_n 1, 1) := by decide +kernel
theorem d_Mo_shifts_277 : decode prog_9_method_36_code 277 = .ok (.iload_n 3, 1) := by decide +kernel
theorem d_Mo_shifts_278 : decode prog_9_method_36_code 278 = .ok (.iastore, 1) := by decide +kernel
theorem d_Mo_shifts_279 : decode prog_9_method_36_code 279 = .ok (.aload_n 0, 1) := by decide +kernel
theorem d_Mo_shifts_280 : decode prog_9_method_36_code 280 = .ok (.getfield 23, 3) := by decide +kernel
theorem d_Mo_shifts_283 : decode prog_9_method_36_code 283 = .ok (.iload_n 1, 1) := by decide +kernel
theorem d_Mo_shifts_284 : decode prog_9_method_36_code 284 = .ok (.iload 4, 2) := by decide +kernel
theorem d_Mo_shifts_286 : decode prog_9_method_36_code 286 = .ok (.iastore, 1) := by decide +kernel
theorem d_Mo_shifts_287 : decode prog_9_method_36_code 287 = .ok (.iconst 1, 1) := by decide +kernel
theorem d_Mo_shifts_288 : decode prog_9_method_36_code 288 = .ok (.istore 6, 2) := by decide +kernel
theorem d_Mo_shifts_290 : decode prog_9_method_36_code 290 = .ok (.iload 6, 2) := by decide +kernel
theorem d_Mo_shifts_292 : decode prog_9_method_36_code 292 = .ok (.iconst 4, 1) := by decide +kernel
theorem d_Mo_shifts_293 : decode prog_9_method_36_code 293 = .ok (.if_icmp .ge 23, 3) := by decide +kernel
theorem d_Mo_shifts_296 : decode prog_9_method_36_code 296 = .ok (.aload_n 0, 1) := by decide +kernel
theorem d_Mo_shifts_297 : decode prog_9_method_36_code 297 = .ok (.getfield 16, 3) := by decide +kernel
theorem d_Mo_shifts_300 : decode prog_9_method_36_code 300 = .ok (.iload 6, 2) := by decide +kernel
theorem d_Mo_shifts_302 : decode prog_9_method_36_code 302 = .ok (.aload_n 0, 1) := by decide +kernel
theorem d_Mo_shifts_303 : decode prog_9_method_36_code 303 = .ok (.getfield 63, 3) := by decide +kernel
theorem d_Mo_shifts_306 : decode prog_9_method_36_code 306 = .ok (.iload 6, 2) := by decide +kernel
theorem d_Mo_shifts_308 : decode prog_9_method_36_code 308 = .ok (.baload, 1) := by decide +kernel
theorem d_Mo_shifts_309 : decode prog_9_method_36_code 309 = .ok (.bastore, 1) := by decide +kernel
theorem d_Mo_shifts_310 : decode prog_9_method_36_code 310 = .ok (.iinc 6 1, 3) := by decide +kernel
theorem d_Mo_shifts_313 : decode prog_9_method_36_code 313 = .ok (.goto (-23), 3) := by decide +kernel
theorem d_Mo_shifts_316 : decode prog_9_method_36_code 316 = .ok (.aload_n 0, 1) := by decide +kernel
theorem d_Mo_shifts_317 : decode prog_9_method_36_code 317 = .ok (.getfield 156, 3) := by decide +kernel
theorem d_Mo_shifts_320 : decode prog_9_method_36_code 320 = .ok (.ireturn, 1) := by decide +kernel
abbrev rm_Mo_shifts : Room := { frames := 8, cells := 0, slots := 0, locals := 206 }
set_option maxHeartbeats 4000000 in
set_option maxRecDepth 100000 in
theorem c_Mo_shifts_a (l : Launch) (D : va_G) (cs : Nat → ClassId) (ad : Nat → Nat) (hi : mo_inj ad) (c I : Wo) (h : moR c I) (u : Nat) (hu : 1 ≤ u ∧ u < 4) : mo_C l D cs ad y_Mo_shifts ws_Mo_shifts rm_Mo_shifts [.ref (ad 0), .int (zi (u : Int))] I (mk_pi (fun r J => ∃ d, shfR c (u : Int) r d ∧ moR d J)) := by
  refine mk_meti (own := "CanonMakerModel") (Ts := wA) hi (Nat.le_refl _) (by decide) rfl (fun w h => List.mem_cons_of_mem _ h) rfl (Nat.le_of_ble_eq_true rfl) [(0, .ref (ad 0)), (1, .int (zi (u : Int)))] rfl ?_
  intro p_ e_ s_ m_ as_ bl_ me_ co_ Q_ X hret
  obtain ⟨⟨⟨hn, hN⟩, ⟨hlo, hsc, hbt, hru, hrd, hst⟩, ⟨hV, hV0⟩, ⟨hfc, hF⟩⟩, ⟨i12, iN⟩, ⟨⟨i50, i51, i52, i53, i54⟩, i07, i09⟩, iV, ⟨i010, iF⟩⟩ := id h
  have hcn := cn_e h.1.1
  have L97 : (okS c u) → mk_A p_ l e_ rm_Mo_shifts s_ m_ as_ bl_ me_ co_ Q_ 8 D cmcl (mo_sh cs ad) 16 16 ad I [(0, .ref (ad 0)), (1, .int (zi (u : Int)))] 97 [] := by
    intro  hok
    have hmxb := mxd_b h.1.1
    have hvu := hV u (by omega)
    have hsz := an_size_b h.1.1
    have L290 : ∀ nf : Nat, ∀ (k : Nat) (Jm : Wo) (Jf : Wo), (1 ≤ k ∧ k ≤ 4) → (MsI c I Jm u (shl c u (25 * ((mxd c).toNat + 1)))) → (∀ a b, ¬ a = 3 → ¬ (a = 4 ∧ b = u) → ¬ (a = 5 ∧ b = u) → Jf a b = Jm a b) → (∀ j, j < k → Jf 3 j = c (3 + j) 0) → (Jf 4 u = c (3 + u) 1) → (Jf 5 u = c (3 + u) 2) → 4 - k < nf → mk_A p_ l e_ rm_Mo_shifts s_ m_ as_ bl_ me_ co_ Q_ 8 D cmcl (mo_sh cs ad) 16 16 ad Jf [(0, .ref (ad 0)), (1, .int (zi (u : Int))), (6, .int (zi (k : Int)))] 290 [] := by
      intro nf
      induction nf with
      | zero => intro k Jm Jf hk hMm ff f3 f4 f5 hn; exact absurd hn (Nat.not_lt_zero _)
      | succ nf ih290 =>
        intro k Jm Jf hk hMm ff f3 f4 f5 hn290
        refine mk_iload (nx := 292) X 2 d_Mo_shifts_290 rfl rfl ?_
        refine mk_iconst (nx := 293) X d_Mo_shifts_292 rfl ?_
        refine mk_icmp_ge (tgt := 316) (nx := 296) X d_Mo_shifts_293 (by omega) (by omega) (by decide) rfl (fun c293 => ?_) (fun c293 => ?_)
        · skip
          refine mk_aloadn (nx := 317) X 0 d_Mo_shifts_316 rfl rfl ?_
          refine mk_get (nx := 320) (v := .int (zi (Jf 0 27))) X 0 (by decide) (mh_Mo cs ad _) rfl in_Mo 27 (by decide) wd_622 rfl rfl d_Mo_shifts_317 rfl ?_
          rw [show Jf 0 27 = ((shl c u (25 * ((mxd c).toNat + 1))).length : Int) from ((ff 0 27 (by omega) (by omega) (by omega)).trans hMm.2.2.2.1)]
          exact hret _ _ _ _ d_Mo_shifts_320 (by exact ⟨_, shfR_ok hu hok, ms_end h (shl_b _ (by omega)).2 hMm ff (fun j hj => f3 j (by omega)) f4 f5⟩)
        · skip
          have hvk := hV k (by omega)
          refine mk_aloadn (nx := 297) X 0 d_Mo_shifts_296 rfl rfl ?_
          refine mk_get (nx := 300) (v := .ref (ad 3)) X 0 (by decide) (mh_Mo cs ad _) rfl in_Mo 3 (by decide) wd_598 rfl rfl d_Mo_shifts_297 rfl ?_
          refine mk_iload (nx := 302) X 2 d_Mo_shifts_300 rfl rfl ?_
          refine mk_aloadn (nx := 303) X 0 d_Mo_shifts_302 rfl rfl ?_
          refine mk_get (nx := 306) (v := .ref (ad 15)) X 0 (by decide) (mh_Mo cs ad _) rfl in_Mo 28 (by decide) wd_623 rfl rfl d_Mo_shifts_303 rfl ?_
          refine mk_iload (nx := 308) X 2 d_Mo_shifts_306 rfl rfl ?_
          refine mk_zald (nx := 309) (j := k) X 15 1 (by decide) (mh_were cs ad _) rfl (by omega) (by omega) (by decide) rfl d_Mo_shifts_308 rfl ?_
          rw [show Jf 15 k = c (3 + k) 0 from ((ff 15 k (by omega) (by omega) (by omega)).trans (hMm.2.2.1 k (by omega) (by omega)))]
          refine mk_zast (nx := 310) (j := k) X 3 1 (by decide) (mh_on cs ad) rfl (by omega) (by omega) (by decide) (by omega) rfl d_Mo_shifts_309 rfl ?_
          obtain ⟨J1, hJ1⟩ : ∃ W_ : Wo, W_ = up2 Jf 3 k (c (3 + k) 0) := ⟨_, rfl⟩
          refine mk_same hJ1.symm ?_
          have hJ1s : J1 3 k = c (3 + k) 0 := hJ1 ▸ up2_ss Jf 3 k (c (3 + k) 0)
          have hJ1o : ∀ a b, (a ≠ 3 ∨ b ≠ k) → J1 a b = Jf a b := hJ1 ▸ up2_o Jf 3 k (c (3 + k) 0)
          refine mk_iinc (nx := 313) X 2 [(6, .int (zi ((k : Int) + 1))), (0, .ref (ad 0)), (1, .int (zi (u : Int)))] d_Mo_shifts_310 rfl (by decide) rfl rfl ?_
          refine mk_goto (tgt := 290) X d_Mo_shifts_313 (by decide) ?_
          refine mk_lv [1, 2, 0] rfl ?_
          exact ih290 (k + 1) Jm J1 (by omega) (by first | exact hMm | (rw [show 25 * ((mxd c).toNat + 1) = 25 * d by omega]; exact hMb)) (by first | exact fun a b x y z => (hJ1o a b (by omega)).trans (ff a b x y z) | exact fun a b x y z => (hJ1o a b (by omega)).trans (hJfo a b (by omega))) (by first | exact lt_s (fun j hj => (hJ1o 3 j (by omega)).trans (f3 j hj)) hJ1s | exact fun j hj => by rw [show j = 0 by omega, hJ1o 3 0 (by omega), hJfo 3 0 (by omega), hMb.2.1 0 (by omega), if_pos (Or.inl rfl)]; exact hV0.1.symm) (by first | exact (hJ1o 4 u (by omega)).trans f4 | exact (hJ1o 4 u (by omega)).trans hJfs) (by first | exact (hJ1o 5 u (by omega)).trans f5 | exact hJ1s) (by omega)
    have L187 : ∀ nf : Nat, ∀ (d : Nat) (mx : Int) (Jb : Wo), (mx = mxd c) → ((d : Int) ≤ mxd c + 1) → (MsI c I Jb u (shl c u (25 * d))) → 102 - d < nf → mk_A p_ l e_ rm_Mo_shifts s_ m_ as_ bl_ me_ co_ Q_ 8 D cmcl (mo_sh cs ad) 16 16 ad Jb [(0, .ref (ad 0)), (1, .int (zi (u : Int))), (3, .int (zi (c (3 + u) 1))), (4, .int (zi (c (3 + u) 2))), (5, .int (zi mx)), (6, .int (zi (d : Int)))] 187 [] := by
      intro nf
      induction nf with
      | zero => intro d mx Jb hmx hd hMb hn; exact absurd hn (Nat.not_lt_zero _)
      | succ nf ih187 =>
        intro d mx Jb hmx hd hMb hn187
        have L198 : ∀ nf : Nat, ∀ (i : Int) (Jc : Wo), (-12 ≤ i ∧ i ≤ 13) → ((d : Int) ≤ mxd c) → (MsI c I Jc u (shl c u (25 * d + (i + 12).toNat))) → (13 - i).toNat < nf → mk_A p_ l e_ rm_Mo_shifts s_ m_ as_ bl_ me_ co_ Q_ 8 D cmcl (mo_sh cs ad) 16 16 ad Jc [(0, .ref (ad 0)), (1, .int (zi (u : Int))), (3, .int (zi (c (3 + u) 1))), (4, .int (zi (c (3 + u) 2))), (5, .int (zi mx)), (6, .int (zi (d : Int))), (7, .int (zi i))] 198 [] := by
          intro nf
          induction nf with
          | zero => intro i Jc hib hd2 hMc hn; exact absurd hn (Nat.not_lt_zero _)
          | succ nf ih198 =>
            intro i Jc hib hd2 hMc hn198
            refine mk_iload (nx := 200) X 6 d_Mo_shifts_198 rfl rfl ?_
            refine mk_bipush (nx := 202) X d_Mo_shifts_200 (by decide) rfl ?_
            refine mk_icmp_gt (tgt := 266) (nx := 205) X d_Mo_shifts_202 (by omega) (by omega) (by decide) rfl (fun c202 => ?_) (fun c202 => ?_)
            · skip
              refine mk_iinc (nx := 269) X 5 [(6, .int (zi ((d : Int) + 1))), (0, .ref (ad 0)), (1, .int (zi (u : Int))), (3, .int (zi (c (3 + u) 1))), (4, .int (zi (c (3 + u) 2))), (5, .int (zi mx)), (7, .int (zi i))] d_Mo_shifts_266 rfl (by decide) rfl rfl ?_
              refine mk_goto (tgt := 187) X d_Mo_shifts_269 (by decide) ?_
              refine mk_lv [1, 2, 3, 4, 5, 0] rfl ?_
              exact ih187 (d + 1) mx Jc (by first | exact hmx | exact hmx2) (by omega) (by first | (rw [show 25 * (d + 1) = 25 * d + (i + 12).toNat by omega]; exact hMc) | exact hM0) (by omega)
            · skip
              refine mk_aloadn (nx := 206) X 0 d_Mo_shifts_205 rfl rfl ?_
              refine mk_get (nx := 209) (v := .ref (ad 4)) X 0 (by decide) (mh_Mo cs ad _) rfl in_Mo 4 (by decide) wd_599 rfl rfl d_Mo_shifts_206 rfl ?_
              refine mk_iloadn (nx := 210) X 1 d_Mo_shifts_209 rfl rfl ?_
              refine mk_iload (nx := 212) X 5 d_Mo_shifts_210 rfl rfl ?_
              refine mk_iast (nx := 213) (j := u) X 4 0 (by decide) (mh_delays cs ad) rfl (by omega) (by omega) (by decide) rfl d_Mo_shifts_212 rfl ?_
              obtain ⟨J2, hJ2⟩ : ∃ W_ : Wo, W_ = up2 Jc 4 u (d : Int) := ⟨_, rfl⟩
              refine mk_same hJ2.symm ?_
              have hJ2s : J2 4 u = (d : Int) := hJ2 ▸ up2_ss Jc 4 u (d : Int)
              have hJ2o : ∀ a b, (a ≠ 4 ∨ b ≠ u) → J2 a b = Jc a b := hJ2 ▸ up2_o Jc 4 u (d : Int)
              have hMd : MsI c I J2 u (shl c u (25 * d + (i + 12).toNat)) := ms_fr hMc (fun a b x y z t => hJ2o a b (by omega))
              have h4d : J2 4 u = (d : Int) := hJ2s
              refine mk_aloadn (nx := 214) X 0 d_Mo_shifts_213 rfl rfl ?_
              refine mk_get (nx := 217) (v := .ref (ad 5)) X 0 (by decide) (mh_Mo cs ad _) rfl in_Mo 5 (by decide) wd_600 rfl rfl d_Mo_shifts_214 rfl ?_
              refine mk_iloadn (nx := 218) X 1 d_Mo_shifts_217 rfl rfl ?_
              refine mk_iload (nx := 220) X 6 d_Mo_shifts_218 rfl rfl ?_
              refine mk_iast (nx := 221) (j := u) X 5 0 (by decide) (mh_intervals cs ad) rfl (by omega) (by omega) (by decide) rfl d_Mo_shifts_220 rfl ?_
              obtain ⟨J3, hJ3⟩ : ∃ W_ : Wo, W_ = up2 J2 5 u i := ⟨_, rfl⟩
              refine mk_same hJ3.symm ?_
              have hJ3s : J3 5 u = i := hJ3 ▸ up2_ss J2 5 u i
              have hJ3o : ∀ a b, (a ≠ 5 ∨ b ≠ u) → J3 a b = J2 a b := hJ3 ▸ up2_o J2 5 u i
              have hMe : MsI c I J3 u (shl c u (25 * d + (i + 12).toNat)) := ms_fr hMd (fun a b x y z t => hJ3o a b (by omega))
              have hsb : shB (shl c u (25 * d + (i + 12).toNat)) := (shl_b _ (by omega)).2
              have hsl : (shl c u (25 * d + (i + 12).toNat)).length ≤ 2525 := hsb.1
              have hRe := ms_R h hu hMe hsb ((hJ3o 4 u (by omega)).trans h4d) hJ3s (by omega) (by omega)
              refine mk_aloadn (nx := 222) X 0 d_Mo_shifts_221 rfl rfl ?_
              refine mk_callVi (nx := 225) (n := 0) (As := []) (rest := []) X 0 (by decide) (mh_Mo cs ad _) rfl (c_Mo_isClean l D cs ad hi _ J3 hRe) (g_Mo_isClean wd_811) rfl ⟨rfl, rfl⟩ (by decide +kernel) ⟨by decide, by decide⟩ rfl (Nat.le_of_ble_eq_true rfl) rfl d_Mo_shifts_222 rfl ?_
              intro r222 JV hJV
              have hMv : MsI c I JV u (shl c u (25 * d + (i + 12).toNat)) := ms_fr hMe (fun a b x y z t => hJV.1 a b x y)
              have hV := hJV.2
              rw [swl_FL (scf_wf h.1 hu (by omega) (by omega)) (scf_ntl h.1 hu hok) hsb] at hV
              have hr222 : r222 = 1 ∨ r222 = 0 := hV.elim (fun e => Or.inl e.1) (fun e => Or.inr e.1)
              refine mk_if_eq (tgt := 260) (nx := 228) X d_Mo_shifts_225 (by omega) (by decide) rfl (fun c225 => ?_) (fun c225 => ?_)
              · skip
                refine mk_iinc (nx := 263) X 6 [(7, .int (zi (i + 1))), (0, .ref (ad 0)), (1, .int (zi (u : Int))), (3, .int (zi (c (3 + u) 1))), (4, .int (zi (c (3 + u) 2))), (5, .int (zi mx)), (6, .int (zi (d : Int)))] d_Mo_shifts_260 rfl (by decide) rfl rfl ?_
                refine mk_goto (tgt := 198) X d_Mo_shifts_263 (by decide) ?_
                refine mk_lv [1, 2, 3, 4, 5, 6, 0] rfl ?_
                exact ih198 (i + 1) JV (by omega) (by omega) (by first | exact ms_yes hMv hK hJV hJV hJV (by omega) (hV.resolve_right (fun z => absurd z.1 (by omega))).2 | exact ms_no hMv (by omega) (hV.resolve_left (fun z => absurd z.1 (by omega))).2 | (rw [show 25 * d + ((-12 : Int) + 12).toNat = 25 * d by omega]; exact hMb)) (by omega)
              · skip
                obtain ⟨K, hK⟩ : ∃ K : Nat, K = (shl c u (25 * d + (i + 12).toNat)).length := ⟨_, rfl⟩
                refine mk_aloadn (nx := 229) X 0 d_Mo_shifts_228 rfl rfl ?_
                refine mk_get (nx := 232) (v := .ref (ad 13)) X 0 (by decide) (mh_Mo cs ad _) rfl in_Mo 25 (by decide) wd_620 rfl rfl d_Mo_shifts_229 rfl ?_
                refine mk_aloadn (nx := 233) X 0 d_Mo_shifts_232 rfl rfl ?_
                refine mk_get (nx := 236) (v := .int (zi (JV 0 27))) X 0 (by decide) (mh_Mo cs ad _) rfl in_Mo 27 (by decide) wd_622 rfl rfl d_Mo_shifts_233 rfl ?_
                rw [show JV 0 27 = (K : Int) from (hMv.2.2.2.1.trans (by rw [hK]))]
                refine mk_iload (nx := 238) X 5 d_Mo_shifts_236 rfl rfl ?_
                refine mk_iast (nx := 239) (j := K) X 13 0 (by decide) (mh_shiftDelays cs ad) rfl (by omega) (by omega) (by decide) rfl d_Mo_shifts_238 rfl ?_
                obtain ⟨J4, hJ4⟩ : ∃ W_ : Wo, W_ = up2 JV 13 K (d : Int) := ⟨_, rfl⟩
                refine mk_same hJ4.symm ?_
                have hJ4s : J4 13 K = (d : Int) := hJ4 ▸ up2_ss JV 13 K (d : Int)
                have hJ4o : ∀ a b, (a ≠ 13 ∨ b ≠ K) → J4 a b = JV a b := hJ4 ▸ up2_o JV 13 K (d : Int)
                refine mk_aloadn (nx := 240) X 0 d_Mo_shifts_239 rfl rfl ?_
                refine mk_get (nx := 243) (v := .ref (ad 14)) X 0 (by decide) (mh_Mo cs ad _) rfl in_Mo 26 (by decide) wd_621 rfl rfl d_Mo_shifts_240 rfl ?_
                refine mk_aloadn (nx := 244) X 0 d_Mo_shifts_243 rfl rfl ?_
                refine mk_get (nx := 247) (v := .int (zi (J4 0 27))) X 0 (by decide) (mh_Mo cs ad _) rfl in_Mo 27 (by decide) wd_622 rfl rfl d_Mo_shifts_244 rfl ?_
                rw [show J4 0 27 = JV 0 27 from hJ4o 0 27 (Or.inl (by decide))]
                rw [show JV 0 27 = (K : Int) from (hMv.2.2.2.1.trans (by rw [hK]))]
                refine mk_iload (nx := 249) X 6 d_Mo_shifts_247 rfl rfl ?_
                refine mk_iast (nx := 250) (j := K) X 14 0 (by decide) (mh_shiftIntervals cs ad) rfl (by omega) (by omega) (by decide) rfl d_Mo_shifts_249 rfl ?_
                obtain ⟨J5, hJ5⟩ : ∃ W_ : Wo, W_ = up2 J4 14 K i := ⟨_, rfl⟩
                refine mk_same hJ5.symm ?_
                have hJ5s : J5 14 K = i := hJ5 ▸ up2_ss J4 14 K i
                have hJ5o : ∀ a b, (a ≠ 14 ∨ b ≠ K) → J5 a b = J4 a b := hJ5 ▸ up2_o J4 14 K i
                refine mk_aloadn (nx := 251) X 0 d_Mo_shifts_250 rfl rfl ?_
                refine mk_dup (nx := 252) X d_Mo_shifts_251 rfl rfl ?_
                refine mk_get (nx := 255) (v := .int (zi (J5 0 27))) X 0 (by decide) (mh_Mo cs ad _) rfl in_Mo 27 (by decide) wd_622 rfl rfl d_Mo_shifts_252 rfl ?_
                rw [show J5 0 27 = J4 0 27 from hJ5o 0 27 (Or.inl (by decide))]
                rw [show J4 0 27 = JV 0 27 from hJ4o 0 27 (Or.inl (by decide))]
                rw [show JV 0 27 = (K : Int) from (hMv.2.2.2.1.trans (by rw [hK]))]
                refine mk_iconst (nx := 256) X d_Mo_shifts_255 rfl ?_
                refine mk_iadd (nx := 257) X d_Mo_shifts_256 rfl ?_
                refine mk_putf (nx := 260) (ty := .int) X t_Mo t_Mo_ok n_Mo 0 (by decide) (mh_Mo cs ad _) rfl in_Mo 27 (by decide) wd_622 rfl rfl (by decide +kernel) rfl rfl (Nat.le_of_ble_eq_true rfl) ((mh_Mo cs ad _).trans rfl) d_Mo_shifts_257 rfl ?_
                obtain ⟨J6, hJ6⟩ : ∃ W_ : Wo, W_ = up2 J5 0 27 ((K : Int) + 1) := ⟨_, rfl⟩
                refine mk_same hJ6.symm ?_
                have hJ6s : J6 0 27 = (K : Int) + 1 := hJ6 ▸ up2_ss J5 0 27 ((K : Int) + 1)
                have hJ6o : ∀ a b, (a ≠ 0 ∨ b ≠ 27) → J6 a b = J5 a b := hJ6 ▸ up2_o J5 0 27 ((K : Int) + 1)
                refine mk_iinc (nx := 263) X 6 [(7, .int (zi (i + 1))), (0, .ref (ad 0)), (1, .int (zi (u : Int))), (3, .int (zi (c (3 + u) 1))), (4, .int (zi (c (3 + u) 2))), (5, .int (zi mx)), (6, .int (zi (d : Int)))] d_Mo_shifts_260 rfl (by decide) rfl rfl ?_
                refine mk_goto (tgt := 198) X d_Mo_shifts_263 (by decide) ?_
                refine mk_lv [1, 2, 3, 4, 5, 6, 0] rfl ?_
                exact ih198 (i + 1) J6 (by omega) (by omega) (by first | exact ms_yes hMv hK hJ4 hJ5 hJ6 (by omega) (hV.resolve_right (fun z => absurd z.1 (by omega))).2 | exact ms_no hMv (by omega) (hV.resolve_left (fun z => absurd z.1 (by omega))).2 | (rw [show 25 * d + ((-12 : Int) + 12).toNat = 25 * d by omega]; exact hMb)) (by omega)
        refine mk_iload (nx := 189) X 5 d_Mo_shifts_187 rfl rfl ?_
        refine mk_iload (nx := 191) X 4 d_Mo_shifts_189 rfl rfl ?_
        refine mk_icmp_gt (tgt := 272) (nx := 194) X d_Mo_shifts_191 (by omega) (by omega) (by decide) rfl (fun c191 => ?_) (fun c191 => ?_)
        · skip
          refine mk_aloadn (nx := 273) X 0 d_Mo_shifts_272 rfl rfl ?_
          refine mk_get (nx := 276) (v := .ref (ad 4)) X 0 (by decide) (mh_Mo cs ad _) rfl in_Mo 4 (by decide) wd_599 rfl rfl d_Mo_shifts_273 rfl ?_
          refine mk_iloadn (nx := 277) X 1 d_Mo_shifts_276 rfl rfl ?_
          refine mk_iloadn (nx := 278) X 2 d_Mo_shifts_277 rfl rfl ?_
          refine mk_iast (nx := 279) (j := u) X 4 0 (by decide) (mh_delays cs ad) rfl (by omega) (by omega) (by decide) rfl d_Mo_shifts_278 rfl ?_
          obtain ⟨J7, hJ7⟩ : ∃ W_ : Wo, W_ = up2 Jb 4 u (c (3 + u) 1) := ⟨_, rfl⟩
          refine mk_same hJ7.symm ?_
          have hJ7s : J7 4 u = c (3 + u) 1 := hJ7 ▸ up2_ss Jb 4 u (c (3 + u) 1)
          have hJ7o : ∀ a b, (a ≠ 4 ∨ b ≠ u) → J7 a b = Jb a b := hJ7 ▸ up2_o Jb 4 u (c (3 + u) 1)
          refine mk_aloadn (nx := 280) X 0 d_Mo_shifts_279 rfl rfl ?_
          refine mk_get (nx := 283) (v := .ref (ad 5)) X 0 (by decide) (mh_Mo cs ad _) rfl in_Mo 5 (by decide) wd_600 rfl rfl d_Mo_shifts_280 rfl ?_
          refine mk_iloadn (nx := 284) X 1 d_Mo_shifts_283 rfl rfl ?_
          refine mk_iload (nx := 286) X 3 d_Mo_shifts_284 rfl rfl ?_
          refine mk_iast (nx := 287) (j := u) X 5 0 (by decide) (mh_intervals cs ad) rfl (by omega) (by omega) (by decide) rfl d_Mo_shifts_286 rfl ?_
          obtain ⟨J8, hJ8⟩ : ∃ W_ : Wo, W_ = up2 J7 5 u (c (3 + u) 2) := ⟨_, rfl⟩
          refine mk_same hJ8.symm ?_
          have hJ8s : J8 5 u = c (3 + u) 2 := hJ8 ▸ up2_ss J7 5 u (c (3 + u) 2)
          have hJ8o : ∀ a b, (a ≠ 5 ∨ b ≠ u) → J8 a b = J7 a b := hJ8 ▸ up2_o J7 5 u (c (3 + u) 2)
          refine mk_iconst (nx := 288) X d_Mo_shifts_287 rfl ?_
          refine mk_istore (nx := 290) X [(6, .int (zi 1)), (0, .ref (ad 0)), (1, .int (zi (u : Int))), (3, .int (zi (c (3 + u) 1))), (4, .int (zi (c (3 + u) 2))), (5, .int (zi mx))] d_Mo_shifts_288 (by decide) rfl rfl ?_
          refine mk_lv [1, 2, 0] rfl ?_
          exact L290 _ 1 Jb J8 (by omega) (by first | exact hMm | (rw [show 25 * ((mxd c).toNat + 1) = 25 * d by omega]; exact hMb)) (by first | exact fun a b x y z => (hJ8o a b (by omega)).trans (ff a b x y z) | exact fun a b x y z => (hJ8o a b (by omega)).trans (hJ7o a b (by omega))) (by first | exact lt_s (fun j hj => (hJ8o 3 j (by omega)).trans (f3 j hj)) hJ8s | exact fun j hj => by rw [show j = 0 by omega, hJ8o 3 0 (by omega), hJ7o 3 0 (by omega), hMb.2.1 0 (by omega), if_pos (Or.inl rfl)]; exact hV0.1.symm) (by first | exact (hJ8o 4 u (by omega)).trans f4 | exact (hJ8o 4 u (by omega)).trans hJ7s) (by first | exact (hJ8o 5 u (by omega)).trans f5 | exact hJ8s) (Nat.lt_succ_self _)
        · skip
          refine mk_bipush (nx := 196) X d_Mo_shifts_194 (by decide) rfl ?_
          refine mk_istore (nx := 198) X [(7, .int (zi (-12))), (0, .ref (ad 0)), (1, .int (zi (u : Int))), (3, .int (zi (c (3 + u) 1))), (4, .int (zi (c (3 + u) 2))), (5, .int (zi mx)), (6, .int (zi (d : Int)))] d_Mo_shifts_196 (by decide) rfl rfl ?_
          refine mk_lv [1, 2, 3, 4, 5, 6, 0] rfl ?_
          exact L198 _ (-12) Jb (by omega) (by omega) (by first | exact ms_yes hMv hK hJb hJb hJb (by omega) (hV.resolve_right (fun z => absurd z.1 (by omega))).2 | exact ms_no hMv (by omega) (hV.resolve_left (fun z => absurd z.1 (by omega))).2 | (rw [show 25 * d + ((-12 : Int) + 12).toNat = 25 * d by omega]; exact hMb)) (Nat.lt_succ_self _)
    have L115 : ∀ nf : Nat, ∀ (k : Nat) (Ja : Wo), (1 ≤ k ∧ k ≤ 4) → (∀ a b, ¬ a = 3 → ¬ a = 15 → Ja a b = I a b) → (∀ j, j < 4 → Ja 3 j = if 1 ≤ j ∧ j < k then (if j = u then 1 else 0) else c (3 + j) 0) → (∀ j, 1 ≤ j → j < k → Ja 15 j = c (3 + j) 0) → 4 - k < nf → mk_A p_ l e_ rm_Mo_shifts s_ m_ as_ bl_ me_ co_ Q_ 8 D cmcl (mo_sh cs ad) 16 16 ad Ja [(0, .ref (ad 0)), (1, .int (zi (u : Int))), (3, .int (zi (c (3 + u) 1))), (4, .int (zi (c (3 + u) 2))), (5, .int (zi (k : Int)))] 115 [] := by
      intro nf
      induction nf with
      | zero => intro k Ja hk fa f3 f15 hn; exact absurd hn (Nat.not_lt_zero _)
      | succ nf ih115 =>
        intro k Ja hk fa f3 f15 hn115
        refine mk_iload (nx := 117) X 4 d_Mo_shifts_115 rfl rfl ?_
        refine mk_iconst (nx := 118) X d_Mo_shifts_117 rfl ?_
        refine mk_icmp_ge (tgt := 159) (nx := 121) X d_Mo_shifts_118 (by omega) (by omega) (by decide) rfl (fun c118 => ?_) (fun c118 => ?_)
        · skip
          refine mk_aloadn (nx := 160) X 0 d_Mo_shifts_159 rfl rfl ?_
          refine mk_iconst (nx := 161) X d_Mo_shifts_160 rfl ?_
          refine mk_putf (nx := 164) (ty := .int) X t_Mo t_Mo_ok n_Mo 0 (by decide) (mh_Mo cs ad _) rfl in_Mo 27 (by decide) wd_622 rfl rfl (by decide +kernel) rfl rfl (Nat.le_of_ble_eq_true rfl) ((mh_Mo cs ad _).trans rfl) d_Mo_shifts_161 rfl ?_
          obtain ⟨J9, hJ9⟩ : ∃ W_ : Wo, W_ = up2 Ja 0 27 0 := ⟨_, rfl⟩
          refine mk_same hJ9.symm ?_
          have hJ9s : J9 0 27 = 0 := hJ9 ▸ up2_ss Ja 0 27 0
          have hJ9o : ∀ a b, (a ≠ 0 ∨ b ≠ 27) → J9 a b = Ja a b := hJ9 ▸ up2_o Ja 0 27 0
          have hM0 : MsI c I J9 u [] := ms_0 hu hV0.1 fa (fun j hj => by
            rw [f3 j hj]
            by_cases z : 1 ≤ j
            · rw [if_pos (by omega), if_pos z]
            · rw [if_neg (by omega), if_neg z]) (fun j a b => f15 j a (by omega)) hJ9
          have hR0 := ms_R h hu hM0 ⟨by simp, fun x hx => by simp at hx⟩ (d := c (3 + u) 1) (i := c (3 + u) 2) ((hJ9o 4 u (by omega)).trans ((fa 4 u (by omega) (by omega)).trans (iV u (by omega)).2.1)) ((hJ9o 5 u (by omega)).trans ((fa 5 u (by omega) (by omega)).trans (iV u (by omega)).2.2.1)) (by omega) (by omega)
          refine mk_aloadn (nx := 165) X 0 d_Mo_shifts_164 rfl rfl ?_
          refine mk_callVi (nx := 168) (n := 0) (As := []) (rest := []) X 0 (by decide) (mh_Mo cs ad _) rfl (c_Mo_size l D cs ad hi _ J9 hR0) (g_Mo_size wd_743) rfl ⟨rfl, rfl⟩ (by decide +kernel) ⟨by decide, by decide⟩ rfl (Nat.le_of_ble_eq_true rfl) rfl d_Mo_shifts_165 rfl ?_
          intro r165 J10 hJ10
          obtain ⟨rfl, rfl⟩ := hJ10
          rw [ms_size hu]
          refine mk_bipush (nx := 170) X d_Mo_shifts_168 (by decide) rfl ?_
          refine mk_icmp_ge (tgt := 180) (nx := 173) X d_Mo_shifts_170 (by omega) (by omega) (by decide) rfl (fun c170 => ?_) (fun c170 => ?_)
          · skip
            refine mk_bipush (nx := 182) X d_Mo_shifts_180 (by decide) rfl ?_
            refine mk_nm (fun mx hmx => ?_)
            have hmx2 : mx = mxd c := by rw [hmx, mxd]; omega
            refine mk_istore (nx := 184) X [(5, .int (zi mx)), (0, .ref (ad 0)), (1, .int (zi (u : Int))), (3, .int (zi (c (3 + u) 1))), (4, .int (zi (c (3 + u) 2)))] d_Mo_shifts_182 (by decide) rfl rfl ?_
            refine mk_iconst (nx := 185) X d_Mo_shifts_184 rfl ?_
            refine mk_istore (nx := 187) X [(6, .int (zi 0)), (5, .int (zi mx)), (0, .ref (ad 0)), (1, .int (zi (u : Int))), (3, .int (zi (c (3 + u) 1))), (4, .int (zi (c (3 + u) 2)))] d_Mo_shifts_185 (by decide) rfl rfl ?_
            refine mk_lv [2, 3, 4, 5, 1, 0] rfl ?_
            exact L187 _ 0 mx J9 (by first | exact hmx | exact hmx2) (by omega) (by first | (rw [show 25 * (d + 1) = 25 * d + (i + 12).toNat by omega]; exact hMc) | exact hM0) (Nat.lt_succ_self _)
          · skip
            refine mk_aloadn (nx := 174) X 0 d_Mo_shifts_173 rfl rfl ?_
            refine mk_callVi (nx := 177) (n := 0) (As := []) (rest := []) X 0 (by decide) (mh_Mo cs ad _) rfl (c_Mo_size l D cs ad hi _ J9 hR0) (g_Mo_size wd_743) rfl ⟨rfl, rfl⟩ (by decide +kernel) ⟨by decide, by decide⟩ rfl (Nat.le_of_ble_eq_true rfl) rfl d_Mo_shifts_174 rfl ?_
            intro r174 J11 hJ11
            obtain ⟨rfl, rfl⟩ := hJ11
            rw [ms_size hu]
            refine mk_goto (tgt := 182) X d_Mo_shifts_177 (by decide) ?_
            refine mk_nm (fun mx hmx => ?_)
            have hmx2 : mx = mxd c := by rw [hmx, mxd]; omega
            refine mk_istore (nx := 184) X [(5, .int (zi mx)), (0, .ref (ad 0)), (1, .int (zi (u : Int))), (3, .int (zi (c (3 + u) 1))), (4, .int (zi (c (3 + u) 2)))] d_Mo_shifts_182 (by decide) rfl rfl ?_
            refine mk_iconst (nx := 185) X d_Mo_shifts_184 rfl ?_
            refine mk_istore (nx := 187) X [(6, .int (zi 0)), (5, .int (zi mx)), (0, .ref (ad 0)), (1, .int (zi (u : Int))), (3, .int (zi (c (3 + u) 1))), (4, .int (zi (c (3 + u) 2)))] d_Mo_shifts_185 (by decide) rfl rfl ?_
            refine mk_lv [2, 3, 4, 5, 1, 0] rfl ?_
            exact L187 _ 0 mx J9 (by first | exact hmx | exact hmx2) (by omega) (by first | (rw [show 25 * (d + 1) = 25 * d + (i + 12).toNat by omega]; exact hMc) | exact hM0) (Nat.lt_succ_self _)
        · skip
          have hvk := hV k (by omega)
          refine mk_aloadn (nx := 122) X 0 d_Mo_shifts_121 rfl rfl ?_
          refine mk_get (nx := 125) (v := .ref (ad 15)) X 0 (by decide) (mh_Mo cs ad _) rfl in_Mo 28 (by decide) wd_623 rfl rfl d_Mo_shifts_122 rfl ?_
          refine mk_iload (nx := 127) X 4 d_Mo_shifts_125 rfl rfl ?_
          refine mk_aloadn (nx := 128) X 0 d_Mo_shifts_127 rfl rfl ?_
          refine mk_get (nx := 131) (v := .ref (ad 3)) X 0 (by decide) (mh_Mo cs ad _) rfl in_Mo 3 (by decide) wd_598 rfl rfl d_Mo_shifts_128 rfl ?_
          refine mk_iload (nx := 133) X 4 d_Mo_shifts_131 rfl rfl ?_
          refine mk_zald (nx := 134) (j := k) X 3 1 (by decide) (mh_on cs ad _) rfl (by omega) (by omega) (by decide) rfl d_Mo_shifts_133 rfl ?_
          rw [show Ja 3 k = c (3 + k) 0 from ((f3 k (by omega)).trans (if_neg (by omega)))]
          refine mk_zast (nx := 135) (j := k) X 15 1 (by decide) (mh_were cs ad) rfl (by omega) (by omega) (by decide) (by omega) rfl d_Mo_shifts_134 rfl ?_
          obtain ⟨J12, hJ12⟩ : ∃ W_ : Wo, W_ = up2 Ja 15 k (c (3 + k) 0) := ⟨_, rfl⟩
          refine mk_same hJ12.symm ?_
          have hJ12s : J12 15 k = c (3 + k) 0 := hJ12 ▸ up2_ss Ja 15 k (c (3 + k) 0)
          have hJ12o : ∀ a b, (a ≠ 15 ∨ b ≠ k) → J12 a b = Ja a b := hJ12 ▸ up2_o Ja 15 k (c (3 + k) 0)
          refine mk_aloadn (nx := 136) X 0 d_Mo_shifts_135 rfl rfl ?_
          refine mk_get (nx := 139) (v := .ref (ad 3)) X 0 (by decide) (mh_Mo cs ad _) rfl in_Mo 3 (by decide) wd_598 rfl rfl d_Mo_shifts_136 rfl ?_
          refine mk_iload (nx := 141) X 4 d_Mo_shifts_139 rfl rfl ?_
          refine mk_iload (nx := 143) X 4 d_Mo_shifts_141 rfl rfl ?_
          refine mk_iloadn (nx := 144) X 1 d_Mo_shifts_143 rfl rfl ?_
          refine mk_icmp_ne (tgt := 151) (nx := 147) X d_Mo_shifts_144 (by omega) (by omega) (by decide) rfl (fun c144 => ?_) (fun c144 => ?_)
          · skip
            refine mk_iconst (nx := 152) X d_Mo_shifts_151 rfl ?_
            refine mk_zast (nx := 153) (j := k) X 3 1 (by decide) (mh_on cs ad) rfl (by omega) (by omega) (by decide) (by omega) rfl d_Mo_shifts_152 rfl ?_
            obtain ⟨J13, hJ13⟩ : ∃ W_ : Wo, W_ = up2 J12 3 k 0 := ⟨_, rfl⟩
            refine mk_same hJ13.symm ?_
            have hJ13s : J13 3 k = 0 := hJ13 ▸ up2_ss J12 3 k 0
            have hJ13o : ∀ a b, (a ≠ 3 ∨ b ≠ k) → J13 a b = J12 a b := hJ13 ▸ up2_o J12 3 k 0
            refine mk_iinc (nx := 156) X 4 [(5, .int (zi ((k : Int) + 1))), (0, .ref (ad 0)), (1, .int (zi (u : Int))), (3, .int (zi (c (3 + u) 1))), (4, .int (zi (c (3 + u) 2)))] d_Mo_shifts_153 rfl (by decide) rfl rfl ?_
            refine mk_goto (tgt := 115) X d_Mo_shifts_156 (by decide) ?_
            refine mk_lv [1, 2, 3, 4, 0] rfl ?_
            exact ih115 (k + 1) J13 (by omega) (by first | exact fun _ _ _ _ => rfl | exact fun a b x y => (hJ13o a b (by omega)).trans ((hJ12o a b (by omega)).trans (fa a b x y))) (by first | exact fun j hj => by rw [if_neg (by omega)]; exact (iV j hj).1 | exact on_step f3 hJ12 hJ13 (by first | rw [if_pos (by omega)] | rw [if_neg (by omega)]) hk.1) (by first | exact fun j a b => absurd a (by omega) | exact were_step f15 hJ12 hJ13 rfl) (by omega)
          · skip
            refine mk_iconst (nx := 148) X d_Mo_shifts_147 rfl ?_
            refine mk_goto (tgt := 152) X d_Mo_shifts_148 (by decide) ?_
            refine mk_zast (nx := 153) (j := k) X 3 1 (by decide) (mh_on cs ad) rfl (by omega) (by omega) (by decide) (by omega) rfl d_Mo_shifts_152 rfl ?_
            obtain ⟨J14, hJ14⟩ : ∃ W_ : Wo, W_ = up2 J12 3 k 1 := ⟨_, rfl⟩
            refine mk_same hJ14.symm ?_
            have hJ14s : J14 3 k = 1 := hJ14 ▸ up2_ss J12 3 k 1
            have hJ14o : ∀ a b, (a ≠ 3 ∨ b ≠ k) → J14 a b = J12 a b := hJ14 ▸ up2_o J12 3 k 1
            refine mk_iinc (nx := 156) X 4 [(5, .int (zi ((k : Int) + 1))), (0, .ref (ad 0)), (1, .int (zi (u : Int))), (3, .int (zi (c (3 + u) 1))), (4, .int (zi (c (3 + u) 2)))] d_Mo_shifts_153 rfl (by decide) rfl rfl ?_
            refine mk_goto (tgt := 115) X d_Mo_shifts_156 (by decide) ?_
            refine mk_lv [1, 2, 3, 4, 0] rfl ?_
            exact ih115 (k + 1) J14 (by omega) (by first | exact fun _ _ _ _ => rfl | exact fun a b x y => (hJ14o a b (by omega)).trans ((hJ12o a b (by omega)).trans (fa a b x y))) (by first | exact fun j hj => by rw [if_neg (by omega)]; exact (iV j hj).1 | exact on_step f3 hJ12 hJ14 (by first | rw [if_pos (by omega)] | rw [if_neg (by omega)]) hk.1) (by first | exact fun j a b => absurd a (by omega) | exact were_step f15 hJ12 hJ14 rfl) (by omega)
    refine mk_aloadn (nx := 98) X 0 d_Mo_shifts_97 rfl rfl ?_
    refine mk_get (nx := 101) (v := .ref (ad 4)) X 0 (by decide) (mh_Mo cs ad _) rfl in_Mo 4 (by decide) wd_599 rfl rfl d_Mo_shifts_98 rfl ?_
    refine mk_iloadn (nx := 102) X 1 d_Mo_shifts_101 rfl rfl ?_
    refine mk_iald (nx := 103) (j := u) X 4 0 (by decide) (mh_delays cs ad _) rfl (by omega) (by omega) (by decide) rfl d_Mo_shifts_102 rfl ?_
    rw [show I 4 u = c (3 + u) 1 from (iV u (by omega)).2.1]
    refine mk_istoren (nx := 104) X [(3, .int (zi (c (3 + u) 1))), (0, .ref (ad 0)), (1, .int (zi (u : Int)))] d_Mo_shifts_103 (by decide) rfl rfl ?_
    refine mk_aloadn (nx := 105) X 1 d_Mo_shifts_104 rfl rfl ?_
    refine mk_get (nx := 108) (v := .ref (ad 5)) X 0 (by decide) (mh_Mo cs ad _) rfl in_Mo 5 (by decide) wd_600 rfl rfl d_Mo_shifts_105 rfl ?_
    refine mk_iloadn (nx := 109) X 2 d_Mo_shifts_108 rfl rfl ?_
    refine mk_iald (nx := 110) (j := u) X 5 0 (by decide) (mh_intervals cs ad _) rfl (by omega) (by omega) (by decide) rfl d_Mo_shifts_109 rfl ?_
    rw [show I 5 u = c (3 + u) 2 from (iV u (by omega)).2.2.1]
    refine mk_istore (nx := 112) X [(4, .int (zi (c (3 + u) 2))), (3, .int (zi (c (3 + u) 1))), (0, .ref (ad 0)), (1, .int (zi (u : Int)))] d_Mo_shifts_110 (by decide) rfl rfl ?_
    refine mk_iconst (nx := 113) X d_Mo_shifts_112 rfl ?_
    refine mk_istore (nx := 115) X [(5, .int (zi 1)), (4, .int (zi (c (3 + u) 2))), (3, .int (zi (c (3 + u) 1))), (0, .ref (ad 0)), (1, .int (zi (u : Int)))] d_Mo_shifts_113 (by decide) rfl rfl ?_
    refine mk_lv [3, 4, 2, 1, 0] rfl ?_
    exact L115 _ 1 I (by omega) (by first | exact fun _ _ _ _ => rfl | exact fun a b x y => (hIo a b (by omega)).trans ((hIo a b (by omega)).trans (fa a b x y))) (by first | exact fun j hj => by rw [if_neg (by omega)]; exact (iV j hj).1 | exact on_step f3 hI hI (by first | rw [if_pos (by omega)] | rw [if_neg (by omega)]) hk.1) (by first | exact fun j a b => absurd a (by omega) | exact were_step f15 hI hI rfl) (Nat.lt_succ_self _)
  have L16 : ∀ nf : Nat, ∀ (k : Nat) (x : Int), ((k : Int) ≤ c 0 0) → (0 ≤ x ∧ x ≤ 1) → (x = 1 → ∃ j, j < k ∧ c 1 j = -2) → (x = 0 → ∀ j, j < k → ¬ c 1 j = -2) → 24 - k < nf → mk_A p_ l e_ rm_Mo_shifts s_ m_ as_ bl_ me_ co_ Q_ 8 D cmcl (mo_sh cs ad) 16 16 ad I [(0, .ref (ad 0)), (1, .int (zi (u : Int))), (2, .int (zi x)), (3, .int (zi (k : Int)))] 16 [] := by
    intro nf
    induction nf with
    | zero => intro k x hk hx01 hx1 hx0 hn; exact absurd hn (Nat.not_lt_zero _)
    | succ nf ih16 =>
      intro k x hk hx01 hx1 hx0 hn16
      refine mk_iloadn (nx := 17) X 3 d_Mo_shifts_16 rfl rfl ?_
      refine mk_aloadn (nx := 18) X 0 d_Mo_shifts_17 rfl rfl ?_
      refine mk_get (nx := 21) (v := .int (zi (I 0 2))) X 0 (by decide) (mh_Mo cs ad _) rfl in_Mo 2 (by decide) wd_597 rfl rfl d_Mo_shifts_18 rfl ?_
      rw [show I 0 2 = c 0 0 from i12]
      refine mk_icmp_ge (tgt := 51) (nx := 24) X d_Mo_shifts_21 (by omega) (by omega) (by decide) rfl (fun c21 => ?_) (fun c21 => ?_)
      · skip
        have hv5 := hV u (by omega)
        have hsz := an_size_b h.1.1
        have hm := mul_rng hsz hv5.2.2.2.2
        refine mk_aloadn (nx := 52) X 0 d_Mo_shifts_51 rfl rfl ?_
        refine mk_get (nx := 55) (v := .ref (ad 3)) X 0 (by decide) (mh_Mo cs ad _) rfl in_Mo 3 (by decide) wd_598 rfl rfl d_Mo_shifts_52 rfl ?_
        refine mk_iloadn (nx := 56) X 1 d_Mo_shifts_55 rfl rfl ?_
        refine mk_zald (nx := 57) (j := u) X 3 1 (by decide) (mh_on cs ad _) rfl (by omega) (by omega) (by decide) rfl d_Mo_shifts_56 rfl ?_
        rw [show I 3 u = c (3 + u) 0 from (iV u (by omega)).1]
        refine mk_if_eq (tgt := 94) (nx := 60) X d_Mo_shifts_57 (by omega) (by decide) rfl (fun c57 => ?_) (fun c57 => ?_)
        · skip
          refine mk_bipush (nx := 96) X d_Mo_shifts_94 (by decide) rfl ?_
          exact hret _ _ _ _ d_Mo_shifts_96 (by exact ⟨c, shfR_no hu (fun z => by first | (have z1 := z.1; omega) | (have z1 := z.1; have z2 := z.2.2.2; have z3 := z.2.2.1; rw [tl_0 h.1.2.2.1] at z3; unfold tl at z2; omega) | (obtain ⟨j, a, b⟩ := hx1 (by omega); exact z.2.1 j (by omega) b)), h⟩)
        · skip
          refine mk_iloadn (nx := 61) X 2 d_Mo_shifts_60 rfl rfl ?_
          refine mk_if_ne (tgt := 94) (nx := 64) X d_Mo_shifts_61 (by omega) (by decide) rfl (fun c61 => ?_) (fun c61 => ?_)
          · skip
            refine mk_bipush (nx := 96) X d_Mo_shifts_94 (by decide) rfl ?_
            exact hret _ _ _ _ d_Mo_shifts_96 (by exact ⟨c, shfR_no hu (fun z => by first | (have z1 := z.1; omega) | (have z1 := z.1; have z2 := z.2.2.2; have z3 := z.2.2.1; rw [tl_0 h.1.2.2.1] at z3; unfold tl at z2; omega) | (obtain ⟨j, a, b⟩ := hx1 (by omega); exact z.2.1 j (by omega) b)), h⟩)
          · skip
            refine mk_aloadn (nx := 65) X 0 d_Mo_shifts_64 rfl rfl ?_
            refine mk_get (nx := 68) (v := .int (zi (I 0 12))) X 0 (by decide) (mh_Mo cs ad _) rfl in_Mo 12 (by decide) wd_607 rfl rfl d_Mo_shifts_65 rfl ?_
            rw [show I 0 12 = c 0 6 from i07]
            refine mk_if_le (tgt := 97) (nx := 71) X d_Mo_shifts_68 (by omega) (by decide) rfl (fun c68 => ?_) (fun c68 => ?_)
            · skip
              refine mk_lv [0, 1] rfl ?_
              exact L97  (by exact ⟨by omega, fun j hj => hx0 (by omega) j (by omega), by rw [tl_0 h.1.2.2.1]; omega, by unfold tl; omega⟩)
            · skip
              refine mk_aloadn (nx := 72) X 0 d_Mo_shifts_71 rfl rfl ?_
              refine mk_iloadn (nx := 73) X 1 d_Mo_shifts_72 rfl rfl ?_
              refine mk_callVi (nx := 76) (n := 1) (As := [.int (zi (u : Int))]) (rest := []) X 0 (by decide) (mh_Mo cs ad _) rfl (c_Mo_lineSize l D cs ad hi c I h u (by omega)) (g_Mo_lineSize wd_739) rfl ⟨rfl, rfl⟩ (by decide +kernel) ⟨by decide, by decide⟩ rfl (Nat.le_of_ble_eq_true rfl) rfl d_Mo_shifts_73 rfl ?_
              intro r73 J15 hJ15
              obtain ⟨rfl, rfl⟩ := hJ15
              refine mk_aloadn (nx := 77) X 0 d_Mo_shifts_76 rfl rfl ?_
              refine mk_get (nx := 80) (v := .int (zi (I 0 12))) X 0 (by decide) (mh_Mo cs ad _) rfl in_Mo 12 (by decide) wd_607 rfl rfl d_Mo_shifts_77 rfl ?_
              rw [show I 0 12 = c 0 6 from i07]
              refine mk_icmp_gt (tgt := 94) (nx := 83) X d_Mo_shifts_80 (by omega) (by omega) (by decide) rfl (fun c80 => ?_) (fun c80 => ?_)
              · skip
                refine mk_bipush (nx := 96) X d_Mo_shifts_94 (by decide) rfl ?_
                exact hret _ _ _ _ d_Mo_shifts_96 (by exact ⟨c, shfR_no hu (fun z => by first | (have z1 := z.1; omega) | (have z1 := z.1; have z2 := z.2.2.2; have z3 := z.2.2.1; rw [tl_0 h.1.2.2.1] at z3; unfold tl at z2; omega) | (obtain ⟨j, a, b⟩ := hx1 (by omega); exact z.2.1 j (by omega) b)), h⟩)
              · skip
                refine mk_aloadn (nx := 84) X 0 d_Mo_shifts_83 rfl rfl ?_
                refine mk_callVi (nx := 87) (n := 0) (As := []) (rest := []) X 0 (by decide) (mh_Mo cs ad _) rfl (c_Mo_size l D cs ad hi c I h) (g_Mo_size wd_743) rfl ⟨rfl, rfl⟩ (by decide +kernel) ⟨by decide, by decide⟩ rfl (Nat.le_of_ble_eq_true rfl) rfl d_Mo_shifts_84 rfl ?_
                intro r84 J16 hJ16
                obtain ⟨rfl, rfl⟩ := hJ16
                refine mk_aloadn (nx := 88) X 0 d_Mo_shifts_87 rfl rfl ?_
                refine mk_get (nx := 91) (v := .int (zi (I 0 12))) X 0 (by decide) (mh_Mo cs ad _) rfl in_Mo 12 (by decide) wd_607 rfl rfl d_Mo_shifts_88 rfl ?_
                rw [show I 0 12 = c 0 6 from i07]
                refine mk_icmp_le (tgt := 97) (nx := 94) X d_Mo_shifts_91 (by omega) (by omega) (by decide) rfl (fun c91 => ?_) (fun c91 => ?_)
                · skip
                  refine mk_lv [0, 1] rfl ?_
                  exact L97  (by exact ⟨by omega, fun j hj => hx0 (by omega) j (by omega), by rw [tl_0 h.1.2.2.1]; omega, by unfold tl; omega⟩)
                · skip
                  refine mk_bipush (nx := 96) X d_Mo_shifts_94 (by decide) rfl ?_
                  exact hret _ _ _ _ d_Mo_shifts_96 (by exact ⟨c, shfR_no hu (fun z => by first | (have z1 := z.1; omega) | (have z1 := z.1; have z2 := z.2.2.2; have z3 := z.2.2.1; rw [tl_0 h.1.2.2.1] at z3; unfold tl at z2; omega) | (obtain ⟨j, a, b⟩ := hx1 (by omega); exact z.2.1 j (by omega) b)), h⟩)
      · skip
        refine mk_iloadn (nx := 25) X 2 d_Mo_shifts_24 rfl rfl ?_
        refine mk_if_ne (tgt := 39) (nx := 28) X d_Mo_shifts_25 (by omega) (by decide) rfl (fun c25 => ?_) (fun c25 => ?_)
        · skip
          refine mk_iconst (nx := 40) X d_Mo_shifts_39 rfl ?_
          refine mk_goto (tgt := 44) X d_Mo_shifts_40 (by decide) ?_
          refine mk_istoren (nx := 45) X [(2, .int (zi 1)), (0, .ref (ad 0)), (1, .int (zi (u : Int))), (3, .int (zi (k : Int)))] d_Mo_shifts_44 (by decide) rfl rfl ?_
          refine mk_iinc (nx := 48) X 3 [(3, .int (zi ((k : Int) + 1))), (2, .int (zi 1)), (0, .ref (ad 0)), (1, .int (zi (u : Int)))] d_Mo_shifts_45 rfl (by decide) rfl rfl ?_
          refine mk_goto (tgt := 16) X d_Mo_shifts_48 (by decide) ?_
          refine mk_lv [2, 3, 1, 0] rfl ?_
          exact ih16 (k + 1) 1 (by omega) (by omega) (by first | exact fun z => absurd z (by omega) | exact fun _ => (hx1 (by omega)).elim (fun j q => ⟨j, by omega, q.2⟩) | exact fun _ => ⟨k, by omega, by omega⟩) (by first | exact fun z => absurd z (by omega) | exact fun _ => lt_0 | exact fun _ => lt_s (hx0 (by omega)) (by omega)) (by omega)
        · skip
          have hpk := hN k (by omega)
          refine mk_aloadn (nx := 29) X 0 d_Mo_shifts_28 rfl rfl ?_
          refine mk_get (nx := 32) (v := .ref (ad 1)) X 0 (by decide) (mh_Mo cs ad _) rfl in_Mo 0 (by decide) wd_595 rfl rfl d_Mo_shifts_29 rfl ?_
          refine mk_iloadn (nx := 33) X 3 d_Mo_shifts_32 rfl rfl ?_
          refine mk_iald (nx := 34) (j := k) X 1 0 (by decide) (mh_pitches cs ad _) rfl (by omega) (by omega) (by decide) rfl d_Mo_shifts_33 rfl ?_
          rw [show I 1 k = c 1 k from (iN k (by omega)).1]
          refine mk_bipush (nx := 36) X d_Mo_shifts_34 (by decide) rfl ?_
          refine mk_icmp_ne (tgt := 43) (nx := 39) X d_Mo_shifts_36 (by omega) (by omega) (by decide) rfl (fun c36 => ?_) (fun c36 => ?_)
          · skip
            refine mk_iconst (nx := 44) X d_Mo_shifts_43 rfl ?_
            refine mk_istoren (nx := 45) X [(2, .int (zi 0)), (0, .ref (ad 0)), (1, .int (zi (u : Int))), (3, .int (zi (k : Int)))] d_Mo_shifts_44 (by decide) rfl rfl ?_
            refine mk_iinc (nx := 48) X 3 [(3, .int (zi ((k : Int) + 1))), (2, .int (zi 0)), (0, .ref (ad 0)), (1, .int (zi (u : Int)))] d_Mo_shifts_45 rfl (by decide) rfl rfl ?_
            refine mk_goto (tgt := 16) X d_Mo_shifts_48 (by decide) ?_
            refine mk_lv [2, 3, 1, 0] rfl ?_
            exact ih16 (k + 1) 0 (by omega) (by omega) (by first | exact fun z => absurd z (by omega) | exact fun _ => (hx1 (by omega)).elim (fun j q => ⟨j, by omega, q.2⟩) | exact fun _ => ⟨k, by omega, by omega⟩) (by first | exact fun z => absurd z (by omega) | exact fun _ => lt_0 | exact fun _ => lt_s (hx0 (by omega)) (by omega)) (by omega)
          · skip
            refine mk_iconst (nx := 40) X d_Mo_shifts_39 rfl ?_
            refine mk_goto (tgt := 44) X d_Mo_shifts_40 (by decide) ?_
            refine mk_istoren (nx := 45) X [(2, .int (zi 1)), (0, .ref (ad 0)), (1, .int (zi (u : Int))), (3, .int (zi (k : Int)))] d_Mo_shifts_44 (by decide) rfl rfl ?_
            refine mk_iinc (nx := 48) X 3 [(3, .int (zi ((k : Int) + 1))), (2, .int (zi 1)), (0, .ref (ad 0)), (1, .int (zi (u : Int)))] d_Mo_shifts_45 rfl (by decide) rfl rfl ?_
            refine mk_goto (tgt := 16) X d_Mo_shifts_48 (by decide) ?_
            refine mk_lv [2, 3, 1, 0] rfl ?_
            exact ih16 (k + 1) 1 (by omega) (by omega) (by first | exact fun z => absurd z (by omega) | exact fun _ => (hx1 (by omega)).elim (fun j q => ⟨j, by omega, q.2⟩) | exact fun _ => ⟨k, by omega, by omega⟩) (by first | exact fun z => absurd z (by omega) | exact fun _ => lt_0 | exact fun _ => lt_s (hx0 (by omega)) (by omega)) (by omega)
  refine mk_iloadn (nx := 1) X 1 d_Mo_shifts_0 rfl rfl ?_
  refine mk_iconst (nx := 2) X d_Mo_shifts_1 rfl ?_
  refine mk_icmp_lt (tgt := 10) (nx := 5) X d_Mo_shifts_2 (by omega) (by omega) (by decide) rfl (fun c2 => ?_) (fun c2 => ?_)
  · omega
  · skip
    refine mk_iloadn (nx := 6) X 1 d_Mo_shifts_5 rfl rfl ?_
    refine mk_iconst (nx := 7) X d_Mo_shifts_6 rfl ?_
    refine mk_icmp_le (tgt := 12) (nx := 10) X d_Mo_shifts_7 (by omega) (by omega) (by decide) rfl (fun c7 => ?_) (fun c7 => ?_)
    · skip
      refine mk_iconst (nx := 13) X d_Mo_shifts_12 rfl ?_
      refine mk_istoren (nx := 14) X [(2, .int (zi 0)), (0, .ref (ad 0)), (1, .int (zi (u : Int)))] d_Mo_shifts_13 (by decide) rfl rfl ?_
      refine mk_iconst (nx := 15) X d_Mo_shifts_14 rfl ?_
      refine mk_istoren (nx := 16) X [(3, .int (zi 0)), (2, .int (zi 0)), (0, .ref (ad 0)), (1, .int (zi (u : Int)))] d_Mo_shifts_15 (by decide) rfl rfl ?_
      refine mk_lv [2, 3, 1, 0] rfl ?_
      exact L16 _ 0 0 (by omega) (by omega) (by first | exact fun z => absurd z (by omega) | exact fun _ => (hx1 (by omega)).elim (fun j q => ⟨j, by omega, q.2⟩) | exact fun _ => ⟨k, by omega, by omega⟩) (by first | exact fun z => absurd z (by omega) | exact fun _ => lt_0 | exact fun _ => lt_s (hx0 (by omega)) (by omega)) (Nat.lt_succ_self _)
    · omega

-- CanonMakerModel.shifts(I)I
set_option maxHeartbeats 4000000 in
set_option maxRecDepth 100000 in
theorem c_Mo_shifts_b (l : Launch) (D : va_G) (cs : Nat → ClassId) (ad : Nat → Nat) (hi : mo_inj ad) (c I : Wo) (h : moR c I) (v : Int) (h_v : -2147483648 ≤ v ∧ v < 2147483648) (hv : v < 1 ∨ 3 < v) : mo_C l D cs ad y_Mo_shifts ws_Mo_shifts rm_Mo_shifts [.ref (ad 0), .int (zi v)] I (mk_pi (fun r J => ∃ d, shfR c v r d ∧ moR d J)) := by
  refine mk_meti (own := "CanonMakerModel") (Ts := wA) hi (Nat.le_refl _) (by decide) rfl (fun w h => List.mem_cons_of_mem _ h) rfl (Nat.le_of_ble_eq_true rfl) [(0, .ref (ad 0)), (1, .int (zi v))] rfl ?_
  intro p_ e_ s_ m_ as_ bl_ me_ co_ Q_ X hret
  refine mk_iloadn (nx := 1) X 1 d_Mo_shifts_0 rfl rfl ?_
  refine mk_iconst (nx := 2) X d_Mo_shifts_1 rfl ?_
  refine mk_icmp_lt (tgt := 10) (nx := 5) X d_Mo_shifts_2 (by omega) (by omega) (by decide) rfl (fun c2 => ?_) (fun c2 => ?_)
  · skip
    refine mk_iconst (nx := 11) X d_Mo_shifts_10 rfl ?_
    exact hret _ _ _ _ d_Mo_shifts_11 (by exact ⟨c, Or.inl ⟨hv, rfl, rfl⟩, h⟩)
  · skip
    refine mk_iloadn (nx := 6) X 1 d_Mo_shifts_5 rfl rfl ?_
    refine mk_iconst (nx := 7) X d_Mo_shifts_6 rfl ?_
    refine mk_icmp_le (tgt := 12) (nx := 10) X d_Mo_shifts_7 (by omega) (by omega) (by decide) rfl (fun c7 => ?_) (fun c7 => ?_)
    · omega
    · skip
      refine mk_iconst (nx := 11) X d_Mo_shifts_10 rfl ?_
      exact hret _ _ _ _ d_Mo_shifts_11 (by exact ⟨c, Or.inl ⟨hv, rfl, rfl⟩, h⟩)

theorem c_Mo_shifts (l : Launch) (D : va_G) (cs : Nat → ClassId) (ad : Nat → Nat) (hi : mo_inj ad) (c I : Wo) (h : moR c I) (v : Int) (h_v : -2147483648 ≤ v ∧ v < 2147483648) : mo_C l D cs ad y_Mo_shifts ws_Mo_shifts rm_Mo_shifts [.ref (ad 0), .int (zi v)] I (mk_pi (fun r J => ∃ d, shfR c v r d ∧ moR d J)) := by
  by_cases hv : v < 1 ∨ 3 < v
  · exact c_Mo_shifts_b l D cs ad hi c I h v h_v hv
  · obtain ⟨u, rfl⟩ : ∃ u : Nat, v = u := ⟨v.toNat, by omega⟩
    exact c_Mo_shifts_a l D cs ad hi c I h u (by omega)
