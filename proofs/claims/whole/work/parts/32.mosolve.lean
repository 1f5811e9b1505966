
-- CanonMakerModel.solve(I)I
theorem d_Mo_solve_0 : decode prog_9_method_34_code 0 = .ok (.iload_n 1, 1) := by decide +kernel
theorem d_Mo_solve_1 : decode prog_9_method_34_code 1 = .ok (.ifCond .lt 10, 3) := by decide +kernel
theorem d_Mo_solve_4 : decode prog_9_method_34_code 4 = .ok (.iload_n 1, 1) := by decide +kernel
theorem d_Mo_solve_5 : decode prog_9_method_34_code 5 = .ok (.sipush 3000, 3) := by decide +kernel
theorem d_Mo_solve_8 : decode prog_9_method_34_code 8 = .ok (.if_icmp .le 6, 3) := by decide +kernel
theorem d_Mo_solve_11 : decode prog_9_method_34_code 11 = .ok (.bipush (-2), 2) := by decide +kernel
theorem d_Mo_solve_13 : decode prog_9_method_34_code 13 = .ok (.ireturn, 1) := by decide +kernel
theorem d_Mo_solve_14 : decode prog_9_method_34_code 14 = .ok (.aload_n 0, 1) := by decide +kernel
theorem d_Mo_solve_15 : decode prog_9_method_34_code 15 = .ok (.invokevirtual 143, 3) := by decide +kernel
theorem d_Mo_solve_18 : decode prog_9_method_34_code 18 = .ok (.ifCond .eq 6, 3) := by decide +kernel
theorem d_Mo_solve_21 : decode prog_9_method_34_code 21 = .ok (.bipush (-3), 2) := by decide +kernel
theorem d_Mo_solve_23 : decode prog_9_method_34_code 23 = .ok (.ireturn, 1) := by decide +kernel
theorem d_Mo_solve_24 : decode prog_9_method_34_code 24 = .ok (.aload_n 0, 1) := by decide +kernel
theorem d_Mo_solve_25 : decode prog_9_method_34_code 25 = .ok (.iconst 0, 1) := by decide +kernel
theorem d_Mo_solve_26 : decode prog_9_method_34_code 26 = .ok (.putfield 150, 3) := by decide +kernel
theorem d_Mo_solve_29 : decode prog_9_method_34_code 29 = .ok (.iconst 0, 1) := by decide +kernel
theorem d_Mo_solve_30 : decode prog_9_method_34_code 30 = .ok (.istore_n 2, 1) := by decide +kernel
theorem d_Mo_solve_31 : decode prog_9_method_34_code 31 = .ok (.iconst 0, 1) := by decide +kernel
theorem d_Mo_solve_32 : decode prog_9_method_34_code 32 = .ok (.istore_n 3, 1) := by decide +kernel
theorem d_Mo_solve_33 : decode prog_9_method_34_code 33 = .ok (.iload_n 3, 1) := by decide +kernel
theorem d_Mo_solve_34 : decode prog_9_method_34_code 34 = .ok (.aload_n 0, 1) := by decide +kernel
theorem d_Mo_solve_35 : decode prog_9_method_34_code 35 = .ok (.getfield 66, 3) := by decide +kernel
theorem d_Mo_solve_38 : decode prog_9_method_34_code 38 = .ok (.if_icmp .ge 30, 3) := by decide +kernel
theorem d_Mo_solve_41 : decode prog_9_method_34_code 41 = .ok (.aload_n 0, 1) := by decide +kernel
theorem d_Mo_solve_42 : decode prog_9_method_34_code 42 = .ok (.getfield 7, 3) := by decide +kernel
theorem d_Mo_solve_45 : decode prog_9_method_34_code 45 = .ok (.iload_n 3, 1) := by decide +kernel
theorem d_Mo_solve_46 : decode prog_9_method_34_code 46 = .ok (.iaload, 1) := by decide +kernel
theorem d_Mo_solve_47 : decode prog_9_method_34_code 47 = .ok (.bipush (-2), 2) := by decide +kernel
theorem d_Mo_solve_49 : decode prog_9_method_34_code 49 = .ok (.if_icmp .ne 13, 3) := by decide +kernel
theorem d_Mo_solve_52 : decode prog_9_method_34_code 52 = .ok (.aload_n 0, 1) := by decide +kernel
theorem d_Mo_solve_53 : decode prog_9_method_34_code 53 = .ok (.getfield 54, 3) := by decide +kernel
theorem d_Mo_solve_56 : decode prog_9_method_34_code 56 = .ok (.iload_n 2, 1) := by decide +kernel
theorem d_Mo_solve_57 : decode prog_9_method_34_code 57 = .ok (.iload_n 3, 1) := by decide +kernel
theorem d_Mo_solve_58 : decode prog_9_method_34_code 58 = .ok (.iastore, 1) := by decide +kernel
theorem d_Mo_solve_59 : decode prog_9_method_34_code 59 = .ok (.iinc 2 1, 3) := by decide +kernel
theorem d_Mo_solve_62 : decode prog_9_method_34_code 62 = .ok (.iinc 3 1, 3) := by decide +kernel
theorem d_Mo_solve_65 : decode prog_9_method_34_code 65 = .ok (.goto (-32), 3) := by decide +kernel
theorem d_Mo_solve_68 : decode prog_9_method_34_code 68 = .ok (.aload_n 0, 1) := by decide +kernel
theorem d_Mo_solve_69 : decode prog_9_method_34_code 69 = .ok (.invokevirtual 153, 3) := by decide +kernel
theorem d_Mo_solve_72 : decode prog_9_method_34_code 72 = .ok (.ifCond .ne 5, 3) := by decide +kernel
theorem d_Mo_solve_75 : decode prog_9_method_34_code 75 = .ok (.iconst 0, 1) := by decide +kernel
theorem d_Mo_solve_76 : decode prog_9_method_34_code 76 = .ok (.ireturn, 1) := by decide +kernel
theorem d_Mo_solve_77 : decode prog_9_method_34_code 77 = .ok (.iconst 0, 1) := by decide +kernel
theorem d_Mo_solve_78 : decode prog_9_method_34_code 78 = .ok (.istore_n 3, 1) := by decide +kernel
theorem d_Mo_solve_79 : decode prog_9_method_34_code 79 = .ok (.iconst 0, 1) := by decide +kernel
theorem d_Mo_solve_80 : decode prog_9_method_34_code 80 = .ok (.istore 4, 2) := by decide +kernel
theorem d_Mo_solve_82 : decode prog_9_method_34_code 82 = .ok (.iload_n 3, 1) := by decide +kernel
theorem d_Mo_solve_83 : decode prog_9_method_34_code 83 = .ok (.ifCond .lt 147, 3) := by decide +kernel
theorem d_Mo_solve_86 : decode prog_9_method_34_code 86 = .ok (.iload_n 3, 1) := by decide +kernel
theorem d_Mo_solve_87 : decode prog_9_method_34_code 87 = .ok (.iload_n 2, 1) := by decide +kernel
theorem d_Mo_solve_88 : decode prog_9_method_34_code 88 = .ok (.if_icmp .ge 142, 3) := by decide +kernel
theorem d_Mo_solve_91 : decode prog_9_method_34_code 91 = .ok (.aload_n 0, 1) := by decide +kernel
theorem d_Mo_solve_92 : decode prog_9_method_34_code 92 = .ok (.getfield 54, 3) := by decide +kernel
theorem d_Mo_solve_95 : decode prog_9_method_34_code 95 = .ok (.iload_n 3, 1) := by decide +kernel
theorem d_Mo_solve_96 : decode prog_9_method_34_code 96 = .ok (.iaload, 1) := by decide +kernel
theorem d_Mo_solve_97 : decode prog_9_method_34_code 97 = .ok (.istore 5, 2) := by decide +kernel
theorem d_Mo_solve_99 : decode prog_9_method_34_code 99 = .ok (.aload_n 0, 1) := by decide +kernel
theorem d_Mo_solve_100 : decode prog_9_method_34_code 100 = .ok (.getfield 7, 3) := by decide +kernel
theorem d_Mo_solve_103 : decode prog_9_method_34_code 103 = .ok (.iload 5, 2) := by decide +kernel
theorem d_Mo_solve_105 : decode prog_9_method_34_code 105 = .ok (.iaload, 1) := by decide +kernel
theorem d_Mo_solve_106 : decode prog_9_method_34_code 106 = .ok (.bipush (-2), 2) := by decide +kernel
theorem d_Mo_solve_108 : decode prog_9_method_34_code 108 = .ok (.if_icmp .ne 10, 3) := by decide +kernel
theorem d_Mo_solve_111 : decode prog_9_method_34_code 111 = .ok (.aload_n 0, 1) := by decide +kernel
theorem d_Mo_solve_112 : decode prog_9_method_34_code 112 = .ok (.getfield 69, 3) := by decide +kernel
theorem d_Mo_solve_115 : decode prog_9_method_34_code 115 = .ok (.goto 12, 3) := by decide +kernel
theorem d_Mo_solve_118 : decode prog_9_method_34_code 118 = .ok (.aload_n 0, 1) := by decide +kernel
theorem d_Mo_solve_119 : decode prog_9_method_34_code 119 = .ok (.getfield 7, 3) := by decide +kernel
theorem d_Mo_solve_122 : decode prog_9_method_34_code 122 = .ok (.iload 5, 2) := by decide +kernel
theorem d_Mo_solve_124 : decode prog_9_method_34_code 124 = .ok (.iaload, 1) := by decide +kernel
theorem d_Mo_solve_125 : decode prog_9_method_34_code 125 = .ok (.iconst 1, 1) := by decide +kernel
theorem d_Mo_solve_126 : decode prog_9_method_34_code 126 = .ok (.iadd, 1) := by decide +kernel
theorem d_Mo_solve_127 : decode prog_9_method_34_code 127 = .ok (.istore 6, 2) := by decide +kernel
theorem d_Mo_solve_129 : decode prog_9_method_34_code 129 = .ok (.iload 6, 2) := by decide +kernel
theorem d_Mo_solve_131 : decode prog_9_method_34_code 131 = .ok (.aload_n 0, 1) := by decide +kernel
theorem d_Mo_solve_132 : decode prog_9_method_34_code 132 = .ok (.getfield 32, 3) := by decide +kernel
theorem d_Mo_solve_135 : decode prog_9_method_34_code 135 = .ok (.if_icmp .le 18, 3) := by decide +kernel
theorem d_Mo_solve_138 : decode prog_9_method_34_code 138 = .ok (.aload_n 0, 1) := by decide +kernel
theorem d_Mo_solve_139 : decode prog_9_method_34_code 139 = .ok (.getfield 7, 3) := by decide +kernel
theorem d_Mo_solve_142 : decode prog_9_method_34_code 142 = .ok (.iload 5, 2) := by decide +kernel
theorem d_Mo_solve_144 : decode prog_9_method_34_code 144 = .ok (.bipush (-2), 2) := by decide +kernel
theorem d_Mo_solve_146 : decode prog_9_method_34_code 146 = .ok (.iastore, 1) := by decide +kernel
theorem d_Mo_solve_147 : decode prog_9_method_34_code 147 = .ok (.iinc 3 (-1), 3) := by decide +kernel
theorem d_Mo_solve_150 : decode prog_9_method_34_code 150 = .ok (.goto (-68), 3) := by decide +kernel
theorem d_Mo_solve_153 : decode prog_9_method_34_code 153 = .ok (.aload_n 0, 1) := by decide +kernel
theorem d_Mo_solve_154 : decode prog_9_method_34_code 154 = .ok (.getfield 150, 3) := by decide +kernel
theorem d_Mo_solve_157 : decode prog_9_method_34_code 157 = .ok (.iload_n 1, 1) := by decide +kernel
theorem d_Mo_solve_158 : decode prog_9_method_34_code 158 = .ok (.if_icmp .ne 35, 3) := by decide +kernel
theorem d_Mo_solve_161 : decode prog_9_method_34_code 161 = .ok (.iconst 0, 1) := by decide +kernel
theorem d_Mo_solve_162 : decode prog_9_method_34_code 162 = .ok (.istore 7, 2) := by decide +kernel
theorem d_Mo_solve_164 : decode prog_9_method_34_code 164 = .ok (.iload 7, 2) := by decide +kernel
theorem d_Mo_solve_166 : decode prog_9_method_34_code 166 = .ok (.iload_n 2, 1) := by decide +kernel
theorem d_Mo_solve_167 : decode prog_9_method_34_code 167 = .ok (.if_icmp .ge 23, 3) := by decide +kernel
theorem d_Mo_solve_170 : decode prog_9_method_34_code 170 = .ok (.aload_n 0, 1) := by decide +kernel
theorem d_Mo_solve_171 : decode prog_9_method_34_code 171 = .ok (.getfield 7, 3) := by decide +kernel
theorem d_Mo_solve_174 : decode prog_9_method_34_code 174 = .ok (.aload_n 0, 1) := by decide +kernel
theorem d_Mo_solve_175 : decode prog_9_method_34_code 175 = .ok (.getfield 54, 3) := by decide +kernel
theorem d_Mo_solve_178 : decode prog_9_method_34_code 178 = .ok (.iload 7, 2) := by decide +kernel
theorem d_Mo_solve_180 : decode prog_9_method_34_code 180 = .ok (.iaload, 1) := by decide +kernel
theorem d_Mo_solve_181 : decode prog_9_method_34_code 181 = .ok (.bipush (-2), 2) := by decide +kernel
theorem d_Mo_solve_183 : decode prog_9_method_34_code 183 = .ok (.iastore, 1) := by decide +kernel
theorem d_Mo_solve_184 : decode prog_9_method_34_code 184 = .ok (.iinc 7 1, 3) := by decide +kernel
theorem d_Mo_solve_187 : decode prog_9_method_34_code 187 = .ok (.goto (-23), 3) := by decide +kernel
theorem d_Mo_solve_190 : decode prog_9_method_34_code 190 = .ok (.bipush (-6), 2) := by decide +kernel
theorem d_Mo_solve_192 : decode prog_9_method_34_code 192 = .ok (.ireturn, 1) := by decide +kernel
theorem d_Mo_solve_193 : decode prog_9_method_34_code 193 = .ok (.aload_n 0, 1) := by decide +kernel
theorem d_Mo_solve_194 : decode prog_9_method_34_code 194 = .ok (.dup, 1) := by decide +kernel
theorem d_Mo_solve_195 : decode prog_9_method_34_code 195 = .ok (.getfield 150, 3) := by decide +kernel
theorem d_Mo_solve_198 : decode prog_9_method_34_code 198 = .ok (.iconst 1, 1) := by decide +kernel
theorem d_Mo_solve_199 : decode prog_9_method_34_code 199 = .ok (.iadd, 1) := by decide +kernel
theorem d_Mo_solve_200 : decode prog_9_method_34_code 200 = .ok (.putfield 150, 3) := by decide +kernel
theorem d_Mo_solve_203 : decode prog_9_method_34_code 203 = .ok (.aload_n 0, 1) := by decide +kernel
theorem d_Mo_solve_204 : decode prog_9_method_34_code 204 = .ok (.getfield 7, 3) := by decide +kernel
theorem d_Mo_solve_207 : decode prog_9_method_34_code 207 = .ok (.iload 5, 2) := by decide +kernel
theorem d_Mo_solve_209 : decode prog_9_method_34_code 209 = .ok (.iload 6, 2) := by decide +kernel
theorem d_Mo_solve_211 : decode prog_9_method_34_code 211 = .ok (.iastore, 1) := by decide +kernel
theorem d_Mo_solve_212 : decode prog_9_method_34_code 212 = .ok (.iload_n 3, 1) := by decide +kernel
theorem d_Mo_solve_213 : decode prog_9_method_34_code 213 = .ok (.aload_n 0, 1) := by decide +kernel
theorem d_Mo_solve_214 : decode prog_9_method_34_code 214 = .ok (.invokevirtual 153, 3) := by decide +kernel
theorem d_Mo_solve_217 : decode prog_9_method_34_code 217 = .ok (.ifCond .eq 7, 3) := by decide +kernel
theorem d_Mo_solve_220 : decode prog_9_method_34_code 220 = .ok (.iconst 1, 1) := by decide +kernel
theorem d_Mo_solve_221 : decode prog_9_method_34_code 221 = .ok (.goto 4, 3) := by decide +kernel
theorem d_Mo_solve_224 : decode prog_9_method_34_code 224 = .ok (.iconst 0, 1) := by decide +kernel
theorem d_Mo_solve_225 : decode prog_9_method_34_code 225 = .ok (.iadd, 1) := by decide +kernel
theorem d_Mo_solve_226 : decode prog_9_method_34_code 226 = .ok (.istore_n 3, 1) := by decide +kernel
theorem d_Mo_solve_227 : decode prog_9_method_34_code 227 = .ok (.goto (-145), 3) := by decide +kernel
theorem d_Mo_solve_230 : decode prog_9_method_34_code 230 = .ok (.iload_n 3, 1) := by decide +kernel
theorem d_Mo_solve_231 : decode prog_9_method_34_code 231 = .ok (.ifCond .ge 7, 3) := by decide +kernel
theorem d_Mo_solve_234 : decode prog_9_method_34_code 234 = .ok (.iconst 0, 1) := by decide +kernel
theorem d_Mo_solve_235 : decode prog_9_method_34_code 235 = .ok (.goto 4, 3) := by decide +kernel
theorem d_Mo_solve_238 : decode prog_9_method_34_code 238 = .ok (.iconst 1, 1) := by decide +kernel
theorem d_Mo_solve_239 : decode prog_9_method_34_code 239 = .ok (.ireturn, 1) := by decide +kernel
abbrev rm_Mo_solve : Room := { frames := 8, cells := 0, slots := 0, locals := 206 }
set_option maxHeartbeats 4000000 in
set_option maxRecDepth 100000 in
theorem c_Mo_solve (l : Launch) (D : va_G) (cs : Nat → ClassId) (ad : Nat → Nat) (hi : mo_inj ad) (c I : Wo) (h : moR c I) (most : Int) (h_most : -2147483648 ≤ most ∧ most < 2147483648) : mo_C l D cs ad y_Mo_solve ws_Mo_solve rm_Mo_solve [.ref (ad 0), .int (zi most)] I (mk_pi (fun r J => ∃ d, slvR c most r d ∧ moR d J)) := by
  refine mk_meti (own := "CanonMakerModel") (Ts := wA) hi (Nat.le_refl _) (by decide) rfl (fun w h => List.mem_cons_of_mem _ h) rfl (Nat.le_of_ble_eq_true rfl) [(0, .ref (ad 0)), (1, .int (zi most))] rfl ?_
  intro p_ e_ s_ m_ as_ bl_ me_ co_ Q_ X hret
  obtain ⟨⟨⟨hn, hN⟩, ⟨hlo, hsc, hbt, hru, hrd, hst⟩, ⟨hV, hV0⟩, ⟨hfc, hF⟩⟩, ⟨i12, iN⟩, ⟨⟨i50, i51, i52, i53, i54⟩, i07, i09⟩, iV, ⟨i010, iF⟩⟩ := id h
  have L33 : ∀ nf : Nat, ∀ (k : Nat) (n : Int) (Ja : Wo), (0 ≤ most ∧ most ≤ 3000) → (NTL c) → ((k : Int) ≤ c 0 0) → (n = ((opf c k).length : Int)) → (Ja 0 14 = 0) → (∀ a b, ¬ a = 12 → ¬ (a = 0 ∧ b = 14) → Ja a b = I a b) → (OpI Ja 12 (opf c k)) → 24 - k < nf → mk_A p_ l e_ rm_Mo_solve s_ m_ as_ bl_ me_ co_ Q_ 8 D cmcl (mo_sh cs ad) 16 16 ad Ja [(0, .ref (ad 0)), (1, .int (zi most)), (2, .int (zi n)), (3, .int (zi (k : Int)))] 33 [] := by
    intro nf
    induction nf with
    | zero => intro k n Ja hmo hnt hk hnl h14 hfa hoa hn; exact absurd hn (Nat.not_lt_zero _)
    | succ nf ih33 =>
      intro k n Ja hmo hnt hk hnl h14 hfa hoa hn33
      have hol := opf_len (c := c) k
      have hcn0 := cn_e h.1.1
      obtain ⟨hst0, hndp, hmem, hw1, hrl0⟩ := sr_start (most := most) h.1 (by omega)
      have hol2 := opf_len (c := c) (cn c)
      have hol3 : (opl c).length ≤ 24 := by unfold opl; omega
      have L82 : ∀ nf : Nat, ∀ (i : Int) (T : Nat) (cc : Wo) (Jc : Wo), (FL (up2 c 0 7 0) = []) → (n = ((opl c).length : Int)) → (SrI (up2 c 0 7 0) (opl c) most i cc) → (moR cc Jc) → (OpI Jc 12 (opl c)) → ((T : Int) + i ≤ 2 * cc 0 7) → (sr (opl c) most (6003 - T) i cc = sr (opl c) most 6003 0 (up2 c 0 7 0)) → 6003 - T < nf → mk_A p_ l e_ rm_Mo_solve s_ m_ as_ bl_ me_ co_ Q_ 8 D cmcl (mo_sh cs ad) 16 16 ad Jc [(0, .ref (ad 0)), (1, .int (zi most)), (2, .int (zi n)), (3, .int (zi i))] 82 [] := by
        intro nf
        induction nf with
        | zero => intro i T cc Jc hcl0 hnl2 hsi hRc hop hTi hsr hn; exact absurd hn (Nat.not_lt_zero _)
        | succ nf ih82 =>
          intro i T cc Jc hcl0 hnl2 hsi hRc hop hTi hsr hn82
          obtain ⟨hwc, hrl⟩ := SrI_wf hw1 hmem (by omega) hsi
          have hcn1 := cn_e hwc.1
          have hcn2 := hrl.e_cn
          obtain ⟨b0, b7, hib⟩ : (0 ≤ cc 0 7) ∧ (cc 0 7 ≤ most) ∧ (-1 ≤ i ∧ i ≤ (opl c).length) := ⟨hsi.2.2.2.1.1, hsi.2.2.2.1.2, hsi.2.2.2.2⟩
          have L164 : ∀ nf : Nat, ∀ (q : Nat) (Jd : Wo), (q ≤ (opl c).length) → (moR (rop cc ((opl c).take q)) Jd) → (OpI Jd 12 (opl c)) → ((-6, rop cc (opl c)) = sr (opl c) most 6003 0 (up2 c 0 7 0)) → (opl c).length - q < nf → mk_A p_ l e_ rm_Mo_solve s_ m_ as_ bl_ me_ co_ Q_ 8 D cmcl (mo_sh cs ad) 16 16 ad Jd [(0, .ref (ad 0)), (1, .int (zi most)), (2, .int (zi n)), (7, .int (zi (q : Int)))] 164 [] := by
            intro nf
            induction nf with
            | zero => intro q Jd hq hRd hod hout hn; exact absurd hn (Nat.not_lt_zero _)
            | succ nf ih164 =>
              intro q Jd hq hRd hod hout hn164
              refine mk_iload (nx := 166) X 3 d_Mo_solve_164 rfl rfl ?_
              refine mk_iloadn (nx := 167) X 2 d_Mo_solve_166 rfl rfl ?_
              refine mk_icmp_ge (tgt := 190) (nx := 170) X d_Mo_solve_167 (by omega) (by omega) (by decide) rfl (fun c167 => ?_) (fun c167 => ?_)
              · skip
                refine mk_bipush (nx := 192) X d_Mo_solve_190 (by decide) rfl ?_
                exact hret _ _ _ _ d_Mo_solve_192 (by exact ⟨rop cc (opl c), Or.inr (Or.inr (Or.inr ⟨by omega, hnt, hcl0, hout⟩)), by have e := hRd; rw [show q = (opl c).length by omega, List.take_length] at e; exact e⟩)
              · skip
                obtain ⟨nq, hnq⟩ : ∃ nq : Nat, (opl c)[q]? = some nq := ⟨(opl c)[q]'(by omega), List.getElem?_eq_getElem (by omega)⟩
                have hnqm := (hmem nq (List.mem_of_getElem? hnq)).1
                refine mk_aloadn (nx := 171) X 0 d_Mo_solve_170 rfl rfl ?_
                refine mk_get (nx := 174) (v := .ref (ad 1)) X 0 (by decide) (mh_Mo cs ad _) rfl in_Mo 0 (by decide) wd_595 rfl rfl d_Mo_solve_171 rfl ?_
                refine mk_aloadn (nx := 175) X 0 d_Mo_solve_174 rfl rfl ?_
                refine mk_get (nx := 178) (v := .ref (ad 12)) X 0 (by decide) (mh_Mo cs ad _) rfl in_Mo 24 (by decide) wd_619 rfl rfl d_Mo_solve_175 rfl ?_
                refine mk_iload (nx := 180) X 3 d_Mo_solve_178 rfl rfl ?_
                refine mk_iald (nx := 181) (j := q) X 12 0 (by decide) (mh_opens cs ad _) rfl (by omega) (by omega) (by decide) rfl d_Mo_solve_180 rfl ?_
                rw [show Jd 12 q = (nq : Int) from (hod q nq hnq)]
                refine mk_bipush (nx := 183) X d_Mo_solve_181 (by decide) rfl ?_
                refine mk_iast (nx := 184) (j := nq) X 1 0 (by decide) (mh_pitches cs ad) rfl (by omega) (by omega) (by decide) rfl d_Mo_solve_183 rfl ?_
                obtain ⟨J1, hJ1⟩ : ∃ W_ : Wo, W_ = up2 Jd 1 nq (-2) := ⟨_, rfl⟩
                refine mk_same hJ1.symm ?_
                have hJ1s : J1 1 nq = (-2) := hJ1 ▸ up2_ss Jd 1 nq (-2)
                have hJ1o : ∀ a b, (a ≠ 1 ∨ b ≠ nq) → J1 a b = Jd a b := hJ1 ▸ up2_o Jd 1 nq (-2)
                refine mk_iinc (nx := 187) X 3 [(7, .int (zi ((q : Int) + 1))), (0, .ref (ad 0)), (1, .int (zi most)), (2, .int (zi n))] d_Mo_solve_184 rfl (by decide) rfl rfl ?_
                refine mk_goto (tgt := 164) X d_Mo_solve_187 (by decide) ?_
                refine mk_lv [1, 2, 3, 0] rfl ?_
                exact ih164 (q + 1) J1 (by omega) (by first | (rw [List.take_zero, rop_nil]; exact hRc) | (rw [rop_take hnq, hJ1]; exact mo_s_pitch hRd (by rw [rop_o (by omega)]; omega) (by omega))) (by first | exact hop | exact OpI_fr hod (fun b => hJ1o 12 b (by omega))) (by first | exact hout | exact sx_out (by omega) (by omega) hnn (by rw [← hn2]; omega) (by omega) hsr) (by omega)
          refine mk_iloadn (nx := 83) X 3 d_Mo_solve_82 rfl rfl ?_
          refine mk_if_lt (tgt := 230) (nx := 86) X d_Mo_solve_83 (by omega) (by decide) rfl (fun c83 => ?_) (fun c83 => ?_)
          · skip
            refine mk_iloadn (nx := 231) X 3 d_Mo_solve_230 rfl rfl ?_
            refine mk_if_ge (tgt := 238) (nx := 234) X d_Mo_solve_231 (by omega) (by decide) rfl (fun c231 => ?_) (fun c231 => ?_)
            · skip
              refine mk_iconst (nx := 239) X d_Mo_solve_238 rfl ?_
              exact hret _ _ _ _ d_Mo_solve_239 (by first | exact ⟨cc, Or.inr (Or.inr (Or.inr ⟨by omega, hnt, hcl0, sx_lo (by omega) (by omega) hsr⟩)), hRc⟩ | exact ⟨cc, Or.inr (Or.inr (Or.inr ⟨by omega, hnt, hcl0, sx_hi (by omega) (by omega) (by omega) hsr⟩)), hRc⟩)
            · skip
              refine mk_iconst (nx := 235) X d_Mo_solve_234 rfl ?_
              refine mk_goto (tgt := 239) X d_Mo_solve_235 (by decide) ?_
              exact hret _ _ _ _ d_Mo_solve_239 (by first | exact ⟨cc, Or.inr (Or.inr (Or.inr ⟨by omega, hnt, hcl0, sx_lo (by omega) (by omega) hsr⟩)), hRc⟩ | exact ⟨cc, Or.inr (Or.inr (Or.inr ⟨by omega, hnt, hcl0, sx_hi (by omega) (by omega) (by omega) hsr⟩)), hRc⟩)
          · skip
            refine mk_iloadn (nx := 87) X 3 d_Mo_solve_86 rfl rfl ?_
            refine mk_iloadn (nx := 88) X 2 d_Mo_solve_87 rfl rfl ?_
            refine mk_icmp_ge (tgt := 230) (nx := 91) X d_Mo_solve_88 (by omega) (by omega) (by decide) rfl (fun c88 => ?_) (fun c88 => ?_)
            · skip
              refine mk_iloadn (nx := 231) X 3 d_Mo_solve_230 rfl rfl ?_
              refine mk_if_ge (tgt := 238) (nx := 234) X d_Mo_solve_231 (by omega) (by decide) rfl (fun c231 => ?_) (fun c231 => ?_)
              · skip
                refine mk_iconst (nx := 239) X d_Mo_solve_238 rfl ?_
                exact hret _ _ _ _ d_Mo_solve_239 (by first | exact ⟨cc, Or.inr (Or.inr (Or.inr ⟨by omega, hnt, hcl0, sx_lo (by omega) (by omega) hsr⟩)), hRc⟩ | exact ⟨cc, Or.inr (Or.inr (Or.inr ⟨by omega, hnt, hcl0, sx_hi (by omega) (by omega) (by omega) hsr⟩)), hRc⟩)
              · skip
                refine mk_iconst (nx := 235) X d_Mo_solve_234 rfl ?_
                refine mk_goto (tgt := 239) X d_Mo_solve_235 (by decide) ?_
                exact hret _ _ _ _ d_Mo_solve_239 (by first | exact ⟨cc, Or.inr (Or.inr (Or.inr ⟨by omega, hnt, hcl0, sx_lo (by omega) (by omega) hsr⟩)), hRc⟩ | exact ⟨cc, Or.inr (Or.inr (Or.inr ⟨by omega, hnt, hcl0, sx_hi (by omega) (by omega) (by omega) hsr⟩)), hRc⟩)
            · skip
              obtain ⟨nn, hnn⟩ : ∃ nn : Nat, (opl c)[i.toNat]? = some nn := ⟨(opl c)[i.toNat]'(by omega), List.getElem?_eq_getElem (by omega)⟩
              have hnm := List.mem_of_getElem? hnn
              have hnc := (hmem nn hnm).1
              have hpb := hwc.1.2 nn (by omega)
              have hlb := hwc.2.1.1
              refine mk_aloadn (nx := 92) X 0 d_Mo_solve_91 rfl rfl ?_
              refine mk_get (nx := 95) (v := .ref (ad 12)) X 0 (by decide) (mh_Mo cs ad _) rfl in_Mo 24 (by decide) wd_619 rfl rfl d_Mo_solve_92 rfl ?_
              refine mk_iloadn (nx := 96) X 3 d_Mo_solve_95 rfl rfl ?_
              refine mk_iald (nx := 97) (j := i.toNat) X 12 0 (by decide) (mh_opens cs ad _) rfl (by omega) (by omega) (by decide) rfl d_Mo_solve_96 rfl ?_
              rw [show Jc 12 i.toNat = (nn : Int) from (hop i.toNat nn hnn)]
              refine mk_istore (nx := 99) X [(5, .int (zi (nn : Int))), (0, .ref (ad 0)), (1, .int (zi most)), (2, .int (zi n)), (3, .int (zi i))] d_Mo_solve_97 (by decide) rfl rfl ?_
              refine mk_aloadn (nx := 100) X 1 d_Mo_solve_99 rfl rfl ?_
              refine mk_get (nx := 103) (v := .ref (ad 1)) X 0 (by decide) (mh_Mo cs ad _) rfl in_Mo 0 (by decide) wd_595 rfl rfl d_Mo_solve_100 rfl ?_
              refine mk_iload (nx := 105) X 0 d_Mo_solve_103 rfl rfl ?_
              refine mk_iald (nx := 106) (j := nn) X 1 0 (by decide) (mh_pitches cs ad _) rfl (by omega) (by omega) (by decide) rfl d_Mo_solve_105 rfl ?_
              rw [show Jc 1 nn = cc 1 nn from (hRc.2.1.2 nn (by omega)).1]
              refine mk_bipush (nx := 108) X d_Mo_solve_106 (by decide) rfl ?_
              refine mk_icmp_ne (tgt := 118) (nx := 111) X d_Mo_solve_108 (by omega) (by omega) (by decide) rfl (fun c108 => ?_) (fun c108 => ?_)
              · skip
                refine mk_aloadn (nx := 119) X 1 d_Mo_solve_118 rfl rfl ?_
                refine mk_get (nx := 122) (v := .ref (ad 1)) X 0 (by decide) (mh_Mo cs ad _) rfl in_Mo 0 (by decide) wd_595 rfl rfl d_Mo_solve_119 rfl ?_
                refine mk_iload (nx := 124) X 0 d_Mo_solve_122 rfl rfl ?_
                refine mk_iald (nx := 125) (j := nn) X 1 0 (by decide) (mh_pitches cs ad _) rfl (by omega) (by omega) (by decide) rfl d_Mo_solve_124 rfl ?_
                rw [show Jc 1 nn = cc 1 nn from (hRc.2.1.2 nn (by omega)).1]
                refine mk_iconst (nx := 126) X d_Mo_solve_125 rfl ?_
                refine mk_iadd (nx := 127) X d_Mo_solve_126 rfl ?_
                refine mk_nm (fun nx hnx => ?_)
                have hn2 : nx = nxt cc nn := by
                  rw [hnx, nxt]
                  first | rw [if_pos (by omega)] | rw [if_neg (by omega)]
                refine mk_istore (nx := 129) X [(6, .int (zi nx)), (5, .int (zi (nn : Int))), (0, .ref (ad 0)), (1, .int (zi most)), (2, .int (zi n)), (3, .int (zi i))] d_Mo_solve_127 (by decide) rfl rfl ?_
                refine mk_iload (nx := 131) X 0 d_Mo_solve_129 rfl rfl ?_
                refine mk_aloadn (nx := 132) X 2 d_Mo_solve_131 rfl rfl ?_
                refine mk_get (nx := 135) (v := .int (zi (Jc 0 9))) X 0 (by decide) (mh_Mo cs ad _) rfl in_Mo 9 (by decide) wd_604 rfl rfl d_Mo_solve_132 rfl ?_
                rw [show Jc 0 9 = cc 0 2 from hRc.2.2.1.1.2.1]
                refine mk_icmp_le (tgt := 153) (nx := 138) X d_Mo_solve_135 (by omega) (by omega) (by decide) rfl (fun c135 => ?_) (fun c135 => ?_)
                · skip
                  refine mk_aloadn (nx := 154) X 2 d_Mo_solve_153 rfl rfl ?_
                  refine mk_get (nx := 157) (v := .int (zi (Jc 0 14))) X 0 (by decide) (mh_Mo cs ad _) rfl in_Mo 14 (by decide) wd_609 rfl rfl d_Mo_solve_154 rfl ?_
                  rw [show Jc 0 14 = cc 0 7 from hRc.2.2.1.2.2]
                  refine mk_iloadn (nx := 158) X 3 d_Mo_solve_157 rfl rfl ?_
                  refine mk_icmp_ne (tgt := 193) (nx := 161) X d_Mo_solve_158 (by omega) (by omega) (by decide) rfl (fun c158 => ?_) (fun c158 => ?_)
                  · skip
                    refine mk_aloadn (nx := 194) X 2 d_Mo_solve_193 rfl rfl ?_
                    refine mk_dup (nx := 195) X d_Mo_solve_194 rfl rfl ?_
                    refine mk_get (nx := 198) (v := .int (zi (Jc 0 14))) X 0 (by decide) (mh_Mo cs ad _) rfl in_Mo 14 (by decide) wd_609 rfl rfl d_Mo_solve_195 rfl ?_
                    rw [show Jc 0 14 = cc 0 7 from hRc.2.2.1.2.2]
                    refine mk_iconst (nx := 199) X d_Mo_solve_198 rfl ?_
                    refine mk_iadd (nx := 200) X d_Mo_solve_199 rfl ?_
                    refine mk_putf (nx := 203) (ty := .int) X t_Mo t_Mo_ok n_Mo 0 (by decide) (mh_Mo cs ad _) rfl in_Mo 14 (by decide) wd_609 rfl rfl (by decide +kernel) rfl rfl (Nat.le_of_ble_eq_true rfl) ((mh_Mo cs ad _).trans rfl) d_Mo_solve_200 rfl ?_
                    obtain ⟨J2, hJ2⟩ : ∃ W_ : Wo, W_ = up2 Jc 0 14 ((cc 0 7) + 1) := ⟨_, rfl⟩
                    refine mk_same hJ2.symm ?_
                    have hJ2s : J2 0 14 = (cc 0 7) + 1 := hJ2 ▸ up2_ss Jc 0 14 ((cc 0 7) + 1)
                    have hJ2o : ∀ a b, (a ≠ 0 ∨ b ≠ 14) → J2 a b = Jc a b := hJ2 ▸ up2_o Jc 0 14 ((cc 0 7) + 1)
                    have hR7 : moR (up2 cc 0 7 (cc 0 7 + 1)) J2 := by rw [hJ2]; exact mo_s_steps hRc (by omega)
                    have hop7 : OpI J2 12 (opl c) := OpI_fr hop (fun b => hJ2o 12 b (by omega))
                    refine mk_aloadn (nx := 204) X 2 d_Mo_solve_203 rfl rfl ?_
                    refine mk_get (nx := 207) (v := .ref (ad 1)) X 0 (by decide) (mh_Mo cs ad _) rfl in_Mo 0 (by decide) wd_595 rfl rfl d_Mo_solve_204 rfl ?_
                    refine mk_iload (nx := 209) X 1 d_Mo_solve_207 rfl rfl ?_
                    refine mk_iload (nx := 211) X 0 d_Mo_solve_209 rfl rfl ?_
                    refine mk_iast (nx := 212) (j := nn) X 1 0 (by decide) (mh_pitches cs ad) rfl (by omega) (by omega) (by decide) rfl d_Mo_solve_211 rfl ?_
                    obtain ⟨J3, hJ3⟩ : ∃ W_ : Wo, W_ = up2 J2 1 nn nx := ⟨_, rfl⟩
                    refine mk_same hJ3.symm ?_
                    have hJ3s : J3 1 nn = nx := hJ3 ▸ up2_ss J2 1 nn nx
                    have hJ3o : ∀ a b, (a ≠ 1 ∨ b ≠ nn) → J3 a b = J2 a b := hJ3 ▸ up2_o J2 1 nn nx
                    have hRt : moR (tst cc nn) J3 := by
                      rw [hJ3, hn2]
                      exact mo_s_pitch hR7 (by rw [up2_o _ _ _ _ _ _ (by omega)]; omega) (by omega)
                    have hopt : OpI J3 12 (opl c) := OpI_fr hop7 (fun b => hJ3o 12 b (by omega))
                    refine mk_iloadn (nx := 213) X 5 d_Mo_solve_212 rfl rfl ?_
                    refine mk_aloadn (nx := 214) X 2 d_Mo_solve_213 rfl rfl ?_
                    refine mk_callVi (nx := 217) (n := 0) (As := []) (rest := [.int (zi i)]) X 0 (by decide) (mh_Mo cs ad _) rfl (c_Mo_isClean l D cs ad hi (tst cc nn) J3 hRt) (g_Mo_isClean wd_811) rfl ⟨rfl, rfl⟩ (by decide +kernel) ⟨by decide, by decide⟩ rfl (Nat.le_of_ble_eq_true rfl) rfl d_Mo_solve_214 rfl ?_
                    intro r214 JV hJV
                    have hRv : moR (tst cc nn) JV := moR_fr (fun a b x y => hJV.1 a b (by omega) (by omega)) hRt
                    have hopV : OpI JV 12 (opl c) := OpI_fr hopt (fun b => hJV.1 12 b (by omega) (by omega))
                    have hV214 := hJV.2
                    have hr214 : r214 = 1 ∨ r214 = 0 := hV214.elim (fun e => Or.inl e.1) (fun e => Or.inr e.1)
                    refine mk_if_eq (tgt := 224) (nx := 220) X d_Mo_solve_217 (by omega) (by decide) rfl (fun c217 => ?_) (fun c217 => ?_)
                    · skip
                      refine mk_iconst (nx := 225) X d_Mo_solve_224 rfl ?_
                      refine mk_iadd (nx := 226) X d_Mo_solve_225 rfl ?_
                      refine mk_istoren (nx := 227) X [(3, .int (zi (i + 0))), (6, .int (zi nx)), (5, .int (zi (nn : Int))), (0, .ref (ad 0)), (1, .int (zi most)), (2, .int (zi n))] d_Mo_solve_226 (by decide) rfl rfl ?_
                      refine mk_goto (tgt := 82) X d_Mo_solve_227 (by decide) ?_
                      refine mk_lv [3, 4, 5, 0] rfl ?_
                      exact ih82 (i + 0) (T + 1) (tst cc nn) JV (by first | exact hcl0 | exact (hV69.resolve_right (fun z => absurd z.1 (by omega))).2) (by first | exact hnl2 | omega) (by first | exact hst0 | exact sri_bq hndp hsi (by omega) hnn | (rw [Int.add_zero]; exact (sri_try hndp hw1.2.1 hsi (by omega) hnn (by rw [← hn2]; omega) (by omega)).1) | exact (sri_try hndp hw1.2.1 hsi (by omega) hnn (by rw [← hn2]; omega) (by omega)).2) (by first | exact hRB0 | exact hRv | (rw [hJV]; exact mo_s_pitch hRc (by omega) (by omega))) (by first | exact hopB | exact hopV | exact OpI_fr hop (fun b => hJVo 12 b (by omega))) (by first | (rw [up2_ss]; omega) | (rw [tst_7]; omega) | (rw [up2_o _ _ _ _ _ _ (by omega)]; omega)) (by first | exact sx_bk (by omega) (by omega) hnn (by rw [← hn2]; omega) hsr | exact sx_y (by omega) (by omega) hnn (by rw [← hn2]; omega) (by omega) (hV214.resolve_right (fun z => absurd z.1 (by omega))).2 hsr | exact sx_n (by omega) (by omega) hnn (by rw [← hn2]; omega) (by omega) (hV214.resolve_left (fun z => absurd z.1 (by omega))).2 hsr | rfl) (by omega)
                    · skip
                      refine mk_iconst (nx := 221) X d_Mo_solve_220 rfl ?_
                      refine mk_goto (tgt := 225) X d_Mo_solve_221 (by decide) ?_
                      refine mk_iadd (nx := 226) X d_Mo_solve_225 rfl ?_
                      refine mk_istoren (nx := 227) X [(3, .int (zi (i + 1))), (6, .int (zi nx)), (5, .int (zi (nn : Int))), (0, .ref (ad 0)), (1, .int (zi most)), (2, .int (zi n))] d_Mo_solve_226 (by decide) rfl rfl ?_
                      refine mk_goto (tgt := 82) X d_Mo_solve_227 (by decide) ?_
                      refine mk_lv [3, 4, 5, 0] rfl ?_
                      exact ih82 (i + 1) (T + 1) (tst cc nn) JV (by first | exact hcl0 | exact (hV69.resolve_right (fun z => absurd z.1 (by omega))).2) (by first | exact hnl2 | omega) (by first | exact hst0 | exact sri_bq hndp hsi (by omega) hnn | (rw [Int.add_zero]; exact (sri_try hndp hw1.2.1 hsi (by omega) hnn (by rw [← hn2]; omega) (by omega)).1) | exact (sri_try hndp hw1.2.1 hsi (by omega) hnn (by rw [← hn2]; omega) (by omega)).2) (by first | exact hRB0 | exact hRv | (rw [hJV]; exact mo_s_pitch hRc (by omega) (by omega))) (by first | exact hopB | exact hopV | exact OpI_fr hop (fun b => hJVo 12 b (by omega))) (by first | (rw [up2_ss]; omega) | (rw [tst_7]; omega) | (rw [up2_o _ _ _ _ _ _ (by omega)]; omega)) (by first | exact sx_bk (by omega) (by omega) hnn (by rw [← hn2]; omega) hsr | exact sx_y (by omega) (by omega) hnn (by rw [← hn2]; omega) (by omega) (hV214.resolve_right (fun z => absurd z.1 (by omega))).2 hsr | exact sx_n (by omega) (by omega) hnn (by rw [← hn2]; omega) (by omega) (hV214.resolve_left (fun z => absurd z.1 (by omega))).2 hsr | rfl) (by omega)
                  · skip
                    refine mk_iconst (nx := 162) X d_Mo_solve_161 rfl ?_
                    refine mk_istore (nx := 164) X [(7, .int (zi 0)), (6, .int (zi nx)), (5, .int (zi (nn : Int))), (0, .ref (ad 0)), (1, .int (zi most)), (2, .int (zi n)), (3, .int (zi i))] d_Mo_solve_162 (by decide) rfl rfl ?_
                    refine mk_lv [3, 4, 5, 0] rfl ?_
                    exact L164 _ 0 Jc (by omega) (by first | (rw [List.take_zero, rop_nil]; exact hRc) | (rw [rop_take hnq, hJc]; exact mo_s_pitch hRd (by rw [rop_o (by omega)]; omega) (by omega))) (by first | exact hop | exact OpI_fr hod (fun b => hJco 12 b (by omega))) (by first | exact hout | exact sx_out (by omega) (by omega) hnn (by rw [← hn2]; omega) (by omega) hsr) (Nat.lt_succ_self _)
                · skip
                  refine mk_aloadn (nx := 139) X 2 d_Mo_solve_138 rfl rfl ?_
                  refine mk_get (nx := 142) (v := .ref (ad 1)) X 0 (by decide) (mh_Mo cs ad _) rfl in_Mo 0 (by decide) wd_595 rfl rfl d_Mo_solve_139 rfl ?_
                  refine mk_iload (nx := 144) X 1 d_Mo_solve_142 rfl rfl ?_
                  refine mk_bipush (nx := 146) X d_Mo_solve_144 (by decide) rfl ?_
                  refine mk_iast (nx := 147) (j := nn) X 1 0 (by decide) (mh_pitches cs ad) rfl (by omega) (by omega) (by decide) rfl d_Mo_solve_146 rfl ?_
                  obtain ⟨J4, hJ4⟩ : ∃ W_ : Wo, W_ = up2 Jc 1 nn (-2) := ⟨_, rfl⟩
                  refine mk_same hJ4.symm ?_
                  have hJ4s : J4 1 nn = (-2) := hJ4 ▸ up2_ss Jc 1 nn (-2)
                  have hJ4o : ∀ a b, (a ≠ 1 ∨ b ≠ nn) → J4 a b = Jc a b := hJ4 ▸ up2_o Jc 1 nn (-2)
                  refine mk_iinc (nx := 150) X 5 [(3, .int (zi (i + (-1)))), (6, .int (zi nx)), (5, .int (zi (nn : Int))), (0, .ref (ad 0)), (1, .int (zi most)), (2, .int (zi n))] d_Mo_solve_147 rfl (by decide) rfl rfl ?_
                  refine mk_goto (tgt := 82) X d_Mo_solve_150 (by decide) ?_
                  refine mk_lv [3, 4, 5, 0] rfl ?_
                  exact ih82 (i + (-1)) (T + 1) (up2 cc 1 nn (-2)) J4 (by first | exact hcl0 | exact (hV69.resolve_right (fun z => absurd z.1 (by omega))).2) (by first | exact hnl2 | omega) (by first | exact hst0 | exact sri_bq hndp hsi (by omega) hnn | (rw [Int.add_zero]; exact (sri_try hndp hw1.2.1 hsi (by omega) hnn (by rw [← hn2]; omega) (by omega)).1) | exact (sri_try hndp hw1.2.1 hsi (by omega) hnn (by rw [← hn2]; omega) (by omega)).2) (by first | exact hRB0 | exact hRv | (rw [hJ4]; exact mo_s_pitch hRc (by omega) (by omega))) (by first | exact hopB | exact hopV | exact OpI_fr hop (fun b => hJ4o 12 b (by omega))) (by first | (rw [up2_ss]; omega) | (rw [tst_7]; omega) | (rw [up2_o _ _ _ _ _ _ (by omega)]; omega)) (by first | exact sx_bk (by omega) (by omega) hnn (by rw [← hn2]; omega) hsr | exact sx_y (by omega) (by omega) hnn (by rw [← hn2]; omega) (by omega) (hV214.resolve_right (fun z => absurd z.1 (by omega))).2 hsr | exact sx_n (by omega) (by omega) hnn (by rw [← hn2]; omega) (by omega) (hV214.resolve_left (fun z => absurd z.1 (by omega))).2 hsr | rfl) (by omega)
              · skip
                refine mk_aloadn (nx := 112) X 1 d_Mo_solve_111 rfl rfl ?_
                refine mk_get (nx := 115) (v := .int (zi (Jc 0 8))) X 0 (by decide) (mh_Mo cs ad _) rfl in_Mo 8 (by decide) wd_603 rfl rfl d_Mo_solve_112 rfl ?_
                rw [show Jc 0 8 = cc 0 1 from hRc.2.2.1.1.1]
                refine mk_goto (tgt := 127) X d_Mo_solve_115 (by decide) ?_
                refine mk_nm (fun nx hnx => ?_)
                have hn2 : nx = nxt cc nn := by
                  rw [hnx, nxt]
                  first | rw [if_pos (by omega)] | rw [if_neg (by omega)]
                refine mk_istore (nx := 129) X [(6, .int (zi nx)), (5, .int (zi (nn : Int))), (0, .ref (ad 0)), (1, .int (zi most)), (2, .int (zi n)), (3, .int (zi i))] d_Mo_solve_127 (by decide) rfl rfl ?_
                refine mk_iload (nx := 131) X 0 d_Mo_solve_129 rfl rfl ?_
                refine mk_aloadn (nx := 132) X 2 d_Mo_solve_131 rfl rfl ?_
                refine mk_get (nx := 135) (v := .int (zi (Jc 0 9))) X 0 (by decide) (mh_Mo cs ad _) rfl in_Mo 9 (by decide) wd_604 rfl rfl d_Mo_solve_132 rfl ?_
                rw [show Jc 0 9 = cc 0 2 from hRc.2.2.1.1.2.1]
                refine mk_icmp_le (tgt := 153) (nx := 138) X d_Mo_solve_135 (by omega) (by omega) (by decide) rfl (fun c135 => ?_) (fun c135 => ?_)
                · skip
                  refine mk_aloadn (nx := 154) X 2 d_Mo_solve_153 rfl rfl ?_
                  refine mk_get (nx := 157) (v := .int (zi (Jc 0 14))) X 0 (by decide) (mh_Mo cs ad _) rfl in_Mo 14 (by decide) wd_609 rfl rfl d_Mo_solve_154 rfl ?_
                  rw [show Jc 0 14 = cc 0 7 from hRc.2.2.1.2.2]
                  refine mk_iloadn (nx := 158) X 3 d_Mo_solve_157 rfl rfl ?_
                  refine mk_icmp_ne (tgt := 193) (nx := 161) X d_Mo_solve_158 (by omega) (by omega) (by decide) rfl (fun c158 => ?_) (fun c158 => ?_)
                  · skip
                    refine mk_aloadn (nx := 194) X 2 d_Mo_solve_193 rfl rfl ?_
                    refine mk_dup (nx := 195) X d_Mo_solve_194 rfl rfl ?_
                    refine mk_get (nx := 198) (v := .int (zi (Jc 0 14))) X 0 (by decide) (mh_Mo cs ad _) rfl in_Mo 14 (by decide) wd_609 rfl rfl d_Mo_solve_195 rfl ?_
                    rw [show Jc 0 14 = cc 0 7 from hRc.2.2.1.2.2]
                    refine mk_iconst (nx := 199) X d_Mo_solve_198 rfl ?_
                    refine mk_iadd (nx := 200) X d_Mo_solve_199 rfl ?_
                    refine mk_putf (nx := 203) (ty := .int) X t_Mo t_Mo_ok n_Mo 0 (by decide) (mh_Mo cs ad _) rfl in_Mo 14 (by decide) wd_609 rfl rfl (by decide +kernel) rfl rfl (Nat.le_of_ble_eq_true rfl) ((mh_Mo cs ad _).trans rfl) d_Mo_solve_200 rfl ?_
                    obtain ⟨J5, hJ5⟩ : ∃ W_ : Wo, W_ = up2 Jc 0 14 ((cc 0 7) + 1) := ⟨_, rfl⟩
                    refine mk_same hJ5.symm ?_
                    have hJ5s : J5 0 14 = (cc 0 7) + 1 := hJ5 ▸ up2_ss Jc 0 14 ((cc 0 7) + 1)
                    have hJ5o : ∀ a b, (a ≠ 0 ∨ b ≠ 14) → J5 a b = Jc a b := hJ5 ▸ up2_o Jc 0 14 ((cc 0 7) + 1)
                    have hR7 : moR (up2 cc 0 7 (cc 0 7 + 1)) J5 := by rw [hJ5]; exact mo_s_steps hRc (by omega)
                    have hop7 : OpI J5 12 (opl c) := OpI_fr hop (fun b => hJ5o 12 b (by omega))
                    refine mk_aloadn (nx := 204) X 2 d_Mo_solve_203 rfl rfl ?_
                    refine mk_get (nx := 207) (v := .ref (ad 1)) X 0 (by decide) (mh_Mo cs ad _) rfl in_Mo 0 (by decide) wd_595 rfl rfl d_Mo_solve_204 rfl ?_
                    refine mk_iload (nx := 209) X 1 d_Mo_solve_207 rfl rfl ?_
                    refine mk_iload (nx := 211) X 0 d_Mo_solve_209 rfl rfl ?_
                    refine mk_iast (nx := 212) (j := nn) X 1 0 (by decide) (mh_pitches cs ad) rfl (by omega) (by omega) (by decide) rfl d_Mo_solve_211 rfl ?_
                    obtain ⟨J6, hJ6⟩ : ∃ W_ : Wo, W_ = up2 J5 1 nn nx := ⟨_, rfl⟩
                    refine mk_same hJ6.symm ?_
                    have hJ6s : J6 1 nn = nx := hJ6 ▸ up2_ss J5 1 nn nx
                    have hJ6o : ∀ a b, (a ≠ 1 ∨ b ≠ nn) → J6 a b = J5 a b := hJ6 ▸ up2_o J5 1 nn nx
                    have hRt : moR (tst cc nn) J6 := by
                      rw [hJ6, hn2]
                      exact mo_s_pitch hR7 (by rw [up2_o _ _ _ _ _ _ (by omega)]; omega) (by omega)
                    have hopt : OpI J6 12 (opl c) := OpI_fr hop7 (fun b => hJ6o 12 b (by omega))
                    refine mk_iloadn (nx := 213) X 5 d_Mo_solve_212 rfl rfl ?_
                    refine mk_aloadn (nx := 214) X 2 d_Mo_solve_213 rfl rfl ?_
                    refine mk_callVi (nx := 217) (n := 0) (As := []) (rest := [.int (zi i)]) X 0 (by decide) (mh_Mo cs ad _) rfl (c_Mo_isClean l D cs ad hi (tst cc nn) J6 hRt) (g_Mo_isClean wd_811) rfl ⟨rfl, rfl⟩ (by decide +kernel) ⟨by decide, by decide⟩ rfl (Nat.le_of_ble_eq_true rfl) rfl d_Mo_solve_214 rfl ?_
                    intro r214 JV hJV
                    have hRv : moR (tst cc nn) JV := moR_fr (fun a b x y => hJV.1 a b (by omega) (by omega)) hRt
                    have hopV : OpI JV 12 (opl c) := OpI_fr hopt (fun b => hJV.1 12 b (by omega) (by omega))
                    have hV214 := hJV.2
                    have hr214 : r214 = 1 ∨ r214 = 0 := hV214.elim (fun e => Or.inl e.1) (fun e => Or.inr e.1)
                    refine mk_if_eq (tgt := 224) (nx := 220) X d_Mo_solve_217 (by omega) (by decide) rfl (fun c217 => ?_) (fun c217 => ?_)
                    · skip
                      refine mk_iconst (nx := 225) X d_Mo_solve_224 rfl ?_
                      refine mk_iadd (nx := 226) X d_Mo_solve_225 rfl ?_
                      refine mk_istoren (nx := 227) X [(3, .int (zi (i + 0))), (6, .int (zi nx)), (5, .int (zi (nn : Int))), (0, .ref (ad 0)), (1, .int (zi most)), (2, .int (zi n))] d_Mo_solve_226 (by decide) rfl rfl ?_
                      refine mk_goto (tgt := 82) X d_Mo_solve_227 (by decide) ?_
                      refine mk_lv [3, 4, 5, 0] rfl ?_
                      exact ih82 (i + 0) (T + 1) (tst cc nn) JV (by first | exact hcl0 | exact (hV69.resolve_right (fun z => absurd z.1 (by omega))).2) (by first | exact hnl2 | omega) (by first | exact hst0 | exact sri_bq hndp hsi (by omega) hnn | (rw [Int.add_zero]; exact (sri_try hndp hw1.2.1 hsi (by omega) hnn (by rw [← hn2]; omega) (by omega)).1) | exact (sri_try hndp hw1.2.1 hsi (by omega) hnn (by rw [← hn2]; omega) (by omega)).2) (by first | exact hRB0 | exact hRv | (rw [hJV]; exact mo_s_pitch hRc (by omega) (by omega))) (by first | exact hopB | exact hopV | exact OpI_fr hop (fun b => hJVo 12 b (by omega))) (by first | (rw [up2_ss]; omega) | (rw [tst_7]; omega) | (rw [up2_o _ _ _ _ _ _ (by omega)]; omega)) (by first | exact sx_bk (by omega) (by omega) hnn (by rw [← hn2]; omega) hsr | exact sx_y (by omega) (by omega) hnn (by rw [← hn2]; omega) (by omega) (hV214.resolve_right (fun z => absurd z.1 (by omega))).2 hsr | exact sx_n (by omega) (by omega) hnn (by rw [← hn2]; omega) (by omega) (hV214.resolve_left (fun z => absurd z.1 (by omega))).2 hsr | rfl) (by omega)
                    · skip
                      refine mk_iconst (nx := 221) X d_Mo_solve_220 rfl ?_
                      refine mk_goto (tgt := 225) X d_Mo_solve_221 (by decide) ?_
                      refine mk_iadd (nx := 226) X d_Mo_solve_225 rfl ?_
                      refine mk_istoren (nx := 227) X [(3, .int (zi (i + 1))), (6, .int (zi nx)), (5, .int (zi (nn : Int))), (0, .ref (ad 0)), (1, .int (zi most)), (2, .int (zi n))] d_Mo_solve_226 (by decide) rfl rfl ?_
                      refine mk_goto (tgt := 82) X d_Mo_solve_227 (by decide) ?_
                      refine mk_lv [3, 4, 5, 0] rfl ?_
                      exact ih82 (i + 1) (T + 1) (tst cc nn) JV (by first | exact hcl0 | exact (hV69.resolve_right (fun z => absurd z.1 (by omega))).2) (by first | exact hnl2 | omega) (by first | exact hst0 | exact sri_bq hndp hsi (by omega) hnn | (rw [Int.add_zero]; exact (sri_try hndp hw1.2.1 hsi (by omega) hnn (by rw [← hn2]; omega) (by omega)).1) | exact (sri_try hndp hw1.2.1 hsi (by omega) hnn (by rw [← hn2]; omega) (by omega)).2) (by first | exact hRB0 | exact hRv | (rw [hJV]; exact mo_s_pitch hRc (by omega) (by omega))) (by first | exact hopB | exact hopV | exact OpI_fr hop (fun b => hJVo 12 b (by omega))) (by first | (rw [up2_ss]; omega) | (rw [tst_7]; omega) | (rw [up2_o _ _ _ _ _ _ (by omega)]; omega)) (by first | exact sx_bk (by omega) (by omega) hnn (by rw [← hn2]; omega) hsr | exact sx_y (by omega) (by omega) hnn (by rw [← hn2]; omega) (by omega) (hV214.resolve_right (fun z => absurd z.1 (by omega))).2 hsr | exact sx_n (by omega) (by omega) hnn (by rw [← hn2]; omega) (by omega) (hV214.resolve_left (fun z => absurd z.1 (by omega))).2 hsr | rfl) (by omega)
                  · skip
                    refine mk_iconst (nx := 162) X d_Mo_solve_161 rfl ?_
                    refine mk_istore (nx := 164) X [(7, .int (zi 0)), (6, .int (zi nx)), (5, .int (zi (nn : Int))), (0, .ref (ad 0)), (1, .int (zi most)), (2, .int (zi n)), (3, .int (zi i))] d_Mo_solve_162 (by decide) rfl rfl ?_
                    refine mk_lv [3, 4, 5, 0] rfl ?_
                    exact L164 _ 0 Jc (by omega) (by first | (rw [List.take_zero, rop_nil]; exact hRc) | (rw [rop_take hnq, hJc]; exact mo_s_pitch hRd (by rw [rop_o (by omega)]; omega) (by omega))) (by first | exact hop | exact OpI_fr hod (fun b => hJco 12 b (by omega))) (by first | exact hout | exact sx_out (by omega) (by omega) hnn (by rw [← hn2]; omega) (by omega) hsr) (Nat.lt_succ_self _)
                · skip
                  refine mk_aloadn (nx := 139) X 2 d_Mo_solve_138 rfl rfl ?_
                  refine mk_get (nx := 142) (v := .ref (ad 1)) X 0 (by decide) (mh_Mo cs ad _) rfl in_Mo 0 (by decide) wd_595 rfl rfl d_Mo_solve_139 rfl ?_
                  refine mk_iload (nx := 144) X 1 d_Mo_solve_142 rfl rfl ?_
                  refine mk_bipush (nx := 146) X d_Mo_solve_144 (by decide) rfl ?_
                  refine mk_iast (nx := 147) (j := nn) X 1 0 (by decide) (mh_pitches cs ad) rfl (by omega) (by omega) (by decide) rfl d_Mo_solve_146 rfl ?_
                  obtain ⟨J7, hJ7⟩ : ∃ W_ : Wo, W_ = up2 Jc 1 nn (-2) := ⟨_, rfl⟩
                  refine mk_same hJ7.symm ?_
                  have hJ7s : J7 1 nn = (-2) := hJ7 ▸ up2_ss Jc 1 nn (-2)
                  have hJ7o : ∀ a b, (a ≠ 1 ∨ b ≠ nn) → J7 a b = Jc a b := hJ7 ▸ up2_o Jc 1 nn (-2)
                  refine mk_iinc (nx := 150) X 5 [(3, .int (zi (i + (-1)))), (6, .int (zi nx)), (5, .int (zi (nn : Int))), (0, .ref (ad 0)), (1, .int (zi most)), (2, .int (zi n))] d_Mo_solve_147 rfl (by decide) rfl rfl ?_
                  refine mk_goto (tgt := 82) X d_Mo_solve_150 (by decide) ?_
                  refine mk_lv [3, 4, 5, 0] rfl ?_
                  exact ih82 (i + (-1)) (T + 1) (up2 cc 1 nn (-2)) J7 (by first | exact hcl0 | exact (hV69.resolve_right (fun z => absurd z.1 (by omega))).2) (by first | exact hnl2 | omega) (by first | exact hst0 | exact sri_bq hndp hsi (by omega) hnn | (rw [Int.add_zero]; exact (sri_try hndp hw1.2.1 hsi (by omega) hnn (by rw [← hn2]; omega) (by omega)).1) | exact (sri_try hndp hw1.2.1 hsi (by omega) hnn (by rw [← hn2]; omega) (by omega)).2) (by first | exact hRB0 | exact hRv | (rw [hJ7]; exact mo_s_pitch hRc (by omega) (by omega))) (by first | exact hopB | exact hopV | exact OpI_fr hop (fun b => hJ7o 12 b (by omega))) (by first | (rw [up2_ss]; omega) | (rw [tst_7]; omega) | (rw [up2_o _ _ _ _ _ _ (by omega)]; omega)) (by first | exact sx_bk (by omega) (by omega) hnn (by rw [← hn2]; omega) hsr | exact sx_y (by omega) (by omega) hnn (by rw [← hn2]; omega) (by omega) (hV214.resolve_right (fun z => absurd z.1 (by omega))).2 hsr | exact sx_n (by omega) (by omega) hnn (by rw [← hn2]; omega) (by omega) (hV214.resolve_left (fun z => absurd z.1 (by omega))).2 hsr | rfl) (by omega)
      refine mk_iloadn (nx := 34) X 3 d_Mo_solve_33 rfl rfl ?_
      refine mk_aloadn (nx := 35) X 0 d_Mo_solve_34 rfl rfl ?_
      refine mk_get (nx := 38) (v := .int (zi (Ja 0 2))) X 0 (by decide) (mh_Mo cs ad _) rfl in_Mo 2 (by decide) wd_597 rfl rfl d_Mo_solve_35 rfl ?_
      rw [show Ja 0 2 = c 0 0 from ((hfa 0 2 (by omega) (by omega)).trans i12)]
      refine mk_icmp_ge (tgt := 68) (nx := 41) X d_Mo_solve_38 (by omega) (by omega) (by decide) rfl (fun c38 => ?_) (fun c38 => ?_)
      · skip
        have hkn : k = cn c := by have := cn_e h.1.1; omega
        subst hkn
        have hRa : moR (up2 c 0 7 0) Ja := mo_op h h14 hfa
        have hoa2 : OpI Ja 12 (opl c) := hoa
        have hnl2 : n = ((opl c).length : Int) := hnl
        refine mk_aloadn (nx := 69) X 0 d_Mo_solve_68 rfl rfl ?_
        refine mk_callVi (nx := 72) (n := 0) (As := []) (rest := []) X 0 (by decide) (mh_Mo cs ad _) rfl (c_Mo_isClean l D cs ad hi (up2 c 0 7 0) Ja hRa) (g_Mo_isClean wd_811) rfl ⟨rfl, rfl⟩ (by decide +kernel) ⟨by decide, by decide⟩ rfl (Nat.le_of_ble_eq_true rfl) rfl d_Mo_solve_69 rfl ?_
        intro r69 JB hJB
        have hRB0 : moR (up2 c 0 7 0) JB := moR_fr (fun a b x y => hJB.1 a b (by omega) (by omega)) hRa
        have hopB : OpI JB 12 (opl c) := OpI_fr hoa2 (fun b => hJB.1 12 b (by omega) (by omega))
        have hV69 := hJB.2
        have hr69 : r69 = 1 ∨ r69 = 0 := hV69.elim (fun e => Or.inl e.1) (fun e => Or.inr e.1)
        refine mk_if_ne (tgt := 77) (nx := 75) X d_Mo_solve_72 (by omega) (by decide) rfl (fun c72 => ?_) (fun c72 => ?_)
        · skip
          refine mk_iconst (nx := 78) X d_Mo_solve_77 rfl ?_
          refine mk_istoren (nx := 79) X [(3, .int (zi 0)), (0, .ref (ad 0)), (1, .int (zi most)), (2, .int (zi n))] d_Mo_solve_78 (by decide) rfl rfl ?_
          refine mk_iconst (nx := 80) X d_Mo_solve_79 rfl ?_
          refine mk_istore (nx := 82) X [(4, .int (zi 0)), (3, .int (zi 0)), (0, .ref (ad 0)), (1, .int (zi most)), (2, .int (zi n))] d_Mo_solve_80 (by decide) rfl rfl ?_
          refine mk_lv [2, 3, 4, 1] rfl ?_
          exact L82 _ 0 0 (up2 c 0 7 0) JB (by first | exact hcl0 | exact (hV69.resolve_right (fun z => absurd z.1 (by omega))).2) (by first | exact hnl2 | omega) (by first | exact hst0 | exact sri_bq hndp hsi (by omega) hnn | (rw [Int.add_zero]; exact (sri_try hndp hw1.2.1 hsi (by omega) hnn (by rw [← hn2]; omega) (by omega)).1) | exact (sri_try hndp hw1.2.1 hsi (by omega) hnn (by rw [← hn2]; omega) (by omega)).2) (by first | exact hRB0 | exact hRv | (rw [hJB]; exact mo_s_pitch hRc (by omega) (by omega))) (by first | exact hopB | exact hopV | exact OpI_fr hop (fun b => hJBo 12 b (by omega))) (by first | (rw [up2_ss]; omega) | (rw [tst_7]; omega) | (rw [up2_o _ _ _ _ _ _ (by omega)]; omega)) (by first | exact sx_bk (by omega) (by omega) hnn (by rw [← hn2]; omega) hsr | exact sx_y (by omega) (by omega) hnn (by rw [← hn2]; omega) (by omega) (hV214.resolve_right (fun z => absurd z.1 (by omega))).2 hsr | exact sx_n (by omega) (by omega) hnn (by rw [← hn2]; omega) (by omega) (hV214.resolve_left (fun z => absurd z.1 (by omega))).2 hsr | rfl) (Nat.lt_succ_self _)
        · skip
          refine mk_iconst (nx := 76) X d_Mo_solve_75 rfl ?_
          exact hret _ _ _ _ d_Mo_solve_76 (by exact ⟨_, Or.inr (Or.inr (Or.inl ⟨by omega, hnt, (hV69.resolve_left (fun z => absurd z.1 (by omega))).2, rfl, rfl⟩)), hRB0⟩)
      · skip
        have hpk := hN k (by omega)
        refine mk_aloadn (nx := 42) X 0 d_Mo_solve_41 rfl rfl ?_
        refine mk_get (nx := 45) (v := .ref (ad 1)) X 0 (by decide) (mh_Mo cs ad _) rfl in_Mo 0 (by decide) wd_595 rfl rfl d_Mo_solve_42 rfl ?_
        refine mk_iloadn (nx := 46) X 3 d_Mo_solve_45 rfl rfl ?_
        refine mk_iald (nx := 47) (j := k) X 1 0 (by decide) (mh_pitches cs ad _) rfl (by omega) (by omega) (by decide) rfl d_Mo_solve_46 rfl ?_
        rw [show Ja 1 k = c 1 k from ((hfa 1 k (by omega) (by omega)).trans (iN k (by omega)).1)]
        refine mk_bipush (nx := 49) X d_Mo_solve_47 (by decide) rfl ?_
        refine mk_icmp_ne (tgt := 62) (nx := 52) X d_Mo_solve_49 (by omega) (by omega) (by decide) rfl (fun c49 => ?_) (fun c49 => ?_)
        · skip
          refine mk_iinc (nx := 65) X 3 [(3, .int (zi ((k : Int) + 1))), (0, .ref (ad 0)), (1, .int (zi most)), (2, .int (zi n))] d_Mo_solve_62 rfl (by decide) rfl rfl ?_
          refine mk_goto (tgt := 33) X d_Mo_solve_65 (by decide) ?_
          refine mk_lv [1, 2, 3, 0] rfl ?_
          exact ih33 (k + 1) n Ja (by omega) (by exact hnt) (by omega) (by first | rfl | exact op_ly (by omega) hnl | exact op_ln (by omega) hnl) (by first | exact hJas | exact h14 | exact (hJao 0 14 (by omega)).trans h14) (by first | exact fun a b x y => hJao a b (by omega) | exact hfa | exact fun a b x y => (hJao a b (by omega)).trans (hfa a b x y)) (by first | exact op_0 | exact op_y hoa (by omega) hnl hJa | exact op_n hoa (by omega)) (by omega)
        · skip
          refine mk_aloadn (nx := 53) X 0 d_Mo_solve_52 rfl rfl ?_
          refine mk_get (nx := 56) (v := .ref (ad 12)) X 0 (by decide) (mh_Mo cs ad _) rfl in_Mo 24 (by decide) wd_619 rfl rfl d_Mo_solve_53 rfl ?_
          refine mk_iloadn (nx := 57) X 2 d_Mo_solve_56 rfl rfl ?_
          refine mk_iloadn (nx := 58) X 3 d_Mo_solve_57 rfl rfl ?_
          refine mk_iast (nx := 59) (j := n.toNat) X 12 0 (by decide) (mh_opens cs ad) rfl (by omega) (by omega) (by decide) rfl d_Mo_solve_58 rfl ?_
          obtain ⟨J8, hJ8⟩ : ∃ W_ : Wo, W_ = up2 Ja 12 n.toNat (k : Int) := ⟨_, rfl⟩
          refine mk_same hJ8.symm ?_
          have hJ8s : J8 12 n.toNat = (k : Int) := hJ8 ▸ up2_ss Ja 12 n.toNat (k : Int)
          have hJ8o : ∀ a b, (a ≠ 12 ∨ b ≠ n.toNat) → J8 a b = Ja a b := hJ8 ▸ up2_o Ja 12 n.toNat (k : Int)
          refine mk_iinc (nx := 62) X 2 [(2, .int (zi (n + 1))), (0, .ref (ad 0)), (1, .int (zi most)), (3, .int (zi (k : Int)))] d_Mo_solve_59 rfl (by decide) rfl rfl ?_
          refine mk_iinc (nx := 65) X 3 [(3, .int (zi ((k : Int) + 1))), (2, .int (zi (n + 1))), (0, .ref (ad 0)), (1, .int (zi most))] d_Mo_solve_62 rfl (by decide) rfl rfl ?_
          refine mk_goto (tgt := 33) X d_Mo_solve_65 (by decide) ?_
          refine mk_lv [2, 3, 1, 0] rfl ?_
          exact ih33 (k + 1) (n + 1) J8 (by omega) (by exact hnt) (by omega) (by first | rfl | exact op_ly (by omega) hnl | exact op_ln (by omega) hnl) (by first | exact hJ8s | exact h14 | exact (hJ8o 0 14 (by omega)).trans h14) (by first | exact fun a b x y => hJ8o a b (by omega) | exact hfa | exact fun a b x y => (hJ8o a b (by omega)).trans (hfa a b x y)) (by first | exact op_0 | exact op_y hoa (by omega) hnl hJ8 | exact op_n hoa (by omega)) (by omega)
  refine mk_iloadn (nx := 1) X 1 d_Mo_solve_0 rfl rfl ?_
  refine mk_if_lt (tgt := 11) (nx := 4) X d_Mo_solve_1 (by omega) (by decide) rfl (fun c1 => ?_) (fun c1 => ?_)
  · skip
    refine mk_bipush (nx := 13) X d_Mo_solve_11 (by decide) rfl ?_
    exact hret _ _ _ _ d_Mo_solve_13 (by exact ⟨c, Or.inl ⟨by omega, rfl, rfl⟩, h⟩)
  · skip
    refine mk_iloadn (nx := 5) X 1 d_Mo_solve_4 rfl rfl ?_
    refine mk_sipush (nx := 8) X d_Mo_solve_5 (by decide) rfl ?_
    refine mk_icmp_le (tgt := 14) (nx := 11) X d_Mo_solve_8 (by omega) (by omega) (by decide) rfl (fun c8 => ?_) (fun c8 => ?_)
    · skip
      refine mk_aloadn (nx := 15) X 0 d_Mo_solve_14 rfl rfl ?_
      refine mk_callVi (nx := 18) (n := 0) (As := []) (rest := []) X 0 (by decide) (mh_Mo cs ad _) rfl (c_Mo_isLong l D cs ad hi c I h) (g_Mo_isLong wd_764) rfl ⟨rfl, rfl⟩ (by decide +kernel) ⟨by decide, by decide⟩ rfl (Nat.le_of_ble_eq_true rfl) rfl d_Mo_solve_15 rfl ?_
      intro r15 J9 hJ9
      obtain ⟨rfl, hr15⟩ := hJ9
      have hr15b : r15 = 1 ∨ r15 = 0 := hr15.elim (fun e => Or.inl e.1) (fun e => Or.inr e.1)
      refine mk_if_eq (tgt := 24) (nx := 21) X d_Mo_solve_18 (by omega) (by decide) rfl (fun c18 => ?_) (fun c18 => ?_)
      · skip
        have hnt : NTL c := (hr15.resolve_left (fun z => absurd z.1 (by omega))).2
        refine mk_aloadn (nx := 25) X 0 d_Mo_solve_24 rfl rfl ?_
        refine mk_iconst (nx := 26) X d_Mo_solve_25 rfl ?_
        refine mk_putf (nx := 29) (ty := .int) X t_Mo t_Mo_ok n_Mo 0 (by decide) (mh_Mo cs ad _) rfl in_Mo 14 (by decide) wd_609 rfl rfl (by decide +kernel) rfl rfl (Nat.le_of_ble_eq_true rfl) ((mh_Mo cs ad _).trans rfl) d_Mo_solve_26 rfl ?_
        obtain ⟨J10, hJ10⟩ : ∃ W_ : Wo, W_ = up2 I 0 14 0 := ⟨_, rfl⟩
        refine mk_same hJ10.symm ?_
        have hJ10s : J10 0 14 = 0 := hJ10 ▸ up2_ss I 0 14 0
        have hJ10o : ∀ a b, (a ≠ 0 ∨ b ≠ 14) → J10 a b = I a b := hJ10 ▸ up2_o I 0 14 0
        refine mk_iconst (nx := 30) X d_Mo_solve_29 rfl ?_
        refine mk_istoren (nx := 31) X [(2, .int (zi 0)), (0, .ref (ad 0)), (1, .int (zi most))] d_Mo_solve_30 (by decide) rfl rfl ?_
        refine mk_iconst (nx := 32) X d_Mo_solve_31 rfl ?_
        refine mk_istoren (nx := 33) X [(3, .int (zi 0)), (2, .int (zi 0)), (0, .ref (ad 0)), (1, .int (zi most))] d_Mo_solve_32 (by decide) rfl rfl ?_
        refine mk_lv [2, 3, 1, 0] rfl ?_
        exact L33 _ 0 0 J10 (by omega) (by exact hnt) (by omega) (by first | rfl | exact op_ly (by omega) hnl | exact op_ln (by omega) hnl) (by first | exact hJ10s | exact h14 | exact (hJ10o 0 14 (by omega)).trans h14) (by first | exact fun a b x y => hJ10o a b (by omega) | exact hfa | exact fun a b x y => (hJ10o a b (by omega)).trans (hfa a b x y)) (by first | exact op_0 | exact op_y hoa (by omega) hnl hJ10 | exact op_n hoa (by omega)) (Nat.lt_succ_self _)
      · skip
        refine mk_bipush (nx := 23) X d_Mo_solve_21 (by decide) rfl ?_
        exact hret _ _ _ _ d_Mo_solve_23 (by exact ⟨c, Or.inr (Or.inl ⟨by omega, (hr15.resolve_right (fun z => absurd z.1 (by omega))).2, rfl, rfl⟩), h⟩)
    · skip
      refine mk_bipush (nx := 13) X d_Mo_solve_11 (by decide) rfl ?_
      exact hret _ _ _ _ d_Mo_solve_13 (by exact ⟨c, Or.inl ⟨by omega, rfl, rfl⟩, h⟩)
