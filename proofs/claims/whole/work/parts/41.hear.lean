abbrev cmZ (zt : Nat) : mk_Zt := (("CanonMaker", "TOLD_ORDER", "[I", zt, 7, cm_told), ("CanonMaker$Judge", 60, "CanonMaker", "CanonMaker"))
-- CanonMaker$Judge.hear(I)V
theorem d_Judge_hear_0 : decode prog_3_method_3_code 0 = .ok (.aload_n 0, 1) := by decide +kernel
theorem d_Judge_hear_1 : decode prog_3_method_3_code 1 = .ok (.aload_n 0, 1) := by decide +kernel
theorem d_Judge_hear_2 : decode prog_3_method_3_code 2 = .ok (.getfield 28, 3) := by decide +kernel
theorem d_Judge_hear_5 : decode prog_3_method_3_code 5 = .ok (.getfield 69, 3) := by decide +kernel
theorem d_Judge_hear_8 : decode prog_3_method_3_code 8 = .ok (.iload_n 1, 1) := by decide +kernel
theorem d_Judge_hear_9 : decode prog_3_method_3_code 9 = .ok (.iaload, 1) := by decide +kernel
theorem d_Judge_hear_10 : decode prog_3_method_3_code 10 = .ok (.putfield 72, 3) := by decide +kernel
theorem d_Judge_hear_13 : decode prog_3_method_3_code 13 = .ok (.aload_n 0, 1) := by decide +kernel
theorem d_Judge_hear_14 : decode prog_3_method_3_code 14 = .ok (.iconst 0, 1) := by decide +kernel
theorem d_Judge_hear_15 : decode prog_3_method_3_code 15 = .ok (.putfield 75, 3) := by decide +kernel
theorem d_Judge_hear_18 : decode prog_3_method_3_code 18 = .ok (.iconst 0, 1) := by decide +kernel
theorem d_Judge_hear_19 : decode prog_3_method_3_code 19 = .ok (.istore_n 2, 1) := by decide +kernel
theorem d_Judge_hear_20 : decode prog_3_method_3_code 20 = .ok (.iload_n 2, 1) := by decide +kernel
theorem d_Judge_hear_21 : decode prog_3_method_3_code 21 = .ok (.iconst 4, 1) := by decide +kernel
theorem d_Judge_hear_22 : decode prog_3_method_3_code 22 = .ok (.if_icmp .ge 171, 3) := by decide +kernel
theorem d_Judge_hear_25 : decode prog_3_method_3_code 25 = .ok (.aload_n 0, 1) := by decide +kernel
theorem d_Judge_hear_26 : decode prog_3_method_3_code 26 = .ok (.getfield 28, 3) := by decide +kernel
theorem d_Judge_hear_29 : decode prog_3_method_3_code 29 = .ok (.getfield 78, 3) := by decide +kernel
theorem d_Judge_hear_32 : decode prog_3_method_3_code 32 = .ok (.iload_n 1, 1) := by decide +kernel
theorem d_Judge_hear_33 : decode prog_3_method_3_code 33 = .ok (.iconst 4, 1) := by decide +kernel
theorem d_Judge_hear_34 : decode prog_3_method_3_code 34 = .ok (.imul, 1) := by decide +kernel
theorem d_Judge_hear_35 : decode prog_3_method_3_code 35 = .ok (.iload_n 2, 1) := by decide +kernel
theorem d_Judge_hear_36 : decode prog_3_method_3_code 36 = .ok (.iadd, 1) := by decide +kernel
theorem d_Judge_hear_37 : decode prog_3_method_3_code 37 = .ok (.iaload, 1) := by decide +kernel
theorem d_Judge_hear_38 : decode prog_3_method_3_code 38 = .ok (.istore_n 3, 1) := by decide +kernel
theorem d_Judge_hear_39 : decode prog_3_method_3_code 39 = .ok (.iload_n 3, 1) := by decide +kernel
theorem d_Judge_hear_40 : decode prog_3_method_3_code 40 = .ok (.iconst (-1), 1) := by decide +kernel
theorem d_Judge_hear_41 : decode prog_3_method_3_code 41 = .ok (.if_icmp .eq 146, 3) := by decide +kernel
theorem d_Judge_hear_44 : decode prog_3_method_3_code 44 = .ok (.aload_n 0, 1) := by decide +kernel
theorem d_Judge_hear_45 : decode prog_3_method_3_code 45 = .ok (.getfield 28, 3) := by decide +kernel
theorem d_Judge_hear_48 : decode prog_3_method_3_code 48 = .ok (.getfield 81, 3) := by decide +kernel
theorem d_Judge_hear_51 : decode prog_3_method_3_code 51 = .ok (.iload_n 2, 1) := by decide +kernel
theorem d_Judge_hear_52 : decode prog_3_method_3_code 52 = .ok (.aaload, 1) := by decide +kernel
theorem d_Judge_hear_53 : decode prog_3_method_3_code 53 = .ok (.astore 4, 2) := by decide +kernel
theorem d_Judge_hear_55 : decode prog_3_method_3_code 55 = .ok (.aload_n 0, 1) := by decide +kernel
theorem d_Judge_hear_56 : decode prog_3_method_3_code 56 = .ok (.getfield 9, 3) := by decide +kernel
theorem d_Judge_hear_59 : decode prog_3_method_3_code 59 = .ok (.aload_n 0, 1) := by decide +kernel
theorem d_Judge_hear_60 : decode prog_3_method_3_code 60 = .ok (.getfield 75, 3) := by decide +kernel
theorem d_Judge_hear_63 : decode prog_3_method_3_code 63 = .ok (.iload_n 2, 1) := by decide +kernel
theorem d_Judge_hear_64 : decode prog_3_method_3_code 64 = .ok (.iastore, 1) := by decide +kernel
theorem d_Judge_hear_65 : decode prog_3_method_3_code 65 = .ok (.aload_n 0, 1) := by decide +kernel
theorem d_Judge_hear_66 : decode prog_3_method_3_code 66 = .ok (.dup, 1) := by decide +kernel
theorem d_Judge_hear_67 : decode prog_3_method_3_code 67 = .ok (.getfield 75, 3) := by decide +kernel
theorem d_Judge_hear_70 : decode prog_3_method_3_code 70 = .ok (.iconst 1, 1) := by decide +kernel
theorem d_Judge_hear_71 : decode prog_3_method_3_code 71 = .ok (.iadd, 1) := by decide +kernel
theorem d_Judge_hear_72 : decode prog_3_method_3_code 72 = .ok (.putfield 75, 3) := by decide +kernel
theorem d_Judge_hear_75 : decode prog_3_method_3_code 75 = .ok (.aload_n 0, 1) := by decide +kernel
theorem d_Judge_hear_76 : decode prog_3_method_3_code 76 = .ok (.getfield 15, 3) := by decide +kernel
theorem d_Judge_hear_79 : decode prog_3_method_3_code 79 = .ok (.iload_n 2, 1) := by decide +kernel
theorem d_Judge_hear_80 : decode prog_3_method_3_code 80 = .ok (.aload_n 0, 1) := by decide +kernel
theorem d_Judge_hear_81 : decode prog_3_method_3_code 81 = .ok (.getfield 28, 3) := by decide +kernel
theorem d_Judge_hear_84 : decode prog_3_method_3_code 84 = .ok (.getfield 85, 3) := by decide +kernel
theorem d_Judge_hear_87 : decode prog_3_method_3_code 87 = .ok (.iload_n 1, 1) := by decide +kernel
theorem d_Judge_hear_88 : decode prog_3_method_3_code 88 = .ok (.iaload, 1) := by decide +kernel
theorem d_Judge_hear_89 : decode prog_3_method_3_code 89 = .ok (.iload_n 2, 1) := by decide +kernel
theorem d_Judge_hear_90 : decode prog_3_method_3_code 90 = .ok (.ishr, 1) := by decide +kernel
theorem d_Judge_hear_91 : decode prog_3_method_3_code 91 = .ok (.iconst 1, 1) := by decide +kernel
theorem d_Judge_hear_92 : decode prog_3_method_3_code 92 = .ok (.iand, 1) := by decide +kernel
theorem d_Judge_hear_93 : decode prog_3_method_3_code 93 = .ok (.ifCond .eq 7, 3) := by decide +kernel
theorem d_Judge_hear_96 : decode prog_3_method_3_code 96 = .ok (.iconst 1, 1) := by decide +kernel
theorem d_Judge_hear_97 : decode prog_3_method_3_code 97 = .ok (.goto 4, 3) := by decide +kernel
theorem d_Judge_hear_100 : decode prog_3_method_3_code 100 = .ok (.iconst 0, 1) := by decide +kernel
theorem d_Judge_hear_101 : decode prog_3_method_3_code 101 = .ok (.bastore, 1) := by decide +kernel
theorem d_Judge_hear_102 : decode prog_3_method_3_code 102 = .ok (.aload_n 0, 1) := by decide +kernel
theorem d_Judge_hear_103 : decode prog_3_method_3_code 103 = .ok (.getfield 19, 3) := by decide +kernel
theorem d_Judge_hear_106 : decode prog_3_method_3_code 106 = .ok (.iload_n 2, 1) := by decide +kernel
theorem d_Judge_hear_107 : decode prog_3_method_3_code 107 = .ok (.aload 4, 2) := by decide +kernel
theorem d_Judge_hear_109 : decode prog_3_method_3_code 109 = .ok (.getfield 88, 3) := by decide +kernel
theorem d_Judge_hear_112 : decode prog_3_method_3_code 112 = .ok (.iload_n 3, 1) := by decide +kernel
theorem d_Judge_hear_113 : decode prog_3_method_3_code 113 = .ok (.iaload, 1) := by decide +kernel
theorem d_Judge_hear_114 : decode prog_3_method_3_code 114 = .ok (.iastore, 1) := by decide +kernel
theorem d_Judge_hear_115 : decode prog_3_method_3_code 115 = .ok (.aload_n 0, 1) := by decide +kernel
theorem d_Judge_hear_116 : decode prog_3_method_3_code 116 = .ok (.getfield 22, 3) := by decide +kernel
theorem d_Judge_hear_119 : decode prog_3_method_3_code 119 = .ok (.iload_n 2, 1) := by decide +kernel
theorem d_Judge_hear_120 : decode prog_3_method_3_code 120 = .ok (.aload 4, 2) := by decide +kernel
theorem d_Judge_hear_122 : decode prog_3_method_3_code 122 = .ok (.getfield 93, 3) := by decide +kernel
theorem d_Judge_hear_125 : decode prog_3_method_3_code 125 = .ok (.iload_n 3, 1) := by decide +kernel
theorem d_Judge_hear_126 : decode prog_3_method_3_code 126 = .ok (.iaload, 1) := by decide +kernel
theorem d_Judge_hear_127 : decode prog_3_method_3_code 127 = .ok (.iconst (-1), 1) := by decide +kernel
theorem d_Judge_hear_128 : decode prog_3_method_3_code 128 = .ok (.if_icmp .ne 9, 3) := by decide +kernel
theorem d_Judge_hear_131 : decode prog_3_method_3_code 131 = .ok (.sipush 1000, 3) := by decide +kernel
theorem d_Judge_hear_134 : decode prog_3_method_3_code 134 = .ok (.goto 16, 3) := by decide +kernel
theorem d_Judge_hear_137 : decode prog_3_method_3_code 137 = .ok (.aload 4, 2) := by decide +kernel
theorem d_Judge_hear_139 : decode prog_3_method_3_code 139 = .ok (.getfield 88, 3) := by decide +kernel
theorem d_Judge_hear_142 : decode prog_3_method_3_code 142 = .ok (.aload 4, 2) := by decide +kernel
theorem d_Judge_hear_144 : decode prog_3_method_3_code 144 = .ok (.getfield 93, 3) := by decide +kernel
theorem d_Judge_hear_147 : decode prog_3_method_3_code 147 = .ok (.iload_n 3, 1) := by decide +kernel
theorem d_Judge_hear_148 : decode prog_3_method_3_code 148 = .ok (.iaload, 1) := by decide +kernel
theorem d_Judge_hear_149 : decode prog_3_method_3_code 149 = .ok (.iaload, 1) := by decide +kernel
theorem d_Judge_hear_150 : decode prog_3_method_3_code 150 = .ok (.iastore, 1) := by decide +kernel
theorem d_Judge_hear_151 : decode prog_3_method_3_code 151 = .ok (.aload_n 0, 1) := by decide +kernel
theorem d_Judge_hear_152 : decode prog_3_method_3_code 152 = .ok (.getfield 25, 3) := by decide +kernel
theorem d_Judge_hear_155 : decode prog_3_method_3_code 155 = .ok (.iload_n 2, 1) := by decide +kernel
theorem d_Judge_hear_156 : decode prog_3_method_3_code 156 = .ok (.aload 4, 2) := by decide +kernel
theorem d_Judge_hear_158 : decode prog_3_method_3_code 158 = .ok (.getfield 96, 3) := by decide +kernel
theorem d_Judge_hear_161 : decode prog_3_method_3_code 161 = .ok (.iload_n 3, 1) := by decide +kernel
theorem d_Judge_hear_162 : decode prog_3_method_3_code 162 = .ok (.iaload, 1) := by decide +kernel
theorem d_Judge_hear_163 : decode prog_3_method_3_code 163 = .ok (.iconst (-1), 1) := by decide +kernel
theorem d_Judge_hear_164 : decode prog_3_method_3_code 164 = .ok (.if_icmp .ne 9, 3) := by decide +kernel
theorem d_Judge_hear_167 : decode prog_3_method_3_code 167 = .ok (.sipush 1000, 3) := by decide +kernel
theorem d_Judge_hear_170 : decode prog_3_method_3_code 170 = .ok (.goto 16, 3) := by decide +kernel
theorem d_Judge_hear_173 : decode prog_3_method_3_code 173 = .ok (.aload 4, 2) := by decide +kernel
theorem d_Judge_hear_175 : decode prog_3_method_3_code 175 = .ok (.getfield 88, 3) := by decide +kernel
theorem d_Judge_hear_178 : decode prog_3_method_3_code 178 = .ok (.aload 4, 2) := by decide +kernel
theorem d_Judge_hear_180 : decode prog_3_method_3_code 180 = .ok (.getfield 96, 3) := by decide +kernel
theorem d_Judge_hear_183 : decode prog_3_method_3_code 183 = .ok (.iload_n 3, 1) := by decide +kernel
theorem d_Judge_hear_184 : decode prog_3_method_3_code 184 = .ok (.iaload, 1) := by decide +kernel
theorem d_Judge_hear_185 : decode prog_3_method_3_code 185 = .ok (.iaload, 1) := by decide +kernel
theorem d_Judge_hear_186 : decode prog_3_method_3_code 186 = .ok (.iastore, 1) := by decide +kernel
theorem d_Judge_hear_187 : decode prog_3_method_3_code 187 = .ok (.iinc 2 1, 3) := by decide +kernel
theorem d_Judge_hear_190 : decode prog_3_method_3_code 190 = .ok (.goto (-170), 3) := by decide +kernel
theorem d_Judge_hear_193 : decode prog_3_method_3_code 193 = .ok (.return_, 1) := by decide +kernel
abbrev rm_Judge_hear : Room := { frames := 0, cells := 0, slots := 0, locals := 0 }
set_option maxHeartbeats 4000000 in
set_option maxRecDepth 100000 in
theorem c_Judge_hear (l : Launch) (D : va_G) (cs : Nat → ClassId) (ad : Nat → Nat) (zt : Nat) (hi : cm_inj ad) (c I : Wo) (hw : wfN c) (hS : wfS c) (hV : wfV c) (hF : ScF c I) (hT : ScT c I) (hPl : PlA c I) (hN : 0 ≤ I 6 5 ∧ I 6 5 ≤ 96) (m : Nat) (hm : m < nJ I) : cm_C l D cs ad zt y_Judge_hear ws_Judge_hear rm_Judge_hear [.ref (ad 36), .int (zi (m : Int))] I (mk_pv (fun J => HrA c J (I 8 m) ∧ (∀ a b, ¬ (a = 36 ∧ (b = 7 ∨ b = 8)) → (a < 37 ∨ 41 < a) → J a b = I a b))) := by
  refine mk_metv (own := "CanonMaker$Judge") (Ts := wA) hi (Nat.le_refl _) (by decide) rfl (fun w h => List.mem_cons_of_mem _ h) rfl (Nat.le_of_ble_eq_true rfl) [(0, .ref (ad 36)), (1, .int (zi (m : Int)))] rfl ?_
  intro p_ e_ s_ m_ as_ bl_ me_ co_ Q_ X hret
  have hcn := cn_e hw
  have hnJ : (nJ I : Int) = I 6 5 := by unfold nJ; omega
  have L20 : ∀ nf : Nat, ∀ (v : Nat) (J : Wo), (v ≤ 4) → (J 36 8 = I 8 m) → (Hrd c J (I 8 m) v) → (∀ a b, ¬ (a = 36 ∧ (b = 7 ∨ b = 8)) → (a < 37 ∨ 41 < a) → J a b = I a b) → 4 - v < nf → mk_A p_ l e_ rm_Judge_hear s_ m_ as_ bl_ me_ co_ Q_ 5 D cmcl (cm_sh cs ad) 48 48 ad J [(0, .ref (ad 36)), (1, .int (zi (m : Int))), (2, .int (zi (v : Int)))] 20 [] := by
    intro nf
    induction nf with
    | zero => intro v J hv ht8 hH hfr hn; exact absurd hn (Nat.not_lt_zero _)
    | succ nf ih20 =>
      intro v J hv ht8 hH hfr hn20
      have hFJ : ScF c J := ScF_fr (fun a b x y _ => hfr a b (by omega) (by omega)) hF
      have hTJ : ScT c J := ScT_fr (fun a b x y => hfr a b (by omega) (by omega)) hT
      have hpv := pcn_v (c := c) (t := I 8 m) v
      refine mk_iloadn (nx := 21) X 2 d_Judge_hear_20 rfl rfl ?_
      refine mk_iconst (nx := 22) X d_Judge_hear_21 rfl ?_
      refine mk_icmp_ge (tgt := 193) (nx := 25) X d_Judge_hear_22 (by omega) (by omega) (by decide) rfl (fun c22 => ?_) (fun c22 => ?_)
      · skip
        exact hret _ _ _ d_Judge_hear_193 (by exact ⟨⟨ht8, by have e := hH; rw [show v = 4 by omega] at e; exact e⟩, hfr⟩)
      · skip
        have hv4 : v < 4 := by omega
        have hplb := plC_b (c := c) (t := (I 8 m)) hw hV hv4
        refine mk_aloadn (nx := 26) X 0 d_Judge_hear_25 rfl rfl ?_
        refine mk_get (nx := 29) (v := .ref (ad 6)) X 36 (by decide) (sh_Judge cs ad _) rfl in_Judge 0 (by decide) wd_209 rfl rfl d_Judge_hear_26 rfl ?_
        refine mk_get (nx := 32) (v := .ref (ad 10)) X 6 (by decide) (sh_Score cs ad _) rfl in_Score 3 (by decide) wd_185 rfl rfl d_Judge_hear_29 rfl ?_
        refine mk_iloadn (nx := 33) X 1 d_Judge_hear_32 rfl rfl ?_
        refine mk_iconst (nx := 34) X d_Judge_hear_33 rfl ?_
        refine mk_imul (nx := 35) X d_Judge_hear_34 rfl ?_
        refine mk_iloadn (nx := 36) X 2 d_Judge_hear_35 rfl rfl ?_
        refine mk_iadd (nx := 37) X d_Judge_hear_36 rfl ?_
        refine mk_iald (nx := 38) (j := ((m * 4) + v)) X 10 0 (by decide) (sh_places cs ad _) rfl (by omega) (by omega) (by decide) (by omega) d_Judge_hear_37 rfl ?_
        rw [show J 10 ((m * 4) + v) = plC c (I 8 m) v from ((hfr 10 _ (by omega) (by omega)).trans ((hPl m hm).1 v (by omega)))]
        refine mk_istoren (nx := 39) X [(3, .int (zi (plC c (I 8 m) v))), (0, .ref (ad 36)), (1, .int (zi (m : Int))), (2, .int (zi (v : Int)))] d_Judge_hear_38 (by decide) rfl rfl ?_
        refine mk_iloadn (nx := 40) X 0 d_Judge_hear_39 rfl rfl ?_
        refine mk_iconst (nx := 41) X d_Judge_hear_40 rfl ?_
        refine mk_icmp_eq (tgt := 187) (nx := 44) X d_Judge_hear_41 (by omega) (by omega) (by decide) rfl (fun c41 => ?_) (fun c41 => ?_)
        · skip
          refine mk_iinc (nx := 190) X 3 [(2, .int (zi ((v : Int) + 1))), (3, .int (zi (plC c (I 8 m) v))), (0, .ref (ad 36)), (1, .int (zi (m : Int)))] d_Judge_hear_187 rfl (by decide) rfl rfl ?_
          refine mk_goto (tgt := 20) X d_Judge_hear_190 (by decide) ?_
          refine mk_lv [2, 3, 0] rfl ?_
          exact ih20 (v + 1) J (by omega) (by first | exact ht8 | exact ((hJo 36 8 (by omega)).trans ((hJo 36 8 (by omega)).trans ((hJo 36 8 (by omega)).trans ((hJo 36 8 (by omega)).trans ((hJo 36 8 (by omega)).trans ((hJo 36 8 (by omega)).trans ht8)))))) | exact (hJo 36 8 (by omega)).trans hJs) (by first | exact hr_n hH (plC_no hw hV (by omega) (by omega)) | exact hr_y hv4 hH hpd hJ hJ hJ hJ hJ hJ (by omega) (by rw [hd2]) (by rw [hob2]; first | rw [if_pos (by omega)] | rw [if_neg (by omega)]) (by rw [hnb2]; first | rw [if_pos (by omega)] | rw [if_neg (by omega)]) | exact ⟨hJs, fun u hu => absurd hu (Nat.not_lt_zero _)⟩) (by first | exact hfr | exact fun a b x y => (hJo a b (by omega)).trans ((hJo a b (by omega)).trans ((hJo a b (by omega)).trans ((hJo a b (by omega)).trans ((hJo a b (by omega)).trans ((hJo a b (by omega)).trans (hfr a b x y)))))) | exact fun a b x y => (hJo a b (by omega)).trans (hJo a b (by omega))) (by omega)
        · skip
          obtain ⟨hon, hpd, hpe, hpb, hpc⟩ := plC_on hw hV hv4 (t := I 8 m) (by omega)
          obtain ⟨p, hp⟩ : ∃ p : Nat, plC c (I 8 m) v = (p : Int) := ⟨(plC c (I 8 m) v).toNat, by omega⟩
          have hpp : (p : Int) = cpl c v (I 8 m) := by omega
          have hpt : (cpl c v (I 8 m)).toNat = p := by omega
          rw [hpt] at hpc
          have hd2 : dPt c (I 8 m) v = clp c v p := by have e := (dPt_pl hw hV hv4 hpd).2.2.2; rw [hpt] at e; exact e
          have hob2 : dOb c (I 8 m) v = if cbef c v p = -1 then 1000 else clp c v (cbef c v p).toNat := by unfold dOb ob; rw [← hpp]; exact ob_bef hw hS hV hv4 (by omega) hpc
          have hnb2 : dNb c (I 8 m) v = if cbeh c v p = -1 then 1000 else clp c v (cbeh c v p).toNat := by unfold dNb nb; rw [← hpp]; exact nb_beh hw hS hV hv4 (by omega) hpc
          have hb1 := cbef_b (c := c) (v := v) (show p < cn c by omega)
          have hb2 := cbeh_b (c := c) (v := v) (show p < cn c by omega)
          rw [show plC c (I 8 m) v = (p : Int) from hp]
          refine mk_aloadn (nx := 45) X 1 d_Judge_hear_44 rfl rfl ?_
          refine mk_get (nx := 48) (v := .ref (ad 6)) X 36 (by decide) (sh_Judge cs ad _) rfl in_Judge 0 (by decide) wd_209 rfl rfl d_Judge_hear_45 rfl ?_
          refine mk_get (nx := 51) (v := .ref (ad 7)) X 6 (by decide) (sh_Score cs ad _) rfl in_Score 0 (by decide) wd_178 rfl rfl d_Judge_hear_48 rfl ?_
          refine mk_iloadn (nx := 52) X 3 d_Judge_hear_51 rfl rfl ?_
          refine mk_aald (nx := 53) (j := v) X 7 3 (by decide) (sh_lines cs ad _) rfl (by omega) (by omega) (by decide) rfl rfl d_Judge_hear_52 rfl ?_
          refine mk_astore (nx := 55) X [(4, .ref (ad (12 + 6 * v))), (3, .int (zi (p : Int))), (0, .ref (ad 36)), (1, .int (zi (m : Int))), (2, .int (zi (v : Int)))] d_Judge_hear_53 (by decide) rfl rfl ?_
          refine mk_aloadn (nx := 56) X 2 d_Judge_hear_55 rfl rfl ?_
          refine mk_get (nx := 59) (v := .ref (ad 37)) X 36 (by decide) (sh_Judge cs ad _) rfl in_Judge 2 (by decide) wd_211 rfl rfl d_Judge_hear_56 rfl ?_
          refine mk_aloadn (nx := 60) X 2 d_Judge_hear_59 rfl rfl ?_
          refine mk_get (nx := 63) (v := .int (zi (J 36 7))) X 36 (by decide) (sh_Judge cs ad _) rfl in_Judge 7 (by decide) wd_216 rfl rfl d_Judge_hear_60 rfl ?_
          rw [show J 36 7 = (pcn c (I 8 m) v : Int) from hH.1]
          refine mk_iloadn (nx := 64) X 4 d_Judge_hear_63 rfl rfl ?_
          refine mk_iast (nx := 65) (j := (pcn c (I 8 m) v)) X 37 0 (by decide) (sh_present cs ad) rfl (by omega) (by omega) (by decide) rfl d_Judge_hear_64 rfl ?_
          obtain ⟨J1, hJ1⟩ : ∃ W_ : Wo, W_ = up2 J 37 (pcn c (I 8 m) v) (v : Int) := ⟨_, rfl⟩
          refine mk_same hJ1.symm ?_
          have hJ1s : J1 37 (pcn c (I 8 m) v) = (v : Int) := hJ1 ▸ up2_ss J 37 (pcn c (I 8 m) v) (v : Int)
          have hJ1o : ∀ a b, (a ≠ 37 ∨ b ≠ (pcn c (I 8 m) v)) → J1 a b = J a b := hJ1 ▸ up2_o J 37 (pcn c (I 8 m) v) (v : Int)
          refine mk_aloadn (nx := 66) X 2 d_Judge_hear_65 rfl rfl ?_
          refine mk_dup (nx := 67) X d_Judge_hear_66 rfl rfl ?_
          refine mk_get (nx := 70) (v := .int (zi (J1 36 7))) X 36 (by decide) (sh_Judge cs ad _) rfl in_Judge 7 (by decide) wd_216 rfl rfl d_Judge_hear_67 rfl ?_
          rw [show J1 36 7 = J 36 7 from hJ1o 36 7 (Or.inl (by decide))]
          rw [show J 36 7 = (pcn c (I 8 m) v : Int) from hH.1]
          refine mk_iconst (nx := 71) X d_Judge_hear_70 rfl ?_
          refine mk_iadd (nx := 72) X d_Judge_hear_71 rfl ?_
          refine mk_putf (nx := 75) (ty := .int) X t_Judge t_Judge_ok n_Judge 36 (by decide) (sh_Judge cs ad _) rfl in_Judge 7 (by decide) wd_216 rfl rfl (by decide +kernel) rfl rfl (Nat.le_of_ble_eq_true rfl) ((sh_Judge cs ad _).trans rfl) d_Judge_hear_72 rfl ?_
          obtain ⟨J2, hJ2⟩ : ∃ W_ : Wo, W_ = up2 J1 36 7 ((pcn c (I 8 m) v : Int) + 1) := ⟨_, rfl⟩
          refine mk_same hJ2.symm ?_
          have hJ2s : J2 36 7 = (pcn c (I 8 m) v : Int) + 1 := hJ2 ▸ up2_ss J1 36 7 ((pcn c (I 8 m) v : Int) + 1)
          have hJ2o : ∀ a b, (a ≠ 36 ∨ b ≠ 7) → J2 a b = J1 a b := hJ2 ▸ up2_o J1 36 7 ((pcn c (I 8 m) v : Int) + 1)
          refine mk_aloadn (nx := 76) X 2 d_Judge_hear_75 rfl rfl ?_
          refine mk_get (nx := 79) (v := .ref (ad 38)) X 36 (by decide) (sh_Judge cs ad _) rfl in_Judge 3 (by decide) wd_212 rfl rfl d_Judge_hear_76 rfl ?_
          refine mk_iloadn (nx := 80) X 4 d_Judge_hear_79 rfl rfl ?_
          refine mk_aloadn (nx := 81) X 2 d_Judge_hear_80 rfl rfl ?_
          refine mk_get (nx := 84) (v := .ref (ad 6)) X 36 (by decide) (sh_Judge cs ad _) rfl in_Judge 0 (by decide) wd_209 rfl rfl d_Judge_hear_81 rfl ?_
          refine mk_get (nx := 87) (v := .ref (ad 11)) X 6 (by decide) (sh_Score cs ad _) rfl in_Score 4 (by decide) wd_187 rfl rfl d_Judge_hear_84 rfl ?_
          refine mk_iloadn (nx := 88) X 3 d_Judge_hear_87 rfl rfl ?_
          refine mk_iald (nx := 89) (j := m) X 11 0 (by decide) (sh_strikes cs ad _) rfl (by omega) (by omega) (by decide) rfl d_Judge_hear_88 rfl ?_
          rw [show J2 11 m = J1 11 m from hJ2o 11 m (Or.inl (by decide))]
          rw [show J1 11 m = J 11 m from hJ1o 11 m (Or.inl (by decide))]
          rw [show J 11 m = bsm c (I 8 m) 4 from ((hfr 11 m (by omega) (by omega)).trans (hPl m hm).2.1)]
          refine mk_iloadn (nx := 90) X 4 d_Judge_hear_89 rfl rfl ?_
          refine mk_ishr (nx := 91) X d_Judge_hear_90 rfl ?_
          refine mk_iconst (nx := 92) X d_Judge_hear_91 rfl ?_
          refine mk_iand (nx := 93) X d_Judge_hear_92 rfl ?_
          refine mk_nm (fun sk hsk => ?_)
          have hsk2 : sk = dSk c (I 8 m) v := by rw [hsk]; exact bsm_get c _ hv4
          have hskb := dSk_b c (I 8 m) v
          refine mk_if_eq (tgt := 100) (nx := 96) X d_Judge_hear_93 (by omega) (by decide) rfl (fun c93 => ?_) (fun c93 => ?_)
          · skip
            refine mk_iconst (nx := 101) X d_Judge_hear_100 rfl ?_
            refine mk_zast (nx := 102) (j := v) X 38 1 (by decide) (sh_struck cs ad) rfl (by omega) (by omega) (by decide) (by omega) rfl d_Judge_hear_101 rfl ?_
            obtain ⟨J3, hJ3⟩ : ∃ W_ : Wo, W_ = up2 J2 38 v 0 := ⟨_, rfl⟩
            refine mk_same hJ3.symm ?_
            have hJ3s : J3 38 v = 0 := hJ3 ▸ up2_ss J2 38 v 0
            have hJ3o : ∀ a b, (a ≠ 38 ∨ b ≠ v) → J3 a b = J2 a b := hJ3 ▸ up2_o J2 38 v 0
            refine mk_aloadn (nx := 103) X 2 d_Judge_hear_102 rfl rfl ?_
            refine mk_get (nx := 106) (v := .ref (ad 39)) X 36 (by decide) (sh_Judge cs ad _) rfl in_Judge 4 (by decide) wd_213 rfl rfl d_Judge_hear_103 rfl ?_
            refine mk_iloadn (nx := 107) X 4 d_Judge_hear_106 rfl rfl ?_
            refine mk_aload (nx := 109) X 0 d_Judge_hear_107 rfl rfl ?_
            refine mk_get (nx := 112) (v := .ref (ad (15 + 6 * v))) X (12 + 6 * v) (by omega) (sh_Line cs ad (show v < 4 by omega) _) rfl in_Line 2 (by decide) wd_131 rfl rfl d_Judge_hear_109 rfl ?_
            refine mk_iloadn (nx := 113) X 1 d_Judge_hear_112 rfl rfl ?_
            refine mk_iald (nx := 114) (j := p) X (15 + 6 * v) 0 (by omega) (sh_Lpit cs ad (show v < 4 by omega) _) rfl (by omega) (by omega) (by decide) rfl d_Judge_hear_113 rfl ?_
            rw [show J3 (15 + 6 * v) p = J2 (15 + 6 * v) p from hJ3o (15 + 6 * v) p (Or.inl (by omega))]
            rw [show J2 (15 + 6 * v) p = J1 (15 + 6 * v) p from hJ2o (15 + 6 * v) p (Or.inl (by omega))]
            rw [show J1 (15 + 6 * v) p = J (15 + 6 * v) p from hJ1o (15 + 6 * v) p (Or.inl (by omega))]
            rw [show J (15 + 6 * v) p = clp c v p from (hTJ v hv4 hon p (by omega))]
            refine mk_iast (nx := 115) (j := v) X 39 0 (by decide) (sh_now cs ad) rfl (by omega) (by omega) (by decide) rfl d_Judge_hear_114 rfl ?_
            obtain ⟨J4, hJ4⟩ : ∃ W_ : Wo, W_ = up2 J3 39 v (clp c v p) := ⟨_, rfl⟩
            refine mk_same hJ4.symm ?_
            have hJ4s : J4 39 v = clp c v p := hJ4 ▸ up2_ss J3 39 v (clp c v p)
            have hJ4o : ∀ a b, (a ≠ 39 ∨ b ≠ v) → J4 a b = J3 a b := hJ4 ▸ up2_o J3 39 v (clp c v p)
            refine mk_aloadn (nx := 116) X 2 d_Judge_hear_115 rfl rfl ?_
            refine mk_get (nx := 119) (v := .ref (ad 40)) X 36 (by decide) (sh_Judge cs ad _) rfl in_Judge 5 (by decide) wd_214 rfl rfl d_Judge_hear_116 rfl ?_
            refine mk_iloadn (nx := 120) X 4 d_Judge_hear_119 rfl rfl ?_
            refine mk_aload (nx := 122) X 0 d_Judge_hear_120 rfl rfl ?_
            refine mk_get (nx := 125) (v := .ref (ad (16 + 6 * v))) X (12 + 6 * v) (by omega) (sh_Line cs ad (show v < 4 by omega) _) rfl in_Line 3 (by decide) wd_134 rfl rfl d_Judge_hear_122 rfl ?_
            refine mk_iloadn (nx := 126) X 1 d_Judge_hear_125 rfl rfl ?_
            refine mk_iald (nx := 127) (j := p) X (16 + 6 * v) 0 (by omega) (sh_Lbefore cs ad (show v < 4 by omega) _) rfl (by omega) (by omega) (by decide) rfl d_Judge_hear_126 rfl ?_
            rw [show J4 (16 + 6 * v) p = J3 (16 + 6 * v) p from hJ4o (16 + 6 * v) p (Or.inl (by omega))]
            rw [show J3 (16 + 6 * v) p = J2 (16 + 6 * v) p from hJ3o (16 + 6 * v) p (Or.inl (by omega))]
            rw [show J2 (16 + 6 * v) p = J1 (16 + 6 * v) p from hJ2o (16 + 6 * v) p (Or.inl (by omega))]
            rw [show J1 (16 + 6 * v) p = J (16 + 6 * v) p from hJ1o (16 + 6 * v) p (Or.inl (by omega))]
            rw [show J (16 + 6 * v) p = cbef c v p from ((hFJ v hv4).2.2 p (by omega)).1]
            refine mk_iconst (nx := 128) X d_Judge_hear_127 rfl ?_
            refine mk_icmp_ne (tgt := 137) (nx := 131) X d_Judge_hear_128 (by omega) (by omega) (by decide) rfl (fun c128 => ?_) (fun c128 => ?_)
            · skip
              refine mk_aload (nx := 139) X 0 d_Judge_hear_137 rfl rfl ?_
              refine mk_get (nx := 142) (v := .ref (ad (15 + 6 * v))) X (12 + 6 * v) (by omega) (sh_Line cs ad (show v < 4 by omega) _) rfl in_Line 2 (by decide) wd_131 rfl rfl d_Judge_hear_139 rfl ?_
              refine mk_aload (nx := 144) X 0 d_Judge_hear_142 rfl rfl ?_
              refine mk_get (nx := 147) (v := .ref (ad (16 + 6 * v))) X (12 + 6 * v) (by omega) (sh_Line cs ad (show v < 4 by omega) _) rfl in_Line 3 (by decide) wd_134 rfl rfl d_Judge_hear_144 rfl ?_
              refine mk_iloadn (nx := 148) X 1 d_Judge_hear_147 rfl rfl ?_
              refine mk_iald (nx := 149) (j := p) X (16 + 6 * v) 0 (by omega) (sh_Lbefore cs ad (show v < 4 by omega) _) rfl (by omega) (by omega) (by decide) rfl d_Judge_hear_148 rfl ?_
              rw [show J4 (16 + 6 * v) p = J3 (16 + 6 * v) p from hJ4o (16 + 6 * v) p (Or.inl (by omega))]
              rw [show J3 (16 + 6 * v) p = J2 (16 + 6 * v) p from hJ3o (16 + 6 * v) p (Or.inl (by omega))]
              rw [show J2 (16 + 6 * v) p = J1 (16 + 6 * v) p from hJ2o (16 + 6 * v) p (Or.inl (by omega))]
              rw [show J1 (16 + 6 * v) p = J (16 + 6 * v) p from hJ1o (16 + 6 * v) p (Or.inl (by omega))]
              rw [show J (16 + 6 * v) p = cbef c v p from ((hFJ v hv4).2.2 p (by omega)).1]
              refine mk_iald (nx := 150) (j := (cbef c v p).toNat) X (15 + 6 * v) 0 (by omega) (sh_Lpit cs ad (show v < 4 by omega) _) rfl (by omega) (by omega) (by decide) rfl d_Judge_hear_149 rfl ?_
              rw [show J4 (15 + 6 * v) ((cbef c v p).toNat) = J3 (15 + 6 * v) ((cbef c v p).toNat) from hJ4o (15 + 6 * v) ((cbef c v p).toNat) (Or.inl (by omega))]
              rw [show J3 (15 + 6 * v) ((cbef c v p).toNat) = J2 (15 + 6 * v) ((cbef c v p).toNat) from hJ3o (15 + 6 * v) ((cbef c v p).toNat) (Or.inl (by omega))]
              rw [show J2 (15 + 6 * v) ((cbef c v p).toNat) = J1 (15 + 6 * v) ((cbef c v p).toNat) from hJ2o (15 + 6 * v) ((cbef c v p).toNat) (Or.inl (by omega))]
              rw [show J1 (15 + 6 * v) ((cbef c v p).toNat) = J (15 + 6 * v) ((cbef c v p).toNat) from hJ1o (15 + 6 * v) ((cbef c v p).toNat) (Or.inl (by omega))]
              rw [show J (15 + 6 * v) ((cbef c v p).toNat) = clp c v ((cbef c v p).toNat) from (hTJ v hv4 hon ((cbef c v p).toNat) (by omega))]
              refine mk_iast (nx := 151) (j := v) X 40 0 (by decide) (sh_old cs ad) rfl (by omega) (by omega) (by decide) rfl d_Judge_hear_150 rfl ?_
              obtain ⟨J5, hJ5⟩ : ∃ W_ : Wo, W_ = up2 J4 40 v (clp c v ((cbef c v p).toNat)) := ⟨_, rfl⟩
              refine mk_same hJ5.symm ?_
              have hJ5s : J5 40 v = clp c v ((cbef c v p).toNat) := hJ5 ▸ up2_ss J4 40 v (clp c v ((cbef c v p).toNat))
              have hJ5o : ∀ a b, (a ≠ 40 ∨ b ≠ v) → J5 a b = J4 a b := hJ5 ▸ up2_o J4 40 v (clp c v ((cbef c v p).toNat))
              refine mk_aloadn (nx := 152) X 2 d_Judge_hear_151 rfl rfl ?_
              refine mk_get (nx := 155) (v := .ref (ad 41)) X 36 (by decide) (sh_Judge cs ad _) rfl in_Judge 6 (by decide) wd_215 rfl rfl d_Judge_hear_152 rfl ?_
              refine mk_iloadn (nx := 156) X 4 d_Judge_hear_155 rfl rfl ?_
              refine mk_aload (nx := 158) X 0 d_Judge_hear_156 rfl rfl ?_
              refine mk_get (nx := 161) (v := .ref (ad (17 + 6 * v))) X (12 + 6 * v) (by omega) (sh_Line cs ad (show v < 4 by omega) _) rfl in_Line 4 (by decide) wd_137 rfl rfl d_Judge_hear_158 rfl ?_
              refine mk_iloadn (nx := 162) X 1 d_Judge_hear_161 rfl rfl ?_
              refine mk_iald (nx := 163) (j := p) X (17 + 6 * v) 0 (by omega) (sh_Lbehind cs ad (show v < 4 by omega) _) rfl (by omega) (by omega) (by decide) rfl d_Judge_hear_162 rfl ?_
              rw [show J5 (17 + 6 * v) p = J4 (17 + 6 * v) p from hJ5o (17 + 6 * v) p (Or.inl (by omega))]
              rw [show J4 (17 + 6 * v) p = J3 (17 + 6 * v) p from hJ4o (17 + 6 * v) p (Or.inl (by omega))]
              rw [show J3 (17 + 6 * v) p = J2 (17 + 6 * v) p from hJ3o (17 + 6 * v) p (Or.inl (by omega))]
              rw [show J2 (17 + 6 * v) p = J1 (17 + 6 * v) p from hJ2o (17 + 6 * v) p (Or.inl (by omega))]
              rw [show J1 (17 + 6 * v) p = J (17 + 6 * v) p from hJ1o (17 + 6 * v) p (Or.inl (by omega))]
              rw [show J (17 + 6 * v) p = cbeh c v p from ((hFJ v hv4).2.2 p (by omega)).2]
              refine mk_iconst (nx := 164) X d_Judge_hear_163 rfl ?_
              refine mk_icmp_ne (tgt := 173) (nx := 167) X d_Judge_hear_164 (by omega) (by omega) (by decide) rfl (fun c164 => ?_) (fun c164 => ?_)
              · skip
                refine mk_aload (nx := 175) X 0 d_Judge_hear_173 rfl rfl ?_
                refine mk_get (nx := 178) (v := .ref (ad (15 + 6 * v))) X (12 + 6 * v) (by omega) (sh_Line cs ad (show v < 4 by omega) _) rfl in_Line 2 (by decide) wd_131 rfl rfl d_Judge_hear_175 rfl ?_
                refine mk_aload (nx := 180) X 0 d_Judge_hear_178 rfl rfl ?_
                refine mk_get (nx := 183) (v := .ref (ad (17 + 6 * v))) X (12 + 6 * v) (by omega) (sh_Line cs ad (show v < 4 by omega) _) rfl in_Line 4 (by decide) wd_137 rfl rfl d_Judge_hear_180 rfl ?_
                refine mk_iloadn (nx := 184) X 1 d_Judge_hear_183 rfl rfl ?_
                refine mk_iald (nx := 185) (j := p) X (17 + 6 * v) 0 (by omega) (sh_Lbehind cs ad (show v < 4 by omega) _) rfl (by omega) (by omega) (by decide) rfl d_Judge_hear_184 rfl ?_
                rw [show J5 (17 + 6 * v) p = J4 (17 + 6 * v) p from hJ5o (17 + 6 * v) p (Or.inl (by omega))]
                rw [show J4 (17 + 6 * v) p = J3 (17 + 6 * v) p from hJ4o (17 + 6 * v) p (Or.inl (by omega))]
                rw [show J3 (17 + 6 * v) p = J2 (17 + 6 * v) p from hJ3o (17 + 6 * v) p (Or.inl (by omega))]
                rw [show J2 (17 + 6 * v) p = J1 (17 + 6 * v) p from hJ2o (17 + 6 * v) p (Or.inl (by omega))]
                rw [show J1 (17 + 6 * v) p = J (17 + 6 * v) p from hJ1o (17 + 6 * v) p (Or.inl (by omega))]
                rw [show J (17 + 6 * v) p = cbeh c v p from ((hFJ v hv4).2.2 p (by omega)).2]
                refine mk_iald (nx := 186) (j := (cbeh c v p).toNat) X (15 + 6 * v) 0 (by omega) (sh_Lpit cs ad (show v < 4 by omega) _) rfl (by omega) (by omega) (by decide) rfl d_Judge_hear_185 rfl ?_
                rw [show J5 (15 + 6 * v) ((cbeh c v p).toNat) = J4 (15 + 6 * v) ((cbeh c v p).toNat) from hJ5o (15 + 6 * v) ((cbeh c v p).toNat) (Or.inl (by omega))]
                rw [show J4 (15 + 6 * v) ((cbeh c v p).toNat) = J3 (15 + 6 * v) ((cbeh c v p).toNat) from hJ4o (15 + 6 * v) ((cbeh c v p).toNat) (Or.inl (by omega))]
                rw [show J3 (15 + 6 * v) ((cbeh c v p).toNat) = J2 (15 + 6 * v) ((cbeh c v p).toNat) from hJ3o (15 + 6 * v) ((cbeh c v p).toNat) (Or.inl (by omega))]
                rw [show J2 (15 + 6 * v) ((cbeh c v p).toNat) = J1 (15 + 6 * v) ((cbeh c v p).toNat) from hJ2o (15 + 6 * v) ((cbeh c v p).toNat) (Or.inl (by omega))]
                rw [show J1 (15 + 6 * v) ((cbeh c v p).toNat) = J (15 + 6 * v) ((cbeh c v p).toNat) from hJ1o (15 + 6 * v) ((cbeh c v p).toNat) (Or.inl (by omega))]
                rw [show J (15 + 6 * v) ((cbeh c v p).toNat) = clp c v ((cbeh c v p).toNat) from (hTJ v hv4 hon ((cbeh c v p).toNat) (by omega))]
                refine mk_iast (nx := 187) (j := v) X 41 0 (by decide) (sh_next cs ad) rfl (by omega) (by omega) (by decide) rfl d_Judge_hear_186 rfl ?_
                obtain ⟨J6, hJ6⟩ : ∃ W_ : Wo, W_ = up2 J5 41 v (clp c v ((cbeh c v p).toNat)) := ⟨_, rfl⟩
                refine mk_same hJ6.symm ?_
                have hJ6s : J6 41 v = clp c v ((cbeh c v p).toNat) := hJ6 ▸ up2_ss J5 41 v (clp c v ((cbeh c v p).toNat))
                have hJ6o : ∀ a b, (a ≠ 41 ∨ b ≠ v) → J6 a b = J5 a b := hJ6 ▸ up2_o J5 41 v (clp c v ((cbeh c v p).toNat))
                refine mk_iinc (nx := 190) X 4 [(2, .int (zi ((v : Int) + 1))), (4, .ref (ad (12 + 6 * v))), (3, .int (zi (p : Int))), (0, .ref (ad 36)), (1, .int (zi (m : Int)))] d_Judge_hear_187 rfl (by decide) rfl rfl ?_
                refine mk_goto (tgt := 20) X d_Judge_hear_190 (by decide) ?_
                refine mk_lv [3, 4, 0] rfl ?_
                exact ih20 (v + 1) J6 (by omega) (by first | exact ht8 | exact ((hJ6o 36 8 (by omega)).trans ((hJ5o 36 8 (by omega)).trans ((hJ4o 36 8 (by omega)).trans ((hJ3o 36 8 (by omega)).trans ((hJ2o 36 8 (by omega)).trans ((hJ1o 36 8 (by omega)).trans ht8)))))) | exact (hJ6o 36 8 (by omega)).trans hJ5s) (by first | exact hr_n hH (plC_no hw hV (by omega) (by omega)) | exact hr_y hv4 hH hpd hJ1 hJ2 hJ3 hJ4 hJ5 hJ6 (by omega) (by rw [hd2]) (by rw [hob2]; first | rw [if_pos (by omega)] | rw [if_neg (by omega)]) (by rw [hnb2]; first | rw [if_pos (by omega)] | rw [if_neg (by omega)]) | exact ⟨hJ6s, fun u hu => absurd hu (Nat.not_lt_zero _)⟩) (by first | exact hfr | exact fun a b x y => (hJ6o a b (by omega)).trans ((hJ5o a b (by omega)).trans ((hJ4o a b (by omega)).trans ((hJ3o a b (by omega)).trans ((hJ2o a b (by omega)).trans ((hJ1o a b (by omega)).trans (hfr a b x y)))))) | exact fun a b x y => (hJ6o a b (by omega)).trans (hJ5o a b (by omega))) (by omega)
              · skip
                refine mk_sipush (nx := 170) X d_Judge_hear_167 (by decide) rfl ?_
                refine mk_goto (tgt := 186) X d_Judge_hear_170 (by decide) ?_
                refine mk_iast (nx := 187) (j := v) X 41 0 (by decide) (sh_next cs ad) rfl (by omega) (by omega) (by decide) rfl d_Judge_hear_186 rfl ?_
                obtain ⟨J7, hJ7⟩ : ∃ W_ : Wo, W_ = up2 J5 41 v 1000 := ⟨_, rfl⟩
                refine mk_same hJ7.symm ?_
                have hJ7s : J7 41 v = 1000 := hJ7 ▸ up2_ss J5 41 v 1000
                have hJ7o : ∀ a b, (a ≠ 41 ∨ b ≠ v) → J7 a b = J5 a b := hJ7 ▸ up2_o J5 41 v 1000
                refine mk_iinc (nx := 190) X 4 [(2, .int (zi ((v : Int) + 1))), (4, .ref (ad (12 + 6 * v))), (3, .int (zi (p : Int))), (0, .ref (ad 36)), (1, .int (zi (m : Int)))] d_Judge_hear_187 rfl (by decide) rfl rfl ?_
                refine mk_goto (tgt := 20) X d_Judge_hear_190 (by decide) ?_
                refine mk_lv [3, 4, 0] rfl ?_
                exact ih20 (v + 1) J7 (by omega) (by first | exact ht8 | exact ((hJ7o 36 8 (by omega)).trans ((hJ5o 36 8 (by omega)).trans ((hJ4o 36 8 (by omega)).trans ((hJ3o 36 8 (by omega)).trans ((hJ2o 36 8 (by omega)).trans ((hJ1o 36 8 (by omega)).trans ht8)))))) | exact (hJ7o 36 8 (by omega)).trans hJ5s) (by first | exact hr_n hH (plC_no hw hV (by omega) (by omega)) | exact hr_y hv4 hH hpd hJ1 hJ2 hJ3 hJ4 hJ5 hJ7 (by omega) (by rw [hd2]) (by rw [hob2]; first | rw [if_pos (by omega)] | rw [if_neg (by omega)]) (by rw [hnb2]; first | rw [if_pos (by omega)] | rw [if_neg (by omega)]) | exact ⟨hJ7s, fun u hu => absurd hu (Nat.not_lt_zero _)⟩) (by first | exact hfr | exact fun a b x y => (hJ7o a b (by omega)).trans ((hJ5o a b (by omega)).trans ((hJ4o a b (by omega)).trans ((hJ3o a b (by omega)).trans ((hJ2o a b (by omega)).trans ((hJ1o a b (by omega)).trans (hfr a b x y)))))) | exact fun a b x y => (hJ7o a b (by omega)).trans (hJ5o a b (by omega))) (by omega)
            · skip
              refine mk_sipush (nx := 134) X d_Judge_hear_131 (by decide) rfl ?_
              refine mk_goto (tgt := 150) X d_Judge_hear_134 (by decide) ?_
              refine mk_iast (nx := 151) (j := v) X 40 0 (by decide) (sh_old cs ad) rfl (by omega) (by omega) (by decide) rfl d_Judge_hear_150 rfl ?_
              obtain ⟨J8, hJ8⟩ : ∃ W_ : Wo, W_ = up2 J4 40 v 1000 := ⟨_, rfl⟩
              refine mk_same hJ8.symm ?_
              have hJ8s : J8 40 v = 1000 := hJ8 ▸ up2_ss J4 40 v 1000
              have hJ8o : ∀ a b, (a ≠ 40 ∨ b ≠ v) → J8 a b = J4 a b := hJ8 ▸ up2_o J4 40 v 1000
              refine mk_aloadn (nx := 152) X 2 d_Judge_hear_151 rfl rfl ?_
              refine mk_get (nx := 155) (v := .ref (ad 41)) X 36 (by decide) (sh_Judge cs ad _) rfl in_Judge 6 (by decide) wd_215 rfl rfl d_Judge_hear_152 rfl ?_
              refine mk_iloadn (nx := 156) X 4 d_Judge_hear_155 rfl rfl ?_
              refine mk_aload (nx := 158) X 0 d_Judge_hear_156 rfl rfl ?_
              refine mk_get (nx := 161) (v := .ref (ad (17 + 6 * v))) X (12 + 6 * v) (by omega) (sh_Line cs ad (show v < 4 by omega) _) rfl in_Line 4 (by decide) wd_137 rfl rfl d_Judge_hear_158 rfl ?_
              refine mk_iloadn (nx := 162) X 1 d_Judge_hear_161 rfl rfl ?_
              refine mk_iald (nx := 163) (j := p) X (17 + 6 * v) 0 (by omega) (sh_Lbehind cs ad (show v < 4 by omega) _) rfl (by omega) (by omega) (by decide) rfl d_Judge_hear_162 rfl ?_
              rw [show J8 (17 + 6 * v) p = J4 (17 + 6 * v) p from hJ8o (17 + 6 * v) p (Or.inl (by omega))]
              rw [show J4 (17 + 6 * v) p = J3 (17 + 6 * v) p from hJ4o (17 + 6 * v) p (Or.inl (by omega))]
              rw [show J3 (17 + 6 * v) p = J2 (17 + 6 * v) p from hJ3o (17 + 6 * v) p (Or.inl (by omega))]
              rw [show J2 (17 + 6 * v) p = J1 (17 + 6 * v) p from hJ2o (17 + 6 * v) p (Or.inl (by omega))]
              rw [show J1 (17 + 6 * v) p = J (17 + 6 * v) p from hJ1o (17 + 6 * v) p (Or.inl (by omega))]
              rw [show J (17 + 6 * v) p = cbeh c v p from ((hFJ v hv4).2.2 p (by omega)).2]
              refine mk_iconst (nx := 164) X d_Judge_hear_163 rfl ?_
              refine mk_icmp_ne (tgt := 173) (nx := 167) X d_Judge_hear_164 (by omega) (by omega) (by decide) rfl (fun c164 => ?_) (fun c164 => ?_)
              · skip
                refine mk_aload (nx := 175) X 0 d_Judge_hear_173 rfl rfl ?_
                refine mk_get (nx := 178) (v := .ref (ad (15 + 6 * v))) X (12 + 6 * v) (by omega) (sh_Line cs ad (show v < 4 by omega) _) rfl in_Line 2 (by decide) wd_131 rfl rfl d_Judge_hear_175 rfl ?_
                refine mk_aload (nx := 180) X 0 d_Judge_hear_178 rfl rfl ?_
                refine mk_get (nx := 183) (v := .ref (ad (17 + 6 * v))) X (12 + 6 * v) (by omega) (sh_Line cs ad (show v < 4 by omega) _) rfl in_Line 4 (by decide) wd_137 rfl rfl d_Judge_hear_180 rfl ?_
                refine mk_iloadn (nx := 184) X 1 d_Judge_hear_183 rfl rfl ?_
                refine mk_iald (nx := 185) (j := p) X (17 + 6 * v) 0 (by omega) (sh_Lbehind cs ad (show v < 4 by omega) _) rfl (by omega) (by omega) (by decide) rfl d_Judge_hear_184 rfl ?_
                rw [show J8 (17 + 6 * v) p = J4 (17 + 6 * v) p from hJ8o (17 + 6 * v) p (Or.inl (by omega))]
                rw [show J4 (17 + 6 * v) p = J3 (17 + 6 * v) p from hJ4o (17 + 6 * v) p (Or.inl (by omega))]
                rw [show J3 (17 + 6 * v) p = J2 (17 + 6 * v) p from hJ3o (17 + 6 * v) p (Or.inl (by omega))]
                rw [show J2 (17 + 6 * v) p = J1 (17 + 6 * v) p from hJ2o (17 + 6 * v) p (Or.inl (by omega))]
                rw [show J1 (17 + 6 * v) p = J (17 + 6 * v) p from hJ1o (17 + 6 * v) p (Or.inl (by omega))]
                rw [show J (17 + 6 * v) p = cbeh c v p from ((hFJ v hv4).2.2 p (by omega)).2]
                refine mk_iald (nx := 186) (j := (cbeh c v p).toNat) X (15 + 6 * v) 0 (by omega) (sh_Lpit cs ad (show v < 4 by omega) _) rfl (by omega) (by omega) (by decide) rfl d_Judge_hear_185 rfl ?_
                rw [show J8 (15 + 6 * v) ((cbeh c v p).toNat) = J4 (15 + 6 * v) ((cbeh c v p).toNat) from hJ8o (15 + 6 * v) ((cbeh c v p).toNat) (Or.inl (by omega))]
                rw [show J4 (15 + 6 * v) ((cbeh c v p).toNat) = J3 (15 + 6 * v) ((cbeh c v p).toNat) from hJ4o (15 + 6 * v) ((cbeh c v p).toNat) (Or.inl (by omega))]
                rw [show J3 (15 + 6 * v) ((cbeh c v p).toNat) = J2 (15 + 6 * v) ((cbeh c v p).toNat) from hJ3o (15 + 6 * v) ((cbeh c v p).toNat) (Or.inl (by omega))]
                rw [show J2 (15 + 6 * v) ((cbeh c v p).toNat) = J1 (15 + 6 * v) ((cbeh c v p).toNat) from hJ2o (15 + 6 * v) ((cbeh c v p).toNat) (Or.inl (by omega))]
                rw [show J1 (15 + 6 * v) ((cbeh c v p).toNat) = J (15 + 6 * v) ((cbeh c v p).toNat) from hJ1o (15 + 6 * v) ((cbeh c v p).toNat) (Or.inl (by omega))]
                rw [show J (15 + 6 * v) ((cbeh c v p).toNat) = clp c v ((cbeh c v p).toNat) from (hTJ v hv4 hon ((cbeh c v p).toNat) (by omega))]
                refine mk_iast (nx := 187) (j := v) X 41 0 (by decide) (sh_next cs ad) rfl (by omega) (by omega) (by decide) rfl d_Judge_hear_186 rfl ?_
                obtain ⟨J9, hJ9⟩ : ∃ W_ : Wo, W_ = up2 J8 41 v (clp c v ((cbeh c v p).toNat)) := ⟨_, rfl⟩
                refine mk_same hJ9.symm ?_
                have hJ9s : J9 41 v = clp c v ((cbeh c v p).toNat) := hJ9 ▸ up2_ss J8 41 v (clp c v ((cbeh c v p).toNat))
                have hJ9o : ∀ a b, (a ≠ 41 ∨ b ≠ v) → J9 a b = J8 a b := hJ9 ▸ up2_o J8 41 v (clp c v ((cbeh c v p).toNat))
                refine mk_iinc (nx := 190) X 4 [(2, .int (zi ((v : Int) + 1))), (4, .ref (ad (12 + 6 * v))), (3, .int (zi (p : Int))), (0, .ref (ad 36)), (1, .int (zi (m : Int)))] d_Judge_hear_187 rfl (by decide) rfl rfl ?_
                refine mk_goto (tgt := 20) X d_Judge_hear_190 (by decide) ?_
                refine mk_lv [3, 4, 0] rfl ?_
                exact ih20 (v + 1) J9 (by omega) (by first | exact ht8 | exact ((hJ9o 36 8 (by omega)).trans ((hJ8o 36 8 (by omega)).trans ((hJ4o 36 8 (by omega)).trans ((hJ3o 36 8 (by omega)).trans ((hJ2o 36 8 (by omega)).trans ((hJ1o 36 8 (by omega)).trans ht8)))))) | exact (hJ9o 36 8 (by omega)).trans hJ8s) (by first | exact hr_n hH (plC_no hw hV (by omega) (by omega)) | exact hr_y hv4 hH hpd hJ1 hJ2 hJ3 hJ4 hJ8 hJ9 (by omega) (by rw [hd2]) (by rw [hob2]; first | rw [if_pos (by omega)] | rw [if_neg (by omega)]) (by rw [hnb2]; first | rw [if_pos (by omega)] | rw [if_neg (by omega)]) | exact ⟨hJ9s, fun u hu => absurd hu (Nat.not_lt_zero _)⟩) (by first | exact hfr | exact fun a b x y => (hJ9o a b (by omega)).trans ((hJ8o a b (by omega)).trans ((hJ4o a b (by omega)).trans ((hJ3o a b (by omega)).trans ((hJ2o a b (by omega)).trans ((hJ1o a b (by omega)).trans (hfr a b x y)))))) | exact fun a b x y => (hJ9o a b (by omega)).trans (hJ8o a b (by omega))) (by omega)
              · skip
                refine mk_sipush (nx := 170) X d_Judge_hear_167 (by decide) rfl ?_
                refine mk_goto (tgt := 186) X d_Judge_hear_170 (by decide) ?_
                refine mk_iast (nx := 187) (j := v) X 41 0 (by decide) (sh_next cs ad) rfl (by omega) (by omega) (by decide) rfl d_Judge_hear_186 rfl ?_
                obtain ⟨J10, hJ10⟩ : ∃ W_ : Wo, W_ = up2 J8 41 v 1000 := ⟨_, rfl⟩
                refine mk_same hJ10.symm ?_
                have hJ10s : J10 41 v = 1000 := hJ10 ▸ up2_ss J8 41 v 1000
                have hJ10o : ∀ a b, (a ≠ 41 ∨ b ≠ v) → J10 a b = J8 a b := hJ10 ▸ up2_o J8 41 v 1000
                refine mk_iinc (nx := 190) X 4 [(2, .int (zi ((v : Int) + 1))), (4, .ref (ad (12 + 6 * v))), (3, .int (zi (p : Int))), (0, .ref (ad 36)), (1, .int (zi (m : Int)))] d_Judge_hear_187 rfl (by decide) rfl rfl ?_
                refine mk_goto (tgt := 20) X d_Judge_hear_190 (by decide) ?_
                refine mk_lv [3, 4, 0] rfl ?_
                exact ih20 (v + 1) J10 (by omega) (by first | exact ht8 | exact ((hJ10o 36 8 (by omega)).trans ((hJ8o 36 8 (by omega)).trans ((hJ4o 36 8 (by omega)).trans ((hJ3o 36 8 (by omega)).trans ((hJ2o 36 8 (by omega)).trans ((hJ1o 36 8 (by omega)).trans ht8)))))) | exact (hJ10o 36 8 (by omega)).trans hJ8s) (by first | exact hr_n hH (plC_no hw hV (by omega) (by omega)) | exact hr_y hv4 hH hpd hJ1 hJ2 hJ3 hJ4 hJ8 hJ10 (by omega) (by rw [hd2]) (by rw [hob2]; first | rw [if_pos (by omega)] | rw [if_neg (by omega)]) (by rw [hnb2]; first | rw [if_pos (by omega)] | rw [if_neg (by omega)]) | exact ⟨hJ10s, fun u hu => absurd hu (Nat.not_lt_zero _)⟩) (by first | exact hfr | exact fun a b x y => (hJ10o a b (by omega)).trans ((hJ8o a b (by omega)).trans ((hJ4o a b (by omega)).trans ((hJ3o a b (by omega)).trans ((hJ2o a b (by omega)).trans ((hJ1o a b (by omega)).trans (hfr a b x y)))))) | exact fun a b x y => (hJ10o a b (by omega)).trans (hJ8o a b (by omega))) (by omega)
          · skip
            refine mk_iconst (nx := 97) X d_Judge_hear_96 rfl ?_
            refine mk_goto (tgt := 101) X d_Judge_hear_97 (by decide) ?_
            refine mk_zast (nx := 102) (j := v) X 38 1 (by decide) (sh_struck cs ad) rfl (by omega) (by omega) (by decide) (by omega) rfl d_Judge_hear_101 rfl ?_
            obtain ⟨J11, hJ11⟩ : ∃ W_ : Wo, W_ = up2 J2 38 v 1 := ⟨_, rfl⟩
            refine mk_same hJ11.symm ?_
            have hJ11s : J11 38 v = 1 := hJ11 ▸ up2_ss J2 38 v 1
            have hJ11o : ∀ a b, (a ≠ 38 ∨ b ≠ v) → J11 a b = J2 a b := hJ11 ▸ up2_o J2 38 v 1
            refine mk_aloadn (nx := 103) X 2 d_Judge_hear_102 rfl rfl ?_
            refine mk_get (nx := 106) (v := .ref (ad 39)) X 36 (by decide) (sh_Judge cs ad _) rfl in_Judge 4 (by decide) wd_213 rfl rfl d_Judge_hear_103 rfl ?_
            refine mk_iloadn (nx := 107) X 4 d_Judge_hear_106 rfl rfl ?_
            refine mk_aload (nx := 109) X 0 d_Judge_hear_107 rfl rfl ?_
            refine mk_get (nx := 112) (v := .ref (ad (15 + 6 * v))) X (12 + 6 * v) (by omega) (sh_Line cs ad (show v < 4 by omega) _) rfl in_Line 2 (by decide) wd_131 rfl rfl d_Judge_hear_109 rfl ?_
            refine mk_iloadn (nx := 113) X 1 d_Judge_hear_112 rfl rfl ?_
            refine mk_iald (nx := 114) (j := p) X (15 + 6 * v) 0 (by omega) (sh_Lpit cs ad (show v < 4 by omega) _) rfl (by omega) (by omega) (by decide) rfl d_Judge_hear_113 rfl ?_
            rw [show J11 (15 + 6 * v) p = J2 (15 + 6 * v) p from hJ11o (15 + 6 * v) p (Or.inl (by omega))]
            rw [show J2 (15 + 6 * v) p = J1 (15 + 6 * v) p from hJ2o (15 + 6 * v) p (Or.inl (by omega))]
            rw [show J1 (15 + 6 * v) p = J (15 + 6 * v) p from hJ1o (15 + 6 * v) p (Or.inl (by omega))]
            rw [show J (15 + 6 * v) p = clp c v p from (hTJ v hv4 hon p (by omega))]
            refine mk_iast (nx := 115) (j := v) X 39 0 (by decide) (sh_now cs ad) rfl (by omega) (by omega) (by decide) rfl d_Judge_hear_114 rfl ?_
            obtain ⟨J12, hJ12⟩ : ∃ W_ : Wo, W_ = up2 J11 39 v (clp c v p) := ⟨_, rfl⟩
            refine mk_same hJ12.symm ?_
            have hJ12s : J12 39 v = clp c v p := hJ12 ▸ up2_ss J11 39 v (clp c v p)
            have hJ12o : ∀ a b, (a ≠ 39 ∨ b ≠ v) → J12 a b = J11 a b := hJ12 ▸ up2_o J11 39 v (clp c v p)
            refine mk_aloadn (nx := 116) X 2 d_Judge_hear_115 rfl rfl ?_
            refine mk_get (nx := 119) (v := .ref (ad 40)) X 36 (by decide) (sh_Judge cs ad _) rfl in_Judge 5 (by decide) wd_214 rfl rfl d_Judge_hear_116 rfl ?_
            refine mk_iloadn (nx := 120) X 4 d_Judge_hear_119 rfl rfl ?_
            refine mk_aload (nx := 122) X 0 d_Judge_hear_120 rfl rfl ?_
            refine mk_get (nx := 125) (v := .ref (ad (16 + 6 * v))) X (12 + 6 * v) (by omega) (sh_Line cs ad (show v < 4 by omega) _) rfl in_Line 3 (by decide) wd_134 rfl rfl d_Judge_hear_122 rfl ?_
            refine mk_iloadn (nx := 126) X 1 d_Judge_hear_125 rfl rfl ?_
            refine mk_iald (nx := 127) (j := p) X (16 + 6 * v) 0 (by omega) (sh_Lbefore cs ad (show v < 4 by omega) _) rfl (by omega) (by omega) (by decide) rfl d_Judge_hear_126 rfl ?_
            rw [show J12 (16 + 6 * v) p = J11 (16 + 6 * v) p from hJ12o (16 + 6 * v) p (Or.inl (by omega))]
            rw [show J11 (16 + 6 * v) p = J2 (16 + 6 * v) p from hJ11o (16 + 6 * v) p (Or.inl (by omega))]
            rw [show J2 (16 + 6 * v) p = J1 (16 + 6 * v) p from hJ2o (16 + 6 * v) p (Or.inl (by omega))]
            rw [show J1 (16 + 6 * v) p = J (16 + 6 * v) p from hJ1o (16 + 6 * v) p (Or.inl (by omega))]
            rw [show J (16 + 6 * v) p = cbef c v p from ((hFJ v hv4).2.2 p (by omega)).1]
            refine mk_iconst (nx := 128) X d_Judge_hear_127 rfl ?_
            refine mk_icmp_ne (tgt := 137) (nx := 131) X d_Judge_hear_128 (by omega) (by omega) (by decide) rfl (fun c128 => ?_) (fun c128 => ?_)
            · skip
              refine mk_aload (nx := 139) X 0 d_Judge_hear_137 rfl rfl ?_
              refine mk_get (nx := 142) (v := .ref (ad (15 + 6 * v))) X (12 + 6 * v) (by omega) (sh_Line cs ad (show v < 4 by omega) _) rfl in_Line 2 (by decide) wd_131 rfl rfl d_Judge_hear_139 rfl ?_
              refine mk_aload (nx := 144) X 0 d_Judge_hear_142 rfl rfl ?_
              refine mk_get (nx := 147) (v := .ref (ad (16 + 6 * v))) X (12 + 6 * v) (by omega) (sh_Line cs ad (show v < 4 by omega) _) rfl in_Line 3 (by decide) wd_134 rfl rfl d_Judge_hear_144 rfl ?_
              refine mk_iloadn (nx := 148) X 1 d_Judge_hear_147 rfl rfl ?_
              refine mk_iald (nx := 149) (j := p) X (16 + 6 * v) 0 (by omega) (sh_Lbefore cs ad (show v < 4 by omega) _) rfl (by omega) (by omega) (by decide) rfl d_Judge_hear_148 rfl ?_
              rw [show J12 (16 + 6 * v) p = J11 (16 + 6 * v) p from hJ12o (16 + 6 * v) p (Or.inl (by omega))]
              rw [show J11 (16 + 6 * v) p = J2 (16 + 6 * v) p from hJ11o (16 + 6 * v) p (Or.inl (by omega))]
              rw [show J2 (16 + 6 * v) p = J1 (16 + 6 * v) p from hJ2o (16 + 6 * v) p (Or.inl (by omega))]
              rw [show J1 (16 + 6 * v) p = J (16 + 6 * v) p from hJ1o (16 + 6 * v) p (Or.inl (by omega))]
              rw [show J (16 + 6 * v) p = cbef c v p from ((hFJ v hv4).2.2 p (by omega)).1]
              refine mk_iald (nx := 150) (j := (cbef c v p).toNat) X (15 + 6 * v) 0 (by omega) (sh_Lpit cs ad (show v < 4 by omega) _) rfl (by omega) (by omega) (by decide) rfl d_Judge_hear_149 rfl ?_
              rw [show J12 (15 + 6 * v) ((cbef c v p).toNat) = J11 (15 + 6 * v) ((cbef c v p).toNat) from hJ12o (15 + 6 * v) ((cbef c v p).toNat) (Or.inl (by omega))]
              rw [show J11 (15 + 6 * v) ((cbef c v p).toNat) = J2 (15 + 6 * v) ((cbef c v p).toNat) from hJ11o (15 + 6 * v) ((cbef c v p).toNat) (Or.inl (by omega))]
              rw [show J2 (15 + 6 * v) ((cbef c v p).toNat) = J1 (15 + 6 * v) ((cbef c v p).toNat) from hJ2o (15 + 6 * v) ((cbef c v p).toNat) (Or.inl (by omega))]
              rw [show J1 (15 + 6 * v) ((cbef c v p).toNat) = J (15 + 6 * v) ((cbef c v p).toNat) from hJ1o (15 + 6 * v) ((cbef c v p).toNat) (Or.inl (by omega))]
              rw [show J (15 + 6 * v) ((cbef c v p).toNat) = clp c v ((cbef c v p).toNat) from (hTJ v hv4 hon ((cbef c v p).toNat) (by omega))]
              refine mk_iast (nx := 151) (j := v) X 40 0 (by decide) (sh_old cs ad) rfl (by omega) (by omega) (by decide) rfl d_Judge_hear_150 rfl ?_
              obtain ⟨J13, hJ13⟩ : ∃ W_ : Wo, W_ = up2 J12 40 v (clp c v ((cbef c v p).toNat)) := ⟨_, rfl⟩
              refine mk_same hJ13.symm ?_
              have hJ13s : J13 40 v = clp c v ((cbef c v p).toNat) := hJ13 ▸ up2_ss J12 40 v (clp c v ((cbef c v p).toNat))
              have hJ13o : ∀ a b, (a ≠ 40 ∨ b ≠ v) → J13 a b = J12 a b := hJ13 ▸ up2_o J12 40 v (clp c v ((cbef c v p).toNat))
              refine mk_aloadn (nx := 152) X 2 d_Judge_hear_151 rfl rfl ?_
              refine mk_get (nx := 155) (v := .ref (ad 41)) X 36 (by decide) (sh_Judge cs ad _) rfl in_Judge 6 (by decide) wd_215 rfl rfl d_Judge_hear_152 rfl ?_
              refine mk_iloadn (nx := 156) X 4 d_Judge_hear_155 rfl rfl ?_
              refine mk_aload (nx := 158) X 0 d_Judge_hear_156 rfl rfl ?_
              refine mk_get (nx := 161) (v := .ref (ad (17 + 6 * v))) X (12 + 6 * v) (by omega) (sh_Line cs ad (show v < 4 by omega) _) rfl in_Line 4 (by decide) wd_137 rfl rfl d_Judge_hear_158 rfl ?_
              refine mk_iloadn (nx := 162) X 1 d_Judge_hear_161 rfl rfl ?_
              refine mk_iald (nx := 163) (j := p) X (17 + 6 * v) 0 (by omega) (sh_Lbehind cs ad (show v < 4 by omega) _) rfl (by omega) (by omega) (by decide) rfl d_Judge_hear_162 rfl ?_
              rw [show J13 (17 + 6 * v) p = J12 (17 + 6 * v) p from hJ13o (17 + 6 * v) p (Or.inl (by omega))]
              rw [show J12 (17 + 6 * v) p = J11 (17 + 6 * v) p from hJ12o (17 + 6 * v) p (Or.inl (by omega))]
              rw [show J11 (17 + 6 * v) p = J2 (17 + 6 * v) p from hJ11o (17 + 6 * v) p (Or.inl (by omega))]
              rw [show J2 (17 + 6 * v) p = J1 (17 + 6 * v) p from hJ2o (17 + 6 * v) p (Or.inl (by omega))]
              rw [show J1 (17 + 6 * v) p = J (17 + 6 * v) p from hJ1o (17 + 6 * v) p (Or.inl (by omega))]
              rw [show J (17 + 6 * v) p = cbeh c v p from ((hFJ v hv4).2.2 p (by omega)).2]
              refine mk_iconst (nx := 164) X d_Judge_hear_163 rfl ?_
              refine mk_icmp_ne (tgt := 173) (nx := 167) X d_Judge_hear_164 (by omega) (by omega) (by decide) rfl (fun c164 => ?_) (fun c164 => ?_)
              · skip
                refine mk_aload (nx := 175) X 0 d_Judge_hear_173 rfl rfl ?_
                refine mk_get (nx := 178) (v := .ref (ad (15 + 6 * v))) X (12 + 6 * v) (by omega) (sh_Line cs ad (show v < 4 by omega) _) rfl in_Line 2 (by decide) wd_131 rfl rfl d_Judge_hear_175 rfl ?_
                refine mk_aload (nx := 180) X 0 d_Judge_hear_178 rfl rfl ?_
                refine mk_get (nx := 183) (v := .ref (ad (17 + 6 * v))) X (12 + 6 * v) (by omega) (sh_Line cs ad (show v < 4 by omega) _) rfl in_Line 4 (by decide) wd_137 rfl rfl d_Judge_hear_180 rfl ?_
                refine mk_iloadn (nx := 184) X 1 d_Judge_hear_183 rfl rfl ?_
                refine mk_iald (nx := 185) (j := p) X (17 + 6 * v) 0 (by omega) (sh_Lbehind cs ad (show v < 4 by omega) _) rfl (by omega) (by omega) (by decide) rfl d_Judge_hear_184 rfl ?_
                rw [show J13 (17 + 6 * v) p = J12 (17 + 6 * v) p from hJ13o (17 + 6 * v) p (Or.inl (by omega))]
                rw [show J12 (17 + 6 * v) p = J11 (17 + 6 * v) p from hJ12o (17 + 6 * v) p (Or.inl (by omega))]
                rw [show J11 (17 + 6 * v) p = J2 (17 + 6 * v) p from hJ11o (17 + 6 * v) p (Or.inl (by omega))]
                rw [show J2 (17 + 6 * v) p = J1 (17 + 6 * v) p from hJ2o (17 + 6 * v) p (Or.inl (by omega))]
                rw [show J1 (17 + 6 * v) p = J (17 + 6 * v) p from hJ1o (17 + 6 * v) p (Or.inl (by omega))]
                rw [show J (17 + 6 * v) p = cbeh c v p from ((hFJ v hv4).2.2 p (by omega)).2]
                refine mk_iald (nx := 186) (j := (cbeh c v p).toNat) X (15 + 6 * v) 0 (by omega) (sh_Lpit cs ad (show v < 4 by omega) _) rfl (by omega) (by omega) (by decide) rfl d_Judge_hear_185 rfl ?_
                rw [show J13 (15 + 6 * v) ((cbeh c v p).toNat) = J12 (15 + 6 * v) ((cbeh c v p).toNat) from hJ13o (15 + 6 * v) ((cbeh c v p).toNat) (Or.inl (by omega))]
                rw [show J12 (15 + 6 * v) ((cbeh c v p).toNat) = J11 (15 + 6 * v) ((cbeh c v p).toNat) from hJ12o (15 + 6 * v) ((cbeh c v p).toNat) (Or.inl (by omega))]
                rw [show J11 (15 + 6 * v) ((cbeh c v p).toNat) = J2 (15 + 6 * v) ((cbeh c v p).toNat) from hJ11o (15 + 6 * v) ((cbeh c v p).toNat) (Or.inl (by omega))]
                rw [show J2 (15 + 6 * v) ((cbeh c v p).toNat) = J1 (15 + 6 * v) ((cbeh c v p).toNat) from hJ2o (15 + 6 * v) ((cbeh c v p).toNat) (Or.inl (by omega))]
                rw [show J1 (15 + 6 * v) ((cbeh c v p).toNat) = J (15 + 6 * v) ((cbeh c v p).toNat) from hJ1o (15 + 6 * v) ((cbeh c v p).toNat) (Or.inl (by omega))]
                rw [show J (15 + 6 * v) ((cbeh c v p).toNat) = clp c v ((cbeh c v p).toNat) from (hTJ v hv4 hon ((cbeh c v p).toNat) (by omega))]
                refine mk_iast (nx := 187) (j := v) X 41 0 (by decide) (sh_next cs ad) rfl (by omega) (by omega) (by decide) rfl d_Judge_hear_186 rfl ?_
                obtain ⟨J14, hJ14⟩ : ∃ W_ : Wo, W_ = up2 J13 41 v (clp c v ((cbeh c v p).toNat)) := ⟨_, rfl⟩
                refine mk_same hJ14.symm ?_
                have hJ14s : J14 41 v = clp c v ((cbeh c v p).toNat) := hJ14 ▸ up2_ss J13 41 v (clp c v ((cbeh c v p).toNat))
                have hJ14o : ∀ a b, (a ≠ 41 ∨ b ≠ v) → J14 a b = J13 a b := hJ14 ▸ up2_o J13 41 v (clp c v ((cbeh c v p).toNat))
                refine mk_iinc (nx := 190) X 4 [(2, .int (zi ((v : Int) + 1))), (4, .ref (ad (12 + 6 * v))), (3, .int (zi (p : Int))), (0, .ref (ad 36)), (1, .int (zi (m : Int)))] d_Judge_hear_187 rfl (by decide) rfl rfl ?_
                refine mk_goto (tgt := 20) X d_Judge_hear_190 (by decide) ?_
                refine mk_lv [3, 4, 0] rfl ?_
                exact ih20 (v + 1) J14 (by omega) (by first | exact ht8 | exact ((hJ14o 36 8 (by omega)).trans ((hJ13o 36 8 (by omega)).trans ((hJ12o 36 8 (by omega)).trans ((hJ11o 36 8 (by omega)).trans ((hJ2o 36 8 (by omega)).trans ((hJ1o 36 8 (by omega)).trans ht8)))))) | exact (hJ14o 36 8 (by omega)).trans hJ13s) (by first | exact hr_n hH (plC_no hw hV (by omega) (by omega)) | exact hr_y hv4 hH hpd hJ1 hJ2 hJ11 hJ12 hJ13 hJ14 (by omega) (by rw [hd2]) (by rw [hob2]; first | rw [if_pos (by omega)] | rw [if_neg (by omega)]) (by rw [hnb2]; first | rw [if_pos (by omega)] | rw [if_neg (by omega)]) | exact ⟨hJ14s, fun u hu => absurd hu (Nat.not_lt_zero _)⟩) (by first | exact hfr | exact fun a b x y => (hJ14o a b (by omega)).trans ((hJ13o a b (by omega)).trans ((hJ12o a b (by omega)).trans ((hJ11o a b (by omega)).trans ((hJ2o a b (by omega)).trans ((hJ1o a b (by omega)).trans (hfr a b x y)))))) | exact fun a b x y => (hJ14o a b (by omega)).trans (hJ13o a b (by omega))) (by omega)
              · skip
                refine mk_sipush (nx := 170) X d_Judge_hear_167 (by decide) rfl ?_
                refine mk_goto (tgt := 186) X d_Judge_hear_170 (by decide) ?_
                refine mk_iast (nx := 187) (j := v) X 41 0 (by decide) (sh_next cs ad) rfl (by omega) (by omega) (by decide) rfl d_Judge_hear_186 rfl ?_
                obtain ⟨J15, hJ15⟩ : ∃ W_ : Wo, W_ = up2 J13 41 v 1000 := ⟨_, rfl⟩
                refine mk_same hJ15.symm ?_
                have hJ15s : J15 41 v = 1000 := hJ15 ▸ up2_ss J13 41 v 1000
                have hJ15o : ∀ a b, (a ≠ 41 ∨ b ≠ v) → J15 a b = J13 a b := hJ15 ▸ up2_o J13 41 v 1000
                refine mk_iinc (nx := 190) X 4 [(2, .int (zi ((v : Int) + 1))), (4, .ref (ad (12 + 6 * v))), (3, .int (zi (p : Int))), (0, .ref (ad 36)), (1, .int (zi (m : Int)))] d_Judge_hear_187 rfl (by decide) rfl rfl ?_
                refine mk_goto (tgt := 20) X d_Judge_hear_190 (by decide) ?_
                refine mk_lv [3, 4, 0] rfl ?_
                exact ih20 (v + 1) J15 (by omega) (by first | exact ht8 | exact ((hJ15o 36 8 (by omega)).trans ((hJ13o 36 8 (by omega)).trans ((hJ12o 36 8 (by omega)).trans ((hJ11o 36 8 (by omega)).trans ((hJ2o 36 8 (by omega)).trans ((hJ1o 36 8 (by omega)).trans ht8)))))) | exact (hJ15o 36 8 (by omega)).trans hJ13s) (by first | exact hr_n hH (plC_no hw hV (by omega) (by omega)) | exact hr_y hv4 hH hpd hJ1 hJ2 hJ11 hJ12 hJ13 hJ15 (by omega) (by rw [hd2]) (by rw [hob2]; first | rw [if_pos (by omega)] | rw [if_neg (by omega)]) (by rw [hnb2]; first | rw [if_pos (by omega)] | rw [if_neg (by omega)]) | exact ⟨hJ15s, fun u hu => absurd hu (Nat.not_lt_zero _)⟩) (by first | exact hfr | exact fun a b x y => (hJ15o a b (by omega)).trans ((hJ13o a b (by omega)).trans ((hJ12o a b (by omega)).trans ((hJ11o a b (by omega)).trans ((hJ2o a b (by omega)).trans ((hJ1o a b (by omega)).trans (hfr a b x y)))))) | exact fun a b x y => (hJ15o a b (by omega)).trans (hJ13o a b (by omega))) (by omega)
            · skip
              refine mk_sipush (nx := 134) X d_Judge_hear_131 (by decide) rfl ?_
              refine mk_goto (tgt := 150) X d_Judge_hear_134 (by decide) ?_
              refine mk_iast (nx := 151) (j := v) X 40 0 (by decide) (sh_old cs ad) rfl (by omega) (by omega) (by decide) rfl d_Judge_hear_150 rfl ?_
              obtain ⟨J16, hJ16⟩ : ∃ W_ : Wo, W_ = up2 J12 40 v 1000 := ⟨_, rfl⟩
              refine mk_same hJ16.symm ?_
              have hJ16s : J16 40 v = 1000 := hJ16 ▸ up2_ss J12 40 v 1000
              have hJ16o : ∀ a b, (a ≠ 40 ∨ b ≠ v) → J16 a b = J12 a b := hJ16 ▸ up2_o J12 40 v 1000
              refine mk_aloadn (nx := 152) X 2 d_Judge_hear_151 rfl rfl ?_
              refine mk_get (nx := 155) (v := .ref (ad 41)) X 36 (by decide) (sh_Judge cs ad _) rfl in_Judge 6 (by decide) wd_215 rfl rfl d_Judge_hear_152 rfl ?_
              refine mk_iloadn (nx := 156) X 4 d_Judge_hear_155 rfl rfl ?_
              refine mk_aload (nx := 158) X 0 d_Judge_hear_156 rfl rfl ?_
              refine mk_get (nx := 161) (v := .ref (ad (17 + 6 * v))) X (12 + 6 * v) (by omega) (sh_Line cs ad (show v < 4 by omega) _) rfl in_Line 4 (by decide) wd_137 rfl rfl d_Judge_hear_158 rfl ?_
              refine mk_iloadn (nx := 162) X 1 d_Judge_hear_161 rfl rfl ?_
              refine mk_iald (nx := 163) (j := p) X (17 + 6 * v) 0 (by omega) (sh_Lbehind cs ad (show v < 4 by omega) _) rfl (by omega) (by omega) (by decide) rfl d_Judge_hear_162 rfl ?_
              rw [show J16 (17 + 6 * v) p = J12 (17 + 6 * v) p from hJ16o (17 + 6 * v) p (Or.inl (by omega))]
              rw [show J12 (17 + 6 * v) p = J11 (17 + 6 * v) p from hJ12o (17 + 6 * v) p (Or.inl (by omega))]
              rw [show J11 (17 + 6 * v) p = J2 (17 + 6 * v) p from hJ11o (17 + 6 * v) p (Or.inl (by omega))]
              rw [show J2 (17 + 6 * v) p = J1 (17 + 6 * v) p from hJ2o (17 + 6 * v) p (Or.inl (by omega))]
              rw [show J1 (17 + 6 * v) p = J (17 + 6 * v) p from hJ1o (17 + 6 * v) p (Or.inl (by omega))]
              rw [show J (17 + 6 * v) p = cbeh c v p from ((hFJ v hv4).2.2 p (by omega)).2]
              refine mk_iconst (nx := 164) X d_Judge_hear_163 rfl ?_
              refine mk_icmp_ne (tgt := 173) (nx := 167) X d_Judge_hear_164 (by omega) (by omega) (by decide) rfl (fun c164 => ?_) (fun c164 => ?_)
              · skip
                refine mk_aload (nx := 175) X 0 d_Judge_hear_173 rfl rfl ?_
                refine mk_get (nx := 178) (v := .ref (ad (15 + 6 * v))) X (12 + 6 * v) (by omega) (sh_Line cs ad (show v < 4 by omega) _) rfl in_Line 2 (by decide) wd_131 rfl rfl d_Judge_hear_175 rfl ?_
                refine mk_aload (nx := 180) X 0 d_Judge_hear_178 rfl rfl ?_
                refine mk_get (nx := 183) (v := .ref (ad (17 + 6 * v))) X (12 + 6 * v) (by omega) (sh_Line cs ad (show v < 4 by omega) _) rfl in_Line 4 (by decide) wd_137 rfl rfl d_Judge_hear_180 rfl ?_
                refine mk_iloadn (nx := 184) X 1 d_Judge_hear_183 rfl rfl ?_
                refine mk_iald (nx := 185) (j := p) X (17 + 6 * v) 0 (by omega) (sh_Lbehind cs ad (show v < 4 by omega) _) rfl (by omega) (by omega) (by decide) rfl d_Judge_hear_184 rfl ?_
                rw [show J16 (17 + 6 * v) p = J12 (17 + 6 * v) p from hJ16o (17 + 6 * v) p (Or.inl (by omega))]
                rw [show J12 (17 + 6 * v) p = J11 (17 + 6 * v) p from hJ12o (17 + 6 * v) p (Or.inl (by omega))]
                rw [show J11 (17 + 6 * v) p = J2 (17 + 6 * v) p from hJ11o (17 + 6 * v) p (Or.inl (by omega))]
                rw [show J2 (17 + 6 * v) p = J1 (17 + 6 * v) p from hJ2o (17 + 6 * v) p (Or.inl (by omega))]
                rw [show J1 (17 + 6 * v) p = J (17 + 6 * v) p from hJ1o (17 + 6 * v) p (Or.inl (by omega))]
                rw [show J (17 + 6 * v) p = cbeh c v p from ((hFJ v hv4).2.2 p (by omega)).2]
                refine mk_iald (nx := 186) (j := (cbeh c v p).toNat) X (15 + 6 * v) 0 (by omega) (sh_Lpit cs ad (show v < 4 by omega) _) rfl (by omega) (by omega) (by decide) rfl d_Judge_hear_185 rfl ?_
                rw [show J16 (15 + 6 * v) ((cbeh c v p).toNat) = J12 (15 + 6 * v) ((cbeh c v p).toNat) from hJ16o (15 + 6 * v) ((cbeh c v p).toNat) (Or.inl (by omega))]
                rw [show J12 (15 + 6 * v) ((cbeh c v p).toNat) = J11 (15 + 6 * v) ((cbeh c v p).toNat) from hJ12o (15 + 6 * v) ((cbeh c v p).toNat) (Or.inl (by omega))]
                rw [show J11 (15 + 6 * v) ((cbeh c v p).toNat) = J2 (15 + 6 * v) ((cbeh c v p).toNat) from hJ11o (15 + 6 * v) ((cbeh c v p).toNat) (Or.inl (by omega))]
                rw [show J2 (15 + 6 * v) ((cbeh c v p).toNat) = J1 (15 + 6 * v) ((cbeh c v p).toNat) from hJ2o (15 + 6 * v) ((cbeh c v p).toNat) (Or.inl (by omega))]
                rw [show J1 (15 + 6 * v) ((cbeh c v p).toNat) = J (15 + 6 * v) ((cbeh c v p).toNat) from hJ1o (15 + 6 * v) ((cbeh c v p).toNat) (Or.inl (by omega))]
                rw [show J (15 + 6 * v) ((cbeh c v p).toNat) = clp c v ((cbeh c v p).toNat) from (hTJ v hv4 hon ((cbeh c v p).toNat) (by omega))]
                refine mk_iast (nx := 187) (j := v) X 41 0 (by decide) (sh_next cs ad) rfl (by omega) (by omega) (by decide) rfl d_Judge_hear_186 rfl ?_
                obtain ⟨J17, hJ17⟩ : ∃ W_ : Wo, W_ = up2 J16 41 v (clp c v ((cbeh c v p).toNat)) := ⟨_, rfl⟩
                refine mk_same hJ17.symm ?_
                have hJ17s : J17 41 v = clp c v ((cbeh c v p).toNat) := hJ17 ▸ up2_ss J16 41 v (clp c v ((cbeh c v p).toNat))
                have hJ17o : ∀ a b, (a ≠ 41 ∨ b ≠ v) → J17 a b = J16 a b := hJ17 ▸ up2_o J16 41 v (clp c v ((cbeh c v p).toNat))
                refine mk_iinc (nx := 190) X 4 [(2, .int (zi ((v : Int) + 1))), (4, .ref (ad (12 + 6 * v))), (3, .int (zi (p : Int))), (0, .ref (ad 36)), (1, .int (zi (m : Int)))] d_Judge_hear_187 rfl (by decide) rfl rfl ?_
                refine mk_goto (tgt := 20) X d_Judge_hear_190 (by decide) ?_
                refine mk_lv [3, 4, 0] rfl ?_
                exact ih20 (v + 1) J17 (by omega) (by first | exact ht8 | exact ((hJ17o 36 8 (by omega)).trans ((hJ16o 36 8 (by omega)).trans ((hJ12o 36 8 (by omega)).trans ((hJ11o 36 8 (by omega)).trans ((hJ2o 36 8 (by omega)).trans ((hJ1o 36 8 (by omega)).trans ht8)))))) | exact (hJ17o 36 8 (by omega)).trans hJ16s) (by first | exact hr_n hH (plC_no hw hV (by omega) (by omega)) | exact hr_y hv4 hH hpd hJ1 hJ2 hJ11 hJ12 hJ16 hJ17 (by omega) (by rw [hd2]) (by rw [hob2]; first | rw [if_pos (by omega)] | rw [if_neg (by omega)]) (by rw [hnb2]; first | rw [if_pos (by omega)] | rw [if_neg (by omega)]) | exact ⟨hJ17s, fun u hu => absurd hu (Nat.not_lt_zero _)⟩) (by first | exact hfr | exact fun a b x y => (hJ17o a b (by omega)).trans ((hJ16o a b (by omega)).trans ((hJ12o a b (by omega)).trans ((hJ11o a b (by omega)).trans ((hJ2o a b (by omega)).trans ((hJ1o a b (by omega)).trans (hfr a b x y)))))) | exact fun a b x y => (hJ17o a b (by omega)).trans (hJ16o a b (by omega))) (by omega)
              · skip
                refine mk_sipush (nx := 170) X d_Judge_hear_167 (by decide) rfl ?_
                refine mk_goto (tgt := 186) X d_Judge_hear_170 (by decide) ?_
                refine mk_iast (nx := 187) (j := v) X 41 0 (by decide) (sh_next cs ad) rfl (by omega) (by omega) (by decide) rfl d_Judge_hear_186 rfl ?_
                obtain ⟨J18, hJ18⟩ : ∃ W_ : Wo, W_ = up2 J16 41 v 1000 := ⟨_, rfl⟩
                refine mk_same hJ18.symm ?_
                have hJ18s : J18 41 v = 1000 := hJ18 ▸ up2_ss J16 41 v 1000
                have hJ18o : ∀ a b, (a ≠ 41 ∨ b ≠ v) → J18 a b = J16 a b := hJ18 ▸ up2_o J16 41 v 1000
                refine mk_iinc (nx := 190) X 4 [(2, .int (zi ((v : Int) + 1))), (4, .ref (ad (12 + 6 * v))), (3, .int (zi (p : Int))), (0, .ref (ad 36)), (1, .int (zi (m : Int)))] d_Judge_hear_187 rfl (by decide) rfl rfl ?_
                refine mk_goto (tgt := 20) X d_Judge_hear_190 (by decide) ?_
                refine mk_lv [3, 4, 0] rfl ?_
                exact ih20 (v + 1) J18 (by omega) (by first | exact ht8 | exact ((hJ18o 36 8 (by omega)).trans ((hJ16o 36 8 (by omega)).trans ((hJ12o 36 8 (by omega)).trans ((hJ11o 36 8 (by omega)).trans ((hJ2o 36 8 (by omega)).trans ((hJ1o 36 8 (by omega)).trans ht8)))))) | exact (hJ18o 36 8 (by omega)).trans hJ16s) (by first | exact hr_n hH (plC_no hw hV (by omega) (by omega)) | exact hr_y hv4 hH hpd hJ1 hJ2 hJ11 hJ12 hJ16 hJ18 (by omega) (by rw [hd2]) (by rw [hob2]; first | rw [if_pos (by omega)] | rw [if_neg (by omega)]) (by rw [hnb2]; first | rw [if_pos (by omega)] | rw [if_neg (by omega)]) | exact ⟨hJ18s, fun u hu => absurd hu (Nat.not_lt_zero _)⟩) (by first | exact hfr | exact fun a b x y => (hJ18o a b (by omega)).trans ((hJ16o a b (by omega)).trans ((hJ12o a b (by omega)).trans ((hJ11o a b (by omega)).trans ((hJ2o a b (by omega)).trans ((hJ1o a b (by omega)).trans (hfr a b x y)))))) | exact fun a b x y => (hJ18o a b (by omega)).trans (hJ16o a b (by omega))) (by omega)
  refine mk_aloadn (nx := 1) X 0 d_Judge_hear_0 rfl rfl ?_
  refine mk_aloadn (nx := 2) X 0 d_Judge_hear_1 rfl rfl ?_
  refine mk_get (nx := 5) (v := .ref (ad 6)) X 36 (by decide) (sh_Judge cs ad _) rfl in_Judge 0 (by decide) wd_209 rfl rfl d_Judge_hear_2 rfl ?_
  refine mk_get (nx := 8) (v := .ref (ad 8)) X 6 (by decide) (sh_Score cs ad _) rfl in_Score 1 (by decide) wd_181 rfl rfl d_Judge_hear_5 rfl ?_
  refine mk_iloadn (nx := 9) X 1 d_Judge_hear_8 rfl rfl ?_
  refine mk_iald (nx := 10) (j := m) X 8 0 (by decide) (sh_moments cs ad _) rfl (by omega) (by omega) (by decide) rfl d_Judge_hear_9 rfl ?_
  rw [show I 8 m = I 8 m from rfl]
  refine mk_putf (nx := 13) (ty := .int) X t_Judge t_Judge_ok n_Judge 36 (by decide) (sh_Judge cs ad _) rfl in_Judge 8 (by decide) wd_217 rfl rfl (by decide +kernel) rfl rfl (Nat.le_of_ble_eq_true rfl) ((sh_Judge cs ad _).trans rfl) d_Judge_hear_10 rfl ?_
  obtain ⟨J19, hJ19⟩ : ∃ W_ : Wo, W_ = up2 I 36 8 (I 8 m) := ⟨_, rfl⟩
  refine mk_same hJ19.symm ?_
  have hJ19s : J19 36 8 = I 8 m := hJ19 ▸ up2_ss I 36 8 (I 8 m)
  have hJ19o : ∀ a b, (a ≠ 36 ∨ b ≠ 8) → J19 a b = I a b := hJ19 ▸ up2_o I 36 8 (I 8 m)
  refine mk_aloadn (nx := 14) X 0 d_Judge_hear_13 rfl rfl ?_
  refine mk_iconst (nx := 15) X d_Judge_hear_14 rfl ?_
  refine mk_putf (nx := 18) (ty := .int) X t_Judge t_Judge_ok n_Judge 36 (by decide) (sh_Judge cs ad _) rfl in_Judge 7 (by decide) wd_216 rfl rfl (by decide +kernel) rfl rfl (Nat.le_of_ble_eq_true rfl) ((sh_Judge cs ad _).trans rfl) d_Judge_hear_15 rfl ?_
  obtain ⟨J20, hJ20⟩ : ∃ W_ : Wo, W_ = up2 J19 36 7 0 := ⟨_, rfl⟩
  refine mk_same hJ20.symm ?_
  have hJ20s : J20 36 7 = 0 := hJ20 ▸ up2_ss J19 36 7 0
  have hJ20o : ∀ a b, (a ≠ 36 ∨ b ≠ 7) → J20 a b = J19 a b := hJ20 ▸ up2_o J19 36 7 0
  refine mk_iconst (nx := 19) X d_Judge_hear_18 rfl ?_
  refine mk_istoren (nx := 20) X [(2, .int (zi 0)), (0, .ref (ad 36)), (1, .int (zi (m : Int)))] d_Judge_hear_19 (by decide) rfl rfl ?_
  refine mk_lv [1, 2, 0] rfl ?_
  exact L20 _ 0 J20 (by omega) (by first | exact ht8 | exact ((hJ20o 36 8 (by omega)).trans ((hJ19o 36 8 (by omega)).trans ((hIo 36 8 (by omega)).trans ((hIo 36 8 (by omega)).trans ((hIo 36 8 (by omega)).trans ((hIo 36 8 (by omega)).trans ht8)))))) | exact (hJ20o 36 8 (by omega)).trans hJ19s) (by first | exact hr_n hH (plC_no hw hV (by omega) (by omega)) | exact hr_y hv4 hH hpd hI hI hI hI hJ19 hJ20 (by omega) (by rw [hd2]) (by rw [hob2]; first | rw [if_pos (by omega)] | rw [if_neg (by omega)]) (by rw [hnb2]; first | rw [if_pos (by omega)] | rw [if_neg (by omega)]) | exact ⟨hJ20s, fun u hu => absurd hu (Nat.not_lt_zero _)⟩) (by first | exact hfr | exact fun a b x y => (hJ20o a b (by omega)).trans ((hJ19o a b (by omega)).trans ((hIo a b (by omega)).trans ((hIo a b (by omega)).trans ((hIo a b (by omega)).trans ((hIo a b (by omega)).trans (hfr a b x y)))))) | exact fun a b x y => (hJ20o a b (by omega)).trans (hJ19o a b (by omega))) (Nat.lt_succ_self _)
