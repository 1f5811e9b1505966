-- CanonMaker$Judge.isFourthGood(II)Z
theorem d_Judge_isFourthGood_0 : decode prog_3_method_11_code 0 = .ok (.iconst 0, 1) := by decide +kernel
theorem d_Judge_isFourthGood_1 : decode prog_3_method_11_code 1 = .ok (.istore_n 3, 1) := by decide +kernel
theorem d_Judge_isFourthGood_2 : decode prog_3_method_11_code 2 = .ok (.iload_n 3, 1) := by decide +kernel
theorem d_Judge_isFourthGood_3 : decode prog_3_method_11_code 3 = .ok (.aload_n 0, 1) := by decide +kernel
theorem d_Judge_isFourthGood_4 : decode prog_3_method_11_code 4 = .ok (.getfield 75, 3) := by decide +kernel
theorem d_Judge_isFourthGood_7 : decode prog_3_method_11_code 7 = .ok (.if_icmp .ge 54, 3) := by decide +kernel
theorem d_Judge_isFourthGood_10 : decode prog_3_method_11_code 10 = .ok (.aload_n 0, 1) := by decide +kernel
theorem d_Judge_isFourthGood_11 : decode prog_3_method_11_code 11 = .ok (.getfield 19, 3) := by decide +kernel
theorem d_Judge_isFourthGood_14 : decode prog_3_method_11_code 14 = .ok (.aload_n 0, 1) := by decide +kernel
theorem d_Judge_isFourthGood_15 : decode prog_3_method_11_code 15 = .ok (.getfield 9, 3) := by decide +kernel
theorem d_Judge_isFourthGood_18 : decode prog_3_method_11_code 18 = .ok (.iload_n 3, 1) := by decide +kernel
theorem d_Judge_isFourthGood_19 : decode prog_3_method_11_code 19 = .ok (.iaload, 1) := by decide +kernel
theorem d_Judge_isFourthGood_20 : decode prog_3_method_11_code 20 = .ok (.iaload, 1) := by decide +kernel
theorem d_Judge_isFourthGood_21 : decode prog_3_method_11_code 21 = .ok (.istore 4, 2) := by decide +kernel
theorem d_Judge_isFourthGood_23 : decode prog_3_method_11_code 23 = .ok (.iload 4, 2) := by decide +kernel
theorem d_Judge_isFourthGood_25 : decode prog_3_method_11_code 25 = .ok (.sipush 1001, 3) := by decide +kernel
theorem d_Judge_isFourthGood_28 : decode prog_3_method_11_code 28 = .ok (.if_icmp .eq 25, 3) := by decide +kernel
theorem d_Judge_isFourthGood_31 : decode prog_3_method_11_code 31 = .ok (.iload 4, 2) := by decide +kernel
theorem d_Judge_isFourthGood_33 : decode prog_3_method_11_code 33 = .ok (.aload_n 0, 1) := by decide +kernel
theorem d_Judge_isFourthGood_34 : decode prog_3_method_11_code 34 = .ok (.getfield 19, 3) := by decide +kernel
theorem d_Judge_isFourthGood_37 : decode prog_3_method_11_code 37 = .ok (.iload_n 1, 1) := by decide +kernel
theorem d_Judge_isFourthGood_38 : decode prog_3_method_11_code 38 = .ok (.iaload, 1) := by decide +kernel
theorem d_Judge_isFourthGood_39 : decode prog_3_method_11_code 39 = .ok (.if_icmp .ge 16, 3) := by decide +kernel
theorem d_Judge_isFourthGood_42 : decode prog_3_method_11_code 42 = .ok (.iload 4, 2) := by decide +kernel
theorem d_Judge_isFourthGood_44 : decode prog_3_method_11_code 44 = .ok (.aload_n 0, 1) := by decide +kernel
theorem d_Judge_isFourthGood_45 : decode prog_3_method_11_code 45 = .ok (.getfield 19, 3) := by decide +kernel
theorem d_Judge_isFourthGood_48 : decode prog_3_method_11_code 48 = .ok (.iload_n 2, 1) := by decide +kernel
theorem d_Judge_isFourthGood_49 : decode prog_3_method_11_code 49 = .ok (.iaload, 1) := by decide +kernel
theorem d_Judge_isFourthGood_50 : decode prog_3_method_11_code 50 = .ok (.if_icmp .ge 5, 3) := by decide +kernel
theorem d_Judge_isFourthGood_53 : decode prog_3_method_11_code 53 = .ok (.iconst 1, 1) := by decide +kernel
theorem d_Judge_isFourthGood_54 : decode prog_3_method_11_code 54 = .ok (.ireturn, 1) := by decide +kernel
theorem d_Judge_isFourthGood_55 : decode prog_3_method_11_code 55 = .ok (.iinc 3 1, 3) := by decide +kernel
theorem d_Judge_isFourthGood_58 : decode prog_3_method_11_code 58 = .ok (.goto (-56), 3) := by decide +kernel
theorem d_Judge_isFourthGood_61 : decode prog_3_method_11_code 61 = .ok (.iconst 0, 1) := by decide +kernel
theorem d_Judge_isFourthGood_62 : decode prog_3_method_11_code 62 = .ok (.ireturn, 1) := by decide +kernel
abbrev rm_Judge_isFourthGood : Room := { frames := 0, cells := 0, slots := 0, locals := 0 }
set_option maxHeartbeats 4000000 in
set_option maxRecDepth 100000 in
theorem c_Judge_isFourthGood (l : Launch) (D : va_G) (cs : Nat → ClassId) (ad : Nat → Nat) (zt : Nat) (hi : cm_inj ad) (c I : Wo) (hw : wfN c) (hS : wfS c) (hV : wfV c) (t : Int) (hH : HrA c I t) (a : Nat) (ha : a < 4) (hda : ¬ dPt c t a = 1000) (b : Nat) (hb : b < 4) (hdb : ¬ dPt c t b = 1000) : cm_C l D cs ad zt y_Judge_isFourthGood ws_Judge_isFourthGood rm_Judge_isFourthGood [.ref (ad 36), .int (zi (a : Int)), .int (zi (b : Int))] I (mk_pi (fun r J => I = J ∧ ((r = 1 ∧ fgd (dPt c t) a b) ∨ (r = 0 ∧ ¬ (fgd (dPt c t) a b))))) := by
  refine mk_metz (own := "CanonMaker$Judge") (Ts := wA) hi (Nat.le_refl _) (by decide) rfl (fun w h => List.mem_cons_of_mem _ h) rfl (Nat.le_of_ble_eq_true rfl) [(0, .ref (ad 36)), (1, .int (zi (a : Int))), (2, .int (zi (b : Int)))] rfl ?_
  intro p_ e_ s_ m_ as_ bl_ me_ co_ Q_ X hret
  have hHv := HrA_v hH
  have hpa := dPt_b (t := t) hw hV ha
  have hsa := dSk_b c t a
  obtain ⟨hoa, hna⟩ := dOb_b hw hV ha hda
  have hpb := dPt_b (t := t) hw hV hb
  have hsb := dSk_b c t b
  obtain ⟨hob, hnb⟩ := dOb_b hw hV hb hdb
  have hp4 := pcn_v (c := c) (t := t) 4
  have L2 : ∀ nf : Nat, ∀ (i : Nat), (i ≤ pcn c t 4) → (∀ u, u < 4 → ¬ dPt c t u = 1000 → pcn c t u < i → ¬ (dPt c t u = 1001 ∨ (dPt c t u < dPt c t a ∧ dPt c t u < dPt c t b))) → 4 - i < nf → mk_A p_ l e_ rm_Judge_isFourthGood s_ m_ as_ bl_ me_ co_ Q_ 5 D cmcl (cm_sh cs ad) 48 48 ad I [(0, .ref (ad 36)), (1, .int (zi (a : Int))), (2, .int (zi (b : Int))), (3, .int (zi (i : Int)))] 2 [] := by
    intro nf
    induction nf with
    | zero => intro i hi4 hno hn; exact absurd hn (Nat.not_lt_zero _)
    | succ nf ih2 =>
      intro i hi4 hno hn2
      refine mk_iloadn (nx := 3) X 3 d_Judge_isFourthGood_2 rfl rfl ?_
      refine mk_aloadn (nx := 4) X 0 d_Judge_isFourthGood_3 rfl rfl ?_
      refine mk_get (nx := 7) (v := .int (zi (I 36 7))) X 36 (by decide) (sh_Judge cs ad _) rfl in_Judge 7 (by decide) wd_216 rfl rfl d_Judge_isFourthGood_4 rfl ?_
      rw [show I 36 7 = (pcn c t 4 : Int) from hH.2.1]
      refine mk_icmp_ge (tgt := 61) (nx := 10) X d_Judge_isFourthGood_7 (by omega) (by omega) (by decide) rfl (fun c7 => ?_) (fun c7 => ?_)
      · skip
        refine mk_iconst (nx := 62) X d_Judge_isFourthGood_61 rfl ?_
        exact hret _ _ _ _ d_Judge_isFourthGood_62 (by omega) (by exact ⟨rfl, Or.inr ⟨rfl, fun ⟨u, z1, z2, z3⟩ => hno u z1 z2 (by have := pcn_y z2; have := pcn_le (c := c) (t := t) (k := u + 1) 4 (by omega); omega) z3⟩⟩)
      · skip
        obtain ⟨u, hu4, hud, hui⟩ := pcn_at (c := c) (t := t) (i := i) 4 (by omega)
        have hpu := dPt_b (t := t) hw hV hu4
        refine mk_aloadn (nx := 11) X 0 d_Judge_isFourthGood_10 rfl rfl ?_
        refine mk_get (nx := 14) (v := .ref (ad 39)) X 36 (by decide) (sh_Judge cs ad _) rfl in_Judge 4 (by decide) wd_213 rfl rfl d_Judge_isFourthGood_11 rfl ?_
        refine mk_aloadn (nx := 15) X 0 d_Judge_isFourthGood_14 rfl rfl ?_
        refine mk_get (nx := 18) (v := .ref (ad 37)) X 36 (by decide) (sh_Judge cs ad _) rfl in_Judge 2 (by decide) wd_211 rfl rfl d_Judge_isFourthGood_15 rfl ?_
        refine mk_iloadn (nx := 19) X 3 d_Judge_isFourthGood_18 rfl rfl ?_
        refine mk_iald (nx := 20) (j := i) X 37 0 (by decide) (sh_present cs ad _) rfl (by omega) (by omega) (by decide) rfl d_Judge_isFourthGood_19 rfl ?_
        rw [show I 37 i = (u : Int) from (HrA_p hH hu4 hud hui)]
        refine mk_iald (nx := 21) (j := u) X 39 0 (by decide) (sh_now cs ad _) rfl (by omega) (by omega) (by decide) rfl d_Judge_isFourthGood_20 rfl ?_
        rw [show I 39 u = dPt c t u from (hHv u (by omega) (by assumption)).2.1]
        refine mk_istore (nx := 23) X [(4, .int (zi (dPt c t u))), (0, .ref (ad 36)), (1, .int (zi (a : Int))), (2, .int (zi (b : Int))), (3, .int (zi (i : Int)))] d_Judge_isFourthGood_21 (by decide) rfl rfl ?_
        refine mk_iload (nx := 25) X 0 d_Judge_isFourthGood_23 rfl rfl ?_
        refine mk_sipush (nx := 28) X d_Judge_isFourthGood_25 (by decide) rfl ?_
        refine mk_icmp_eq (tgt := 53) (nx := 31) X d_Judge_isFourthGood_28 (by omega) (by omega) (by decide) rfl (fun c28 => ?_) (fun c28 => ?_)
        · skip
          refine mk_iconst (nx := 54) X d_Judge_isFourthGood_53 rfl ?_
          exact hret _ _ _ _ d_Judge_isFourthGood_54 (by omega) (by exact ⟨rfl, Or.inl ⟨rfl, u, hu4, hud, by omega⟩⟩)
        · skip
          refine mk_iload (nx := 33) X 0 d_Judge_isFourthGood_31 rfl rfl ?_
          refine mk_aloadn (nx := 34) X 1 d_Judge_isFourthGood_33 rfl rfl ?_
          refine mk_get (nx := 37) (v := .ref (ad 39)) X 36 (by decide) (sh_Judge cs ad _) rfl in_Judge 4 (by decide) wd_213 rfl rfl d_Judge_isFourthGood_34 rfl ?_
          refine mk_iloadn (nx := 38) X 2 d_Judge_isFourthGood_37 rfl rfl ?_
          refine mk_iald (nx := 39) (j := a) X 39 0 (by decide) (sh_now cs ad _) rfl (by omega) (by omega) (by decide) rfl d_Judge_isFourthGood_38 rfl ?_
          rw [show I 39 a = dPt c t a from (hHv a (by omega) (by assumption)).2.1]
          refine mk_icmp_ge (tgt := 55) (nx := 42) X d_Judge_isFourthGood_39 (by omega) (by omega) (by decide) rfl (fun c39 => ?_) (fun c39 => ?_)
          · skip
            refine mk_iinc (nx := 58) X 4 [(3, .int (zi ((i : Int) + 1))), (4, .int (zi (dPt c t u))), (0, .ref (ad 36)), (1, .int (zi (a : Int))), (2, .int (zi (b : Int)))] d_Judge_isFourthGood_55 rfl (by decide) rfl rfl ?_
            refine mk_goto (tgt := 2) X d_Judge_isFourthGood_58 (by decide) ?_
            refine mk_lv [2, 3, 4, 0] rfl ?_
            exact ih2 (i + 1) (by omega) (by first | exact fun q _ _ x => absurd x (by omega) | exact fg_step hud hui hno (by omega)) (by omega)
          · skip
            refine mk_iload (nx := 44) X 0 d_Judge_isFourthGood_42 rfl rfl ?_
            refine mk_aloadn (nx := 45) X 1 d_Judge_isFourthGood_44 rfl rfl ?_
            refine mk_get (nx := 48) (v := .ref (ad 39)) X 36 (by decide) (sh_Judge cs ad _) rfl in_Judge 4 (by decide) wd_213 rfl rfl d_Judge_isFourthGood_45 rfl ?_
            refine mk_iloadn (nx := 49) X 3 d_Judge_isFourthGood_48 rfl rfl ?_
            refine mk_iald (nx := 50) (j := b) X 39 0 (by decide) (sh_now cs ad _) rfl (by omega) (by omega) (by decide) rfl d_Judge_isFourthGood_49 rfl ?_
            rw [show I 39 b = dPt c t b from (hHv b (by omega) (by assumption)).2.1]
            refine mk_icmp_ge (tgt := 55) (nx := 53) X d_Judge_isFourthGood_50 (by omega) (by omega) (by decide) rfl (fun c50 => ?_) (fun c50 => ?_)
            · skip
              refine mk_iinc (nx := 58) X 4 [(3, .int (zi ((i : Int) + 1))), (4, .int (zi (dPt c t u))), (0, .ref (ad 36)), (1, .int (zi (a : Int))), (2, .int (zi (b : Int)))] d_Judge_isFourthGood_55 rfl (by decide) rfl rfl ?_
              refine mk_goto (tgt := 2) X d_Judge_isFourthGood_58 (by decide) ?_
              refine mk_lv [2, 3, 4, 0] rfl ?_
              exact ih2 (i + 1) (by omega) (by first | exact fun q _ _ x => absurd x (by omega) | exact fg_step hud hui hno (by omega)) (by omega)
            · skip
              refine mk_iconst (nx := 54) X d_Judge_isFourthGood_53 rfl ?_
              exact hret _ _ _ _ d_Judge_isFourthGood_54 (by omega) (by exact ⟨rfl, Or.inl ⟨rfl, u, hu4, hud, by omega⟩⟩)
  refine mk_iconst (nx := 1) X d_Judge_isFourthGood_0 rfl ?_
  refine mk_istoren (nx := 2) X [(3, .int (zi 0)), (0, .ref (ad 36)), (1, .int (zi (a : Int))), (2, .int (zi (b : Int)))] d_Judge_isFourthGood_1 (by decide) rfl rfl ?_
  refine mk_lv [1, 2, 3, 0] rfl ?_
  exact L2 _ 0 (by omega) (by first | exact fun q _ _ x => absurd x (by omega) | exact fg_step hud hui hno (by omega)) (Nat.lt_succ_self _)

-- CanonMaker$Judge.clash(II)Z
theorem d_Judge_clash_0 : decode prog_3_method_10_code 0 = .ok (.aload_n 0, 1) := by decide +kernel
theorem d_Judge_clash_1 : decode prog_3_method_10_code 1 = .ok (.getfield 19, 3) := by decide +kernel
theorem d_Judge_clash_4 : decode prog_3_method_10_code 4 = .ok (.iload_n 1, 1) := by decide +kernel
theorem d_Judge_clash_5 : decode prog_3_method_10_code 5 = .ok (.iaload, 1) := by decide +kernel
theorem d_Judge_clash_6 : decode prog_3_method_10_code 6 = .ok (.aload_n 0, 1) := by decide +kernel
theorem d_Judge_clash_7 : decode prog_3_method_10_code 7 = .ok (.getfield 19, 3) := by decide +kernel
theorem d_Judge_clash_10 : decode prog_3_method_10_code 10 = .ok (.iload_n 2, 1) := by decide +kernel
theorem d_Judge_clash_11 : decode prog_3_method_10_code 11 = .ok (.iaload, 1) := by decide +kernel
theorem d_Judge_clash_12 : decode prog_3_method_10_code 12 = .ok (.isub, 1) := by decide +kernel
theorem d_Judge_clash_13 : decode prog_3_method_10_code 13 = .ok (.invokestatic 154, 3) := by decide +kernel
theorem d_Judge_clash_16 : decode prog_3_method_10_code 16 = .ok (.bipush 12, 2) := by decide +kernel
theorem d_Judge_clash_18 : decode prog_3_method_10_code 18 = .ok (.irem, 1) := by decide +kernel
theorem d_Judge_clash_19 : decode prog_3_method_10_code 19 = .ok (.istore_n 3, 1) := by decide +kernel
theorem d_Judge_clash_20 : decode prog_3_method_10_code 20 = .ok (.sipush 921, 3) := by decide +kernel
theorem d_Judge_clash_23 : decode prog_3_method_10_code 23 = .ok (.iload_n 3, 1) := by decide +kernel
theorem d_Judge_clash_24 : decode prog_3_method_10_code 24 = .ok (.ishr, 1) := by decide +kernel
theorem d_Judge_clash_25 : decode prog_3_method_10_code 25 = .ok (.iconst 1, 1) := by decide +kernel
theorem d_Judge_clash_26 : decode prog_3_method_10_code 26 = .ok (.iand, 1) := by decide +kernel
theorem d_Judge_clash_27 : decode prog_3_method_10_code 27 = .ok (.ifCond .ne 17, 3) := by decide +kernel
theorem d_Judge_clash_30 : decode prog_3_method_10_code 30 = .ok (.iload_n 3, 1) := by decide +kernel
theorem d_Judge_clash_31 : decode prog_3_method_10_code 31 = .ok (.iconst 5, 1) := by decide +kernel
theorem d_Judge_clash_32 : decode prog_3_method_10_code 32 = .ok (.if_icmp .ne 14, 3) := by decide +kernel
theorem d_Judge_clash_35 : decode prog_3_method_10_code 35 = .ok (.aload_n 0, 1) := by decide +kernel
theorem d_Judge_clash_36 : decode prog_3_method_10_code 36 = .ok (.iload_n 1, 1) := by decide +kernel
theorem d_Judge_clash_37 : decode prog_3_method_10_code 37 = .ok (.iload_n 2, 1) := by decide +kernel
theorem d_Judge_clash_38 : decode prog_3_method_10_code 38 = .ok (.invokevirtual 161, 3) := by decide +kernel
theorem d_Judge_clash_41 : decode prog_3_method_10_code 41 = .ok (.ifCond .eq 5, 3) := by decide +kernel
theorem d_Judge_clash_44 : decode prog_3_method_10_code 44 = .ok (.iconst 0, 1) := by decide +kernel
theorem d_Judge_clash_45 : decode prog_3_method_10_code 45 = .ok (.ireturn, 1) := by decide +kernel
theorem d_Judge_clash_46 : decode prog_3_method_10_code 46 = .ok (.aload_n 0, 1) := by decide +kernel
theorem d_Judge_clash_47 : decode prog_3_method_10_code 47 = .ok (.getfield 32, 3) := by decide +kernel
theorem d_Judge_clash_50 : decode prog_3_method_10_code 50 = .ok (.getfield 43, 3) := by decide +kernel
theorem d_Judge_clash_53 : decode prog_3_method_10_code 53 = .ok (.bipush 8, 2) := by decide +kernel
theorem d_Judge_clash_55 : decode prog_3_method_10_code 55 = .ok (.iand, 1) := by decide +kernel
theorem d_Judge_clash_56 : decode prog_3_method_10_code 56 = .ok (.ifCond .eq 32, 3) := by decide +kernel
theorem d_Judge_clash_59 : decode prog_3_method_10_code 59 = .ok (.aload_n 0, 1) := by decide +kernel
theorem d_Judge_clash_60 : decode prog_3_method_10_code 60 = .ok (.getfield 32, 3) := by decide +kernel
theorem d_Judge_clash_63 : decode prog_3_method_10_code 63 = .ok (.getfield 164, 3) := by decide +kernel
theorem d_Judge_clash_66 : decode prog_3_method_10_code 66 = .ok (.ifCond .le 22, 3) := by decide +kernel
theorem d_Judge_clash_69 : decode prog_3_method_10_code 69 = .ok (.aload_n 0, 1) := by decide +kernel
theorem d_Judge_clash_70 : decode prog_3_method_10_code 70 = .ok (.getfield 72, 3) := by decide +kernel
theorem d_Judge_clash_73 : decode prog_3_method_10_code 73 = .ok (.aload_n 0, 1) := by decide +kernel
theorem d_Judge_clash_74 : decode prog_3_method_10_code 74 = .ok (.getfield 32, 3) := by decide +kernel
theorem d_Judge_clash_77 : decode prog_3_method_10_code 77 = .ok (.getfield 164, 3) := by decide +kernel
theorem d_Judge_clash_80 : decode prog_3_method_10_code 80 = .ok (.irem, 1) := by decide +kernel
theorem d_Judge_clash_81 : decode prog_3_method_10_code 81 = .ok (.ifCond .eq 7, 3) := by decide +kernel
theorem d_Judge_clash_84 : decode prog_3_method_10_code 84 = .ok (.iconst 1, 1) := by decide +kernel
theorem d_Judge_clash_85 : decode prog_3_method_10_code 85 = .ok (.goto 4, 3) := by decide +kernel
theorem d_Judge_clash_88 : decode prog_3_method_10_code 88 = .ok (.iconst 0, 1) := by decide +kernel
theorem d_Judge_clash_89 : decode prog_3_method_10_code 89 = .ok (.istore 4, 2) := by decide +kernel
theorem d_Judge_clash_91 : decode prog_3_method_10_code 91 = .ok (.iload 4, 2) := by decide +kernel
theorem d_Judge_clash_93 : decode prog_3_method_10_code 93 = .ok (.ifCond .eq 19, 3) := by decide +kernel
theorem d_Judge_clash_96 : decode prog_3_method_10_code 96 = .ok (.aload_n 0, 1) := by decide +kernel
theorem d_Judge_clash_97 : decode prog_3_method_10_code 97 = .ok (.iload_n 1, 1) := by decide +kernel
theorem d_Judge_clash_98 : decode prog_3_method_10_code 98 = .ok (.invokevirtual 167, 3) := by decide +kernel
theorem d_Judge_clash_101 : decode prog_3_method_10_code 101 = .ok (.aload_n 0, 1) := by decide +kernel
theorem d_Judge_clash_102 : decode prog_3_method_10_code 102 = .ok (.iload_n 2, 1) := by decide +kernel
theorem d_Judge_clash_103 : decode prog_3_method_10_code 103 = .ok (.invokevirtual 167, 3) := by decide +kernel
theorem d_Judge_clash_106 : decode prog_3_method_10_code 106 = .ok (.invokestatic 170, 3) := by decide +kernel
theorem d_Judge_clash_109 : decode prog_3_method_10_code 109 = .ok (.ifCond .ne 7, 3) := by decide +kernel
theorem d_Judge_clash_112 : decode prog_3_method_10_code 112 = .ok (.iconst 1, 1) := by decide +kernel
theorem d_Judge_clash_113 : decode prog_3_method_10_code 113 = .ok (.goto 4, 3) := by decide +kernel
theorem d_Judge_clash_116 : decode prog_3_method_10_code 116 = .ok (.iconst 0, 1) := by decide +kernel
theorem d_Judge_clash_117 : decode prog_3_method_10_code 117 = .ok (.ireturn, 1) := by decide +kernel
abbrev rm_Judge_clash : Room := { frames := 2, cells := 0, slots := 0, locals := 45 }
set_option maxHeartbeats 4000000 in
set_option maxRecDepth 100000 in
theorem c_Judge_clash (l : Launch) (D : va_G) (cs : Nat → ClassId) (ad : Nat → Nat) (zt : Nat) (hi : cm_inj ad) (c I : Wo) (hw : wfN c) (hS : wfS c) (hV : wfV c) (t : Int) (hH : HrA c I t) (a : Nat) (ha : a < 4) (hda : ¬ dPt c t a = 1000) (b : Nat) (hb : b < 4) (hdb : ¬ dPt c t b = 1000) (hBd : BdE c I) (ht : 0 ≤ t ∧ t ≤ 100000) : cm_C l D cs ad zt y_Judge_clash ws_Judge_clash rm_Judge_clash [.ref (ad 36), .int (zi (a : Int)), .int (zi (b : Int))] I (mk_pi (fun r J => I = J ∧ ((r = 1 ∧ dcl c t (dPt c t) (dSk c t) (dOb c t) (dNb c t) a b) ∨ (r = 0 ∧ ¬ (dcl c t (dPt c t) (dSk c t) (dOb c t) (dNb c t) a b))))) := by
  refine mk_metz (own := "CanonMaker$Judge") (Ts := wA) hi (Nat.le_refl _) (by decide) rfl (fun w h => List.mem_cons_of_mem _ h) rfl (Nat.le_of_ble_eq_true rfl) [(0, .ref (ad 36)), (1, .int (zi (a : Int))), (2, .int (zi (b : Int)))] rfl ?_
  intro p_ e_ s_ m_ as_ bl_ me_ co_ Q_ X hret
  have hHv := HrA_v hH
  have hpa := dPt_b (t := t) hw hV ha
  have hsa := dSk_b c t a
  obtain ⟨hoa, hna⟩ := dOb_b hw hV ha hda
  have hpb := dPt_b (t := t) hw hV hb
  have hsb := dSk_b c t b
  obtain ⟨hob, hnb⟩ := dOb_b hw hV hb hdb
  obtain ⟨hlo, hsc, hbt, hru, hrd, hst⟩ := id hS
  have hga := gai_b (dPt c t a) (dSk c t a) (dOb c t a) (dNb c t a)
  have hgb := gai_b (dPt c t b) (dSk c t b) (dOb c t b) (dNb c t b)
  have L46 : (¬ cons (gp (dPt c t a) (dPt c t b))) → (¬ (gp (dPt c t a) (dPt c t b) = 5 ∧ fgd (dPt c t) a b)) → mk_A p_ l e_ rm_Judge_clash s_ m_ as_ bl_ me_ co_ Q_ 5 D cmcl (cm_sh cs ad) 48 48 ad I [(0, .ref (ad 36)), (1, .int (zi (a : Int))), (2, .int (zi (b : Int)))] 46 [] := by
    intro  hnc hnf
    have L89 : ∀ (mp : Int), ((mp = 1 ∧ ¬ ziand (c 0 5) 8 = 0 ∧ ¬ t % c 0 4 = 0) ∨ (mp = 0 ∧ (ziand (c 0 5) 8 = 0 ∨ t % c 0 4 = 0))) → mk_A p_ l e_ rm_Judge_clash s_ m_ as_ bl_ me_ co_ Q_ 5 D cmcl (cm_sh cs ad) 48 48 ad I [(0, .ref (ad 36)), (1, .int (zi (a : Int))), (2, .int (zi (b : Int)))] 89 [.int (zi mp)] := by
      intro mp hmp
      refine mk_istore (nx := 91) X [(4, .int (zi mp)), (0, .ref (ad 36)), (1, .int (zi (a : Int))), (2, .int (zi (b : Int)))] d_Judge_clash_89 (by decide) rfl rfl ?_
      refine mk_iload (nx := 93) X 0 d_Judge_clash_91 rfl rfl ?_
      refine mk_if_eq (tgt := 112) (nx := 96) X d_Judge_clash_93 (by omega) (by decide) rfl (fun c93 => ?_) (fun c93 => ?_)
      · skip
        refine mk_iconst (nx := 113) X d_Judge_clash_112 rfl ?_
        refine mk_goto (tgt := 117) X d_Judge_clash_113 (by decide) ?_
        exact hret _ _ _ _ d_Judge_clash_117 (by omega) (by first | exact ⟨rfl, Or.inl ⟨rfl, hnc, hnf, Or.inr (Or.inr (hr106.resolve_left (fun y => absurd y.1 (by omega))).2)⟩⟩ | exact ⟨rfl, Or.inl ⟨rfl, hnc, hnf, by omega⟩⟩ | exact ⟨rfl, Or.inr ⟨rfl, fun z => z.2.2.elim (fun y => by omega) (fun y => y.elim (fun x => by omega) (fun x => x (hr106.resolve_right (fun y => absurd y.1 (by omega))).2))⟩⟩)
      · skip
        refine mk_aloadn (nx := 97) X 1 d_Judge_clash_96 rfl rfl ?_
        refine mk_iloadn (nx := 98) X 2 d_Judge_clash_97 rfl rfl ?_
        refine mk_callVi (nx := 101) (n := 1) (As := [.int (zi (a : Int))]) (rest := []) X 36 (by decide) (sh_Judge cs ad _) rfl (c_Judge_gait l D cs ad zt hi c I hw hS hV t hH a ha hda) (g_Judge_gait wd_520) rfl ⟨rfl, rfl⟩ (by decide +kernel) ⟨by decide, by decide⟩ rfl (Nat.le_of_ble_eq_true rfl) rfl d_Judge_clash_98 rfl ?_
        intro r98 J1 hJ1
        obtain ⟨rfl, rfl⟩ := hJ1
        refine mk_aloadn (nx := 102) X 1 d_Judge_clash_101 rfl rfl ?_
        refine mk_iloadn (nx := 103) X 3 d_Judge_clash_102 rfl rfl ?_
        refine mk_callVi (nx := 106) (n := 1) (As := [.int (zi (b : Int))]) (rest := [.int (zi (gai (dPt c t a) (dSk c t a) (dOb c t a) (dNb c t a)))]) X 36 (by decide) (sh_Judge cs ad _) rfl (c_Judge_gait l D cs ad zt hi c I hw hS hV t hH b hb hdb) (g_Judge_gait wd_520) rfl ⟨rfl, rfl⟩ (by decide +kernel) ⟨by decide, by decide⟩ rfl (Nat.le_of_ble_eq_true rfl) rfl d_Judge_clash_103 rfl ?_
        intro r103 J2 hJ2
        obtain ⟨rfl, rfl⟩ := hJ2
        refine mk_callSi (nx := 109) (n := 2) (As := [.int (zi (gai (dPt c t a) (dSk c t a) (dOb c t a) (dNb c t a))), .int (zi (gai (dPt c t b) (dSk c t b) (dOb c t b) (dNb c t b)))]) (rest := []) X (c_Judge_isExcused l D cs ad zt hi I (gai (dPt c t a) (dSk c t a) (dOb c t a) (dNb c t a)) (gai (dPt c t b) (dSk c t b) (dOb c t b) (dNb c t b)) hga hgb) (g_Judge_isExcused wd_527) rfl ⟨rfl, rfl⟩ (by decide +kernel) ⟨by decide, by decide⟩ rfl (Nat.le_of_ble_eq_true rfl) rfl d_Judge_clash_106 rfl ?_
        intro r106 J3 hJ3
        obtain ⟨rfl, hr106⟩ := hJ3
        have hr106b : r106 = 1 ∨ r106 = 0 := hr106.elim (fun e => Or.inl e.1) (fun e => Or.inr e.1)
        refine mk_if_ne (tgt := 116) (nx := 112) X d_Judge_clash_109 (by omega) (by decide) rfl (fun c109 => ?_) (fun c109 => ?_)
        · skip
          refine mk_iconst (nx := 117) X d_Judge_clash_116 rfl ?_
          exact hret _ _ _ _ d_Judge_clash_117 (by omega) (by first | exact ⟨rfl, Or.inl ⟨rfl, hnc, hnf, Or.inr (Or.inr (hr106.resolve_left (fun y => absurd y.1 (by omega))).2)⟩⟩ | exact ⟨rfl, Or.inl ⟨rfl, hnc, hnf, by omega⟩⟩ | exact ⟨rfl, Or.inr ⟨rfl, fun z => z.2.2.elim (fun y => by omega) (fun y => y.elim (fun x => by omega) (fun x => x (hr106.resolve_right (fun y => absurd y.1 (by omega))).2))⟩⟩)
        · skip
          refine mk_iconst (nx := 113) X d_Judge_clash_112 rfl ?_
          refine mk_goto (tgt := 117) X d_Judge_clash_113 (by decide) ?_
          exact hret _ _ _ _ d_Judge_clash_117 (by omega) (by first | exact ⟨rfl, Or.inl ⟨rfl, hnc, hnf, Or.inr (Or.inr (hr106.resolve_left (fun y => absurd y.1 (by omega))).2)⟩⟩ | exact ⟨rfl, Or.inl ⟨rfl, hnc, hnf, by omega⟩⟩ | exact ⟨rfl, Or.inr ⟨rfl, fun z => z.2.2.elim (fun y => by omega) (fun y => y.elim (fun x => by omega) (fun x => x (hr106.resolve_right (fun y => absurd y.1 (by omega))).2))⟩⟩)
    refine mk_aloadn (nx := 47) X 0 d_Judge_clash_46 rfl rfl ?_
    refine mk_get (nx := 50) (v := .ref (ad 5)) X 36 (by decide) (sh_Judge cs ad _) rfl in_Judge 1 (by decide) wd_210 rfl rfl d_Judge_clash_47 rfl ?_
    refine mk_get (nx := 53) (v := .int (zi (I 5 4))) X 5 (by decide) (sh_Bounds cs ad _) rfl in_Bounds 4 (by decide) wd_100 rfl rfl d_Judge_clash_50 rfl ?_
    rw [show I 5 4 = c 0 5 from hBd.2.2.2.2]
    refine mk_bipush (nx := 55) X d_Judge_clash_53 (by decide) rfl ?_
    refine mk_iand (nx := 56) X d_Judge_clash_55 rfl ?_
    refine mk_if_eq (tgt := 88) (nx := 59) X d_Judge_clash_56 (by exact zi_rng _) (by decide) rfl (fun c56 => ?_) (fun c56 => ?_)
    · skip
      refine mk_iconst (nx := 89) X d_Judge_clash_88 rfl ?_
      refine mk_lv [0, 1, 2] rfl ?_
      exact L89 0 (by omega)
    · skip
      refine mk_aloadn (nx := 60) X 0 d_Judge_clash_59 rfl rfl ?_
      refine mk_get (nx := 63) (v := .ref (ad 5)) X 36 (by decide) (sh_Judge cs ad _) rfl in_Judge 1 (by decide) wd_210 rfl rfl d_Judge_clash_60 rfl ?_
      refine mk_get (nx := 66) (v := .int (zi (I 5 3))) X 5 (by decide) (sh_Bounds cs ad _) rfl in_Bounds 3 (by decide) wd_98 rfl rfl d_Judge_clash_63 rfl ?_
      rw [show I 5 3 = c 0 4 from hBd.2.2.2.1]
      refine mk_if_le (tgt := 88) (nx := 69) X d_Judge_clash_66 (by omega) (by decide) rfl (fun c66 => ?_) (fun c66 => ?_)
      · skip
        refine mk_iconst (nx := 89) X d_Judge_clash_88 rfl ?_
        refine mk_lv [0, 1, 2] rfl ?_
        exact L89 0 (by omega)
      · skip
        refine mk_aloadn (nx := 70) X 0 d_Judge_clash_69 rfl rfl ?_
        refine mk_get (nx := 73) (v := .int (zi (I 36 8))) X 36 (by decide) (sh_Judge cs ad _) rfl in_Judge 8 (by decide) wd_217 rfl rfl d_Judge_clash_70 rfl ?_
        rw [show I 36 8 = t from hH.1]
        refine mk_aloadn (nx := 74) X 0 d_Judge_clash_73 rfl rfl ?_
        refine mk_get (nx := 77) (v := .ref (ad 5)) X 36 (by decide) (sh_Judge cs ad _) rfl in_Judge 1 (by decide) wd_210 rfl rfl d_Judge_clash_74 rfl ?_
        refine mk_get (nx := 80) (v := .int (zi (I 5 3))) X 5 (by decide) (sh_Bounds cs ad _) rfl in_Bounds 3 (by decide) wd_98 rfl rfl d_Judge_clash_77 rfl ?_
        rw [show I 5 3 = c 0 4 from hBd.2.2.2.1]
        refine mk_irem (nx := 81) X d_Judge_clash_80 (by omega) (by omega) (by omega) rfl ?_
        refine mk_nm (fun tb htb => ?_)
        have htb2 : tb = t % c 0 4 := by rw [htb]; exact Int.tmod_eq_emod_of_nonneg (by omega)
        have htb3 : 0 ≤ tb ∧ tb < 100 := by rw [htb2]; exact ⟨Int.emod_nonneg _ (by omega), by have := Int.emod_lt_of_pos t (show 0 < c 0 4 by omega); omega⟩
        refine mk_if_eq (tgt := 88) (nx := 84) X d_Judge_clash_81 (by omega) (by decide) rfl (fun c81 => ?_) (fun c81 => ?_)
        · skip
          refine mk_iconst (nx := 89) X d_Judge_clash_88 rfl ?_
          refine mk_lv [0, 1, 2] rfl ?_
          exact L89 0 (by omega)
        · skip
          refine mk_iconst (nx := 85) X d_Judge_clash_84 rfl ?_
          refine mk_goto (tgt := 89) X d_Judge_clash_85 (by decide) ?_
          refine mk_lv [0, 1, 2] rfl ?_
          exact L89 1 (by omega)
  refine mk_aloadn (nx := 1) X 0 d_Judge_clash_0 rfl rfl ?_
  refine mk_get (nx := 4) (v := .ref (ad 39)) X 36 (by decide) (sh_Judge cs ad _) rfl in_Judge 4 (by decide) wd_213 rfl rfl d_Judge_clash_1 rfl ?_
  refine mk_iloadn (nx := 5) X 1 d_Judge_clash_4 rfl rfl ?_
  refine mk_iald (nx := 6) (j := a) X 39 0 (by decide) (sh_now cs ad _) rfl (by omega) (by omega) (by decide) rfl d_Judge_clash_5 rfl ?_
  rw [show I 39 a = dPt c t a from (hHv a (by omega) (by assumption)).2.1]
  refine mk_aloadn (nx := 7) X 0 d_Judge_clash_6 rfl rfl ?_
  refine mk_get (nx := 10) (v := .ref (ad 39)) X 36 (by decide) (sh_Judge cs ad _) rfl in_Judge 4 (by decide) wd_213 rfl rfl d_Judge_clash_7 rfl ?_
  refine mk_iloadn (nx := 11) X 2 d_Judge_clash_10 rfl rfl ?_
  refine mk_iald (nx := 12) (j := b) X 39 0 (by decide) (sh_now cs ad _) rfl (by omega) (by omega) (by decide) rfl d_Judge_clash_11 rfl ?_
  rw [show I 39 b = dPt c t b from (hHv b (by omega) (by assumption)).2.1]
  refine mk_isub (nx := 13) X d_Judge_clash_12 rfl ?_
  refine mk_mabs (nx := 16) X wd_494 wd_495 wd_48 wd_496 (Nat.le_of_ble_eq_true rfl) (Nat.le_of_ble_eq_true rfl) (by omega) d_Judge_clash_13 rfl ?_
  refine mk_bipush (nx := 18) X d_Judge_clash_16 (by decide) rfl ?_
  refine mk_irem (nx := 19) X d_Judge_clash_18 (by omega) (by omega) (by omega) rfl ?_
  refine mk_nm (fun k hk => ?_)
  have hk2 : k = gp (dPt c t a) (dPt c t b) := by rw [hk]; exact gp_tm _ _
  have hkb := gp_b (dPt c t a) (dPt c t b)
  refine mk_istoren (nx := 20) X [(3, .int (zi k)), (0, .ref (ad 36)), (1, .int (zi (a : Int))), (2, .int (zi (b : Int)))] d_Judge_clash_19 (by decide) rfl rfl ?_
  refine mk_sipush (nx := 23) X d_Judge_clash_20 (by decide) rfl ?_
  refine mk_iloadn (nx := 24) X 0 d_Judge_clash_23 rfl rfl ?_
  refine mk_ishr (nx := 25) X d_Judge_clash_24 rfl ?_
  refine mk_iconst (nx := 26) X d_Judge_clash_25 rfl ?_
  refine mk_iand (nx := 27) X d_Judge_clash_26 rfl ?_
  refine mk_nm (fun q hq => ?_)
  have hq2 : (q = 0 ∧ ¬ cons k) ∨ (q = 1 ∧ cons k) := by rw [hq]; exact cons_k (by omega)
  have hqb : q = 0 ∨ q = 1 := hq2.elim (fun e => Or.inl e.1) (fun e => Or.inr e.1)
  refine mk_if_ne (tgt := 44) (nx := 30) X d_Judge_clash_27 (by omega) (by decide) rfl (fun c27 => ?_) (fun c27 => ?_)
  · skip
    refine mk_iconst (nx := 45) X d_Judge_clash_44 rfl ?_
    exact hret _ _ _ _ d_Judge_clash_45 (by omega) (by exact ⟨rfl, Or.inr ⟨rfl, fun z => by first | exact z.1 (by rw [← hk2]; exact (hq2.resolve_left (fun y => absurd y.1 (by omega))).2) | exact z.2.1 ⟨by omega, (hr38.resolve_right (fun y => absurd y.1 (by omega))).2⟩⟩⟩)
  · skip
    refine mk_iloadn (nx := 31) X 0 d_Judge_clash_30 rfl rfl ?_
    refine mk_iconst (nx := 32) X d_Judge_clash_31 rfl ?_
    refine mk_icmp_ne (tgt := 46) (nx := 35) X d_Judge_clash_32 (by omega) (by omega) (by decide) rfl (fun c32 => ?_) (fun c32 => ?_)
    · skip
      refine mk_lv [1, 2, 3] rfl ?_
      exact L46  (by rw [← hk2]; exact (hq2.resolve_right (fun y => absurd y.1 (by omega))).2) (by first | exact fun z => absurd z.1 (by omega) | exact fun z => (hr38.resolve_left (fun y => absurd y.1 (by omega))).2 z.2)
    · skip
      refine mk_aloadn (nx := 36) X 1 d_Judge_clash_35 rfl rfl ?_
      refine mk_iloadn (nx := 37) X 2 d_Judge_clash_36 rfl rfl ?_
      refine mk_iloadn (nx := 38) X 3 d_Judge_clash_37 rfl rfl ?_
      refine mk_callVi (nx := 41) (n := 2) (As := [.int (zi (a : Int)), .int (zi (b : Int))]) (rest := []) X 36 (by decide) (sh_Judge cs ad _) rfl (c_Judge_isFourthGood l D cs ad zt hi c I hw hS hV t hH a ha hda b hb hdb) (g_Judge_isFourthGood wd_516) rfl ⟨rfl, rfl⟩ (by decide +kernel) ⟨by decide, by decide⟩ rfl (Nat.le_of_ble_eq_true rfl) rfl d_Judge_clash_38 rfl ?_
      intro r38 J4 hJ4
      obtain ⟨rfl, hr38⟩ := hJ4
      have hr38b : r38 = 1 ∨ r38 = 0 := hr38.elim (fun e => Or.inl e.1) (fun e => Or.inr e.1)
      refine mk_if_eq (tgt := 46) (nx := 44) X d_Judge_clash_41 (by omega) (by decide) rfl (fun c41 => ?_) (fun c41 => ?_)
      · skip
        refine mk_lv [1, 2, 3] rfl ?_
        exact L46  (by rw [← hk2]; exact (hq2.resolve_right (fun y => absurd y.1 (by omega))).2) (by first | exact fun z => absurd z.1 (by omega) | exact fun z => (hr38.resolve_left (fun y => absurd y.1 (by omega))).2 z.2)
      · skip
        refine mk_iconst (nx := 45) X d_Judge_clash_44 rfl ?_
        exact hret _ _ _ _ d_Judge_clash_45 (by omega) (by exact ⟨rfl, Or.inr ⟨rfl, fun z => by first | exact z.1 (by rw [← hk2]; exact (hq2.resolve_left (fun y => absurd y.1 (by omega))).2) | exact z.2.1 ⟨by omega, (hr38.resolve_right (fun y => absurd y.1 (by omega))).2⟩⟩⟩)
