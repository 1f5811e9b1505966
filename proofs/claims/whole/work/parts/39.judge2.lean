-- CanonMaker$Judge.breaksAlone(II)Z
theorem d_Judge_breaksAlone_0 : decode prog_3_method_7_code 0 = .ok (.iload_n 1, 1) := by decide +kernel
theorem d_Judge_breaksAlone_1 : decode prog_3_method_7_code 1 = .ok (.lookupswitch 109 #[(1, 35), (2, 73), (128, 103)], 35) := by decide +kernel
theorem d_Judge_breaksAlone_36 : decode prog_3_method_7_code 36 = .ok (.aload_n 0, 1) := by decide +kernel
theorem d_Judge_breaksAlone_37 : decode prog_3_method_7_code 37 = .ok (.getfield 19, 3) := by decide +kernel
theorem d_Judge_breaksAlone_40 : decode prog_3_method_7_code 40 = .ok (.iload_n 2, 1) := by decide +kernel
theorem d_Judge_breaksAlone_41 : decode prog_3_method_7_code 41 = .ok (.iaload, 1) := by decide +kernel
theorem d_Judge_breaksAlone_42 : decode prog_3_method_7_code 42 = .ok (.aload_n 0, 1) := by decide +kernel
theorem d_Judge_breaksAlone_43 : decode prog_3_method_7_code 43 = .ok (.getfield 32, 3) := by decide +kernel
theorem d_Judge_breaksAlone_46 : decode prog_3_method_7_code 46 = .ok (.getfield 123, 3) := by decide +kernel
theorem d_Judge_breaksAlone_49 : decode prog_3_method_7_code 49 = .ok (.if_icmp .lt 19, 3) := by decide +kernel
theorem d_Judge_breaksAlone_52 : decode prog_3_method_7_code 52 = .ok (.aload_n 0, 1) := by decide +kernel
theorem d_Judge_breaksAlone_53 : decode prog_3_method_7_code 53 = .ok (.getfield 19, 3) := by decide +kernel
theorem d_Judge_breaksAlone_56 : decode prog_3_method_7_code 56 = .ok (.iload_n 2, 1) := by decide +kernel
theorem d_Judge_breaksAlone_57 : decode prog_3_method_7_code 57 = .ok (.iaload, 1) := by decide +kernel
theorem d_Judge_breaksAlone_58 : decode prog_3_method_7_code 58 = .ok (.aload_n 0, 1) := by decide +kernel
theorem d_Judge_breaksAlone_59 : decode prog_3_method_7_code 59 = .ok (.getfield 32, 3) := by decide +kernel
theorem d_Judge_breaksAlone_62 : decode prog_3_method_7_code 62 = .ok (.getfield 126, 3) := by decide +kernel
theorem d_Judge_breaksAlone_65 : decode prog_3_method_7_code 65 = .ok (.if_icmp .le 7, 3) := by decide +kernel
theorem d_Judge_breaksAlone_68 : decode prog_3_method_7_code 68 = .ok (.iconst 1, 1) := by decide +kernel
theorem d_Judge_breaksAlone_69 : decode prog_3_method_7_code 69 = .ok (.goto 4, 3) := by decide +kernel
theorem d_Judge_breaksAlone_72 : decode prog_3_method_7_code 72 = .ok (.iconst 0, 1) := by decide +kernel
theorem d_Judge_breaksAlone_73 : decode prog_3_method_7_code 73 = .ok (.ireturn, 1) := by decide +kernel
theorem d_Judge_breaksAlone_74 : decode prog_3_method_7_code 74 = .ok (.aload_n 0, 1) := by decide +kernel
theorem d_Judge_breaksAlone_75 : decode prog_3_method_7_code 75 = .ok (.getfield 32, 3) := by decide +kernel
theorem d_Judge_breaksAlone_78 : decode prog_3_method_7_code 78 = .ok (.getfield 129, 3) := by decide +kernel
theorem d_Judge_breaksAlone_81 : decode prog_3_method_7_code 81 = .ok (.aload_n 0, 1) := by decide +kernel
theorem d_Judge_breaksAlone_82 : decode prog_3_method_7_code 82 = .ok (.getfield 19, 3) := by decide +kernel
theorem d_Judge_breaksAlone_85 : decode prog_3_method_7_code 85 = .ok (.iload_n 2, 1) := by decide +kernel
theorem d_Judge_breaksAlone_86 : decode prog_3_method_7_code 86 = .ok (.iaload, 1) := by decide +kernel
theorem d_Judge_breaksAlone_87 : decode prog_3_method_7_code 87 = .ok (.bipush 12, 2) := by decide +kernel
theorem d_Judge_breaksAlone_89 : decode prog_3_method_7_code 89 = .ok (.invokestatic 132, 3) := by decide +kernel
theorem d_Judge_breaksAlone_92 : decode prog_3_method_7_code 92 = .ok (.ishr, 1) := by decide +kernel
theorem d_Judge_breaksAlone_93 : decode prog_3_method_7_code 93 = .ok (.iconst 1, 1) := by decide +kernel
theorem d_Judge_breaksAlone_94 : decode prog_3_method_7_code 94 = .ok (.iand, 1) := by decide +kernel
theorem d_Judge_breaksAlone_95 : decode prog_3_method_7_code 95 = .ok (.ifCond .ne 7, 3) := by decide +kernel
theorem d_Judge_breaksAlone_98 : decode prog_3_method_7_code 98 = .ok (.iconst 1, 1) := by decide +kernel
theorem d_Judge_breaksAlone_99 : decode prog_3_method_7_code 99 = .ok (.goto 4, 3) := by decide +kernel
theorem d_Judge_breaksAlone_102 : decode prog_3_method_7_code 102 = .ok (.iconst 0, 1) := by decide +kernel
theorem d_Judge_breaksAlone_103 : decode prog_3_method_7_code 103 = .ok (.ireturn, 1) := by decide +kernel
theorem d_Judge_breaksAlone_104 : decode prog_3_method_7_code 104 = .ok (.aload_n 0, 1) := by decide +kernel
theorem d_Judge_breaksAlone_105 : decode prog_3_method_7_code 105 = .ok (.iload_n 2, 1) := by decide +kernel
theorem d_Judge_breaksAlone_106 : decode prog_3_method_7_code 106 = .ok (.invokevirtual 138, 3) := by decide +kernel
theorem d_Judge_breaksAlone_109 : decode prog_3_method_7_code 109 = .ok (.ireturn, 1) := by decide +kernel
theorem d_Judge_breaksAlone_110 : decode prog_3_method_7_code 110 = .ok (.iconst 0, 1) := by decide +kernel
theorem d_Judge_breaksAlone_111 : decode prog_3_method_7_code 111 = .ok (.ireturn, 1) := by decide +kernel
abbrev rm_Judge_breaksAlone : Room := { frames := 2, cells := 0, slots := 0, locals := 42 }
set_option maxHeartbeats 4000000 in
set_option maxRecDepth 100000 in
theorem c_Judge_breaksAlone (l : Launch) (D : va_G) (cs : Nat → ClassId) (ad : Nat → Nat) (zt : Nat) (hi : cm_inj ad) (c I : Wo) (hw : wfN c) (hS : wfS c) (hV : wfV c) (t : Int) (hH : HrA c I t) (v : Nat) (hv : v < 4) (hdv : ¬ dPt c t v = 1000) (hBd : BdE c I) (rule : Int) (hru : rule = 1 ∨ rule = 2 ∨ rule = 128) : cm_C l D cs ad zt y_Judge_breaksAlone ws_Judge_breaksAlone rm_Judge_breaksAlone [.ref (ad 36), .int (zi rule), .int (zi (v : Int))] I (mk_pi (fun r J => I = J ∧ ((r = 1 ∧ fA1 c rule (dPt c t v) (dOb c t v)) ∨ (r = 0 ∧ ¬ (fA1 c rule (dPt c t v) (dOb c t v)))))) := by
  refine mk_metz (own := "CanonMaker$Judge") (Ts := wA) hi (Nat.le_refl _) (by decide) rfl (fun w h => List.mem_cons_of_mem _ h) rfl (Nat.le_of_ble_eq_true rfl) [(0, .ref (ad 36)), (1, .int (zi rule)), (2, .int (zi (v : Int)))] rfl ?_
  intro p_ e_ s_ m_ as_ bl_ me_ co_ Q_ X hret
  have hHv := HrA_v hH
  have hpv := dPt_b (t := t) hw hV hv
  have hsv := dSk_b c t v
  obtain ⟨hov, hnv⟩ := dOb_b hw hV hv hdv
  obtain ⟨hlo, hsc, hbt, hrm, hrd, hst⟩ := id hS
  refine mk_iloadn (nx := 1) X 1 d_Judge_breaksAlone_0 rfl rfl ?_
  by_cases c1_0 : rule = 1
  · refine mk_lookup (tgt := 36) (off := 35) X d_Judge_breaksAlone_1 (by omega) ⟨by decide, by rw [c1_0]; try rfl⟩ (by decide) ?_
    refine mk_aloadn (nx := 37) X 0 d_Judge_breaksAlone_36 rfl rfl ?_
    refine mk_get (nx := 40) (v := .ref (ad 39)) X 36 (by decide) (sh_Judge cs ad _) rfl in_Judge 4 (by decide) wd_213 rfl rfl d_Judge_breaksAlone_37 rfl ?_
    refine mk_iloadn (nx := 41) X 2 d_Judge_breaksAlone_40 rfl rfl ?_
    refine mk_iald (nx := 42) (j := v) X 39 0 (by decide) (sh_now cs ad _) rfl (by omega) (by omega) (by decide) rfl d_Judge_breaksAlone_41 rfl ?_
    rw [show I 39 v = dPt c t v from (hHv v (by omega) (by assumption)).2.1]
    refine mk_aloadn (nx := 43) X 0 d_Judge_breaksAlone_42 rfl rfl ?_
    refine mk_get (nx := 46) (v := .ref (ad 5)) X 36 (by decide) (sh_Judge cs ad _) rfl in_Judge 1 (by decide) wd_210 rfl rfl d_Judge_breaksAlone_43 rfl ?_
    refine mk_get (nx := 49) (v := .int (zi (I 5 0))) X 5 (by decide) (sh_Bounds cs ad _) rfl in_Bounds 0 (by decide) wd_89 rfl rfl d_Judge_breaksAlone_46 rfl ?_
    rw [show I 5 0 = c 0 1 from hBd.1]
    refine mk_icmp_lt (tgt := 68) (nx := 52) X d_Judge_breaksAlone_49 (by omega) (by omega) (by decide) rfl (fun c49 => ?_) (fun c49 => ?_)
    · skip
      refine mk_iconst (nx := 69) X d_Judge_breaksAlone_68 rfl ?_
      refine mk_goto (tgt := 73) X d_Judge_breaksAlone_69 (by decide) ?_
      exact hret _ _ _ _ d_Judge_breaksAlone_73 (by omega) (by refine ⟨rfl, ?_⟩; rw [fA1_1 (by omega)]; omega)
    · skip
      refine mk_aloadn (nx := 53) X 0 d_Judge_breaksAlone_52 rfl rfl ?_
      refine mk_get (nx := 56) (v := .ref (ad 39)) X 36 (by decide) (sh_Judge cs ad _) rfl in_Judge 4 (by decide) wd_213 rfl rfl d_Judge_breaksAlone_53 rfl ?_
      refine mk_iloadn (nx := 57) X 2 d_Judge_breaksAlone_56 rfl rfl ?_
      refine mk_iald (nx := 58) (j := v) X 39 0 (by decide) (sh_now cs ad _) rfl (by omega) (by omega) (by decide) rfl d_Judge_breaksAlone_57 rfl ?_
      rw [show I 39 v = dPt c t v from (hHv v (by omega) (by assumption)).2.1]
      refine mk_aloadn (nx := 59) X 0 d_Judge_breaksAlone_58 rfl rfl ?_
      refine mk_get (nx := 62) (v := .ref (ad 5)) X 36 (by decide) (sh_Judge cs ad _) rfl in_Judge 1 (by decide) wd_210 rfl rfl d_Judge_breaksAlone_59 rfl ?_
      refine mk_get (nx := 65) (v := .int (zi (I 5 1))) X 5 (by decide) (sh_Bounds cs ad _) rfl in_Bounds 1 (by decide) wd_92 rfl rfl d_Judge_breaksAlone_62 rfl ?_
      rw [show I 5 1 = c 0 2 from hBd.2.1]
      refine mk_icmp_le (tgt := 72) (nx := 68) X d_Judge_breaksAlone_65 (by omega) (by omega) (by decide) rfl (fun c65 => ?_) (fun c65 => ?_)
      · skip
        refine mk_iconst (nx := 73) X d_Judge_breaksAlone_72 rfl ?_
        exact hret _ _ _ _ d_Judge_breaksAlone_73 (by omega) (by refine ⟨rfl, ?_⟩; rw [fA1_1 (by omega)]; omega)
      · skip
        refine mk_iconst (nx := 69) X d_Judge_breaksAlone_68 rfl ?_
        refine mk_goto (tgt := 73) X d_Judge_breaksAlone_69 (by decide) ?_
        exact hret _ _ _ _ d_Judge_breaksAlone_73 (by omega) (by refine ⟨rfl, ?_⟩; rw [fA1_1 (by omega)]; omega)
  · skip
    by_cases c1_1 : rule = 2
    · refine mk_lookup (tgt := 74) (off := 73) X d_Judge_breaksAlone_1 (by omega) ⟨by decide, by rw [c1_1]; try rfl⟩ (by decide) ?_
      refine mk_aloadn (nx := 75) X 0 d_Judge_breaksAlone_74 rfl rfl ?_
      refine mk_get (nx := 78) (v := .ref (ad 5)) X 36 (by decide) (sh_Judge cs ad _) rfl in_Judge 1 (by decide) wd_210 rfl rfl d_Judge_breaksAlone_75 rfl ?_
      refine mk_get (nx := 81) (v := .int (zi (I 5 2))) X 5 (by decide) (sh_Bounds cs ad _) rfl in_Bounds 2 (by decide) wd_95 rfl rfl d_Judge_breaksAlone_78 rfl ?_
      rw [show I 5 2 = c 0 3 from hBd.2.2.1]
      refine mk_aloadn (nx := 82) X 0 d_Judge_breaksAlone_81 rfl rfl ?_
      refine mk_get (nx := 85) (v := .ref (ad 39)) X 36 (by decide) (sh_Judge cs ad _) rfl in_Judge 4 (by decide) wd_213 rfl rfl d_Judge_breaksAlone_82 rfl ?_
      refine mk_iloadn (nx := 86) X 2 d_Judge_breaksAlone_85 rfl rfl ?_
      refine mk_iald (nx := 87) (j := v) X 39 0 (by decide) (sh_now cs ad _) rfl (by omega) (by omega) (by decide) rfl d_Judge_breaksAlone_86 rfl ?_
      rw [show I 39 v = dPt c t v from (hHv v (by omega) (by assumption)).2.1]
      refine mk_bipush (nx := 89) X d_Judge_breaksAlone_87 (by decide) rfl ?_
      refine mk_callTi (nx := 92) (n := 2) (As := [.int (zi (dPt c t v)), .int (zi 12)]) (rest := [.int (zi (c 0 3))]) X (c_Math_floorMod l D cs ad zt hi I (dPt c t v) 12 (by omega) (by omega) (by omega)) (g_Math_floorMod wd_489) rfl ⟨rfl, rfl⟩ (by decide +kernel) ⟨by decide, by decide⟩ rfl (Nat.le_of_ble_eq_true rfl) rfl d_Judge_breaksAlone_89 rfl ?_
      intro r89 J1 hJ1
      obtain ⟨rfl, rfl⟩ := hJ1
      refine mk_ishr (nx := 93) X d_Judge_breaksAlone_92 rfl ?_
      refine mk_iconst (nx := 94) X d_Judge_breaksAlone_93 rfl ?_
      refine mk_iand (nx := 95) X d_Judge_breaksAlone_94 rfl ?_
      refine mk_if_ne (tgt := 102) (nx := 98) X d_Judge_breaksAlone_95 (by exact zi_rng _) (by decide) rfl (fun c95 => ?_) (fun c95 => ?_)
      · skip
        refine mk_iconst (nx := 103) X d_Judge_breaksAlone_102 rfl ?_
        exact hret _ _ _ _ d_Judge_breaksAlone_103 (by omega) (by refine ⟨rfl, ?_⟩; rw [fA1_2 (by omega)]; omega)
      · skip
        refine mk_iconst (nx := 99) X d_Judge_breaksAlone_98 rfl ?_
        refine mk_goto (tgt := 103) X d_Judge_breaksAlone_99 (by decide) ?_
        exact hret _ _ _ _ d_Judge_breaksAlone_103 (by omega) (by refine ⟨rfl, ?_⟩; rw [fA1_2 (by omega)]; omega)
    · skip
      by_cases c1_2 : rule = 128
      · refine mk_lookup (tgt := 104) (off := 103) X d_Judge_breaksAlone_1 (by omega) ⟨by decide, by rw [c1_2]; try rfl⟩ (by decide) ?_
        refine mk_aloadn (nx := 105) X 0 d_Judge_breaksAlone_104 rfl rfl ?_
        refine mk_iloadn (nx := 106) X 2 d_Judge_breaksAlone_105 rfl rfl ?_
        refine mk_callVi (nx := 109) (n := 1) (As := [.int (zi (v : Int))]) (rest := []) X 36 (by decide) (sh_Judge cs ad _) rfl (c_Judge_leaps l D cs ad zt hi c I hw hS hV t hH v hv hdv) (g_Judge_leaps wd_490) rfl ⟨rfl, rfl⟩ (by decide +kernel) ⟨by decide, by decide⟩ rfl (Nat.le_of_ble_eq_true rfl) rfl d_Judge_breaksAlone_106 rfl ?_
        intro r106 J2 hJ2
        obtain ⟨rfl, hr106⟩ := hJ2
        have hr106b : r106 = 1 ∨ r106 = 0 := hr106.elim (fun e => Or.inl e.1) (fun e => Or.inr e.1)
        exact hret _ _ _ _ d_Judge_breaksAlone_109 (by omega) (by refine ⟨rfl, ?_⟩; rw [fA1_3 (by omega)]; exact hr106)
      · skip
        refine mk_lookup (tgt := 110) (off := 109) X d_Judge_breaksAlone_1 (by omega) ⟨by decide, by simp only [Op.lookupswitch.offset_cons, Op.lookupswitch.offset_nil]; rw [if_neg (by omega), if_neg (by omega), if_neg (by omega)]⟩ (by decide) ?_
        refine mk_iconst (nx := 111) X d_Judge_breaksAlone_110 rfl ?_
        exact hret _ _ _ _ d_Judge_breaksAlone_111 (by omega) (by exfalso; omega)

-- CanonMaker$Judge.breakTogether(III)Z
theorem d_Judge_breakTogether_0 : decode prog_3_method_8_code 0 = .ok (.iload_n 1, 1) := by decide +kernel
theorem d_Judge_breakTogether_1 : decode prog_3_method_8_code 1 = .ok (.lookupswitch 128 #[(4, 43), (16, 50), (32, 74), (64, 107)], 43) := by decide +kernel
theorem d_Judge_breakTogether_44 : decode prog_3_method_8_code 44 = .ok (.aload_n 0, 1) := by decide +kernel
theorem d_Judge_breakTogether_45 : decode prog_3_method_8_code 45 = .ok (.iload_n 2, 1) := by decide +kernel
theorem d_Judge_breakTogether_46 : decode prog_3_method_8_code 46 = .ok (.iload_n 3, 1) := by decide +kernel
theorem d_Judge_breakTogether_47 : decode prog_3_method_8_code 47 = .ok (.invokevirtual 142, 3) := by decide +kernel
theorem d_Judge_breakTogether_50 : decode prog_3_method_8_code 50 = .ok (.ireturn, 1) := by decide +kernel
theorem d_Judge_breakTogether_51 : decode prog_3_method_8_code 51 = .ok (.aload_n 0, 1) := by decide +kernel
theorem d_Judge_breakTogether_52 : decode prog_3_method_8_code 52 = .ok (.iload_n 2, 1) := by decide +kernel
theorem d_Judge_breakTogether_53 : decode prog_3_method_8_code 53 = .ok (.iload_n 3, 1) := by decide +kernel
theorem d_Judge_breakTogether_54 : decode prog_3_method_8_code 54 = .ok (.invokevirtual 145, 3) := by decide +kernel
theorem d_Judge_breakTogether_57 : decode prog_3_method_8_code 57 = .ok (.ifCond .eq 16, 3) := by decide +kernel
theorem d_Judge_breakTogether_60 : decode prog_3_method_8_code 60 = .ok (.aload_n 0, 1) := by decide +kernel
theorem d_Judge_breakTogether_61 : decode prog_3_method_8_code 61 = .ok (.iload_n 2, 1) := by decide +kernel
theorem d_Judge_breakTogether_62 : decode prog_3_method_8_code 62 = .ok (.iload_n 3, 1) := by decide +kernel
theorem d_Judge_breakTogether_63 : decode prog_3_method_8_code 63 = .ok (.invokevirtual 148, 3) := by decide +kernel
theorem d_Judge_breakTogether_66 : decode prog_3_method_8_code 66 = .ok (.ifCond .ne 7, 3) := by decide +kernel
theorem d_Judge_breakTogether_69 : decode prog_3_method_8_code 69 = .ok (.iconst 1, 1) := by decide +kernel
theorem d_Judge_breakTogether_70 : decode prog_3_method_8_code 70 = .ok (.goto 4, 3) := by decide +kernel
theorem d_Judge_breakTogether_73 : decode prog_3_method_8_code 73 = .ok (.iconst 0, 1) := by decide +kernel
theorem d_Judge_breakTogether_74 : decode prog_3_method_8_code 74 = .ok (.ireturn, 1) := by decide +kernel
theorem d_Judge_breakTogether_75 : decode prog_3_method_8_code 75 = .ok (.aload_n 0, 1) := by decide +kernel
theorem d_Judge_breakTogether_76 : decode prog_3_method_8_code 76 = .ok (.iload_n 2, 1) := by decide +kernel
theorem d_Judge_breakTogether_77 : decode prog_3_method_8_code 77 = .ok (.iload_n 3, 1) := by decide +kernel
theorem d_Judge_breakTogether_78 : decode prog_3_method_8_code 78 = .ok (.invokevirtual 145, 3) := by decide +kernel
theorem d_Judge_breakTogether_81 : decode prog_3_method_8_code 81 = .ok (.ifCond .eq 25, 3) := by decide +kernel
theorem d_Judge_breakTogether_84 : decode prog_3_method_8_code 84 = .ok (.aload_n 0, 1) := by decide +kernel
theorem d_Judge_breakTogether_85 : decode prog_3_method_8_code 85 = .ok (.iload_n 2, 1) := by decide +kernel
theorem d_Judge_breakTogether_86 : decode prog_3_method_8_code 86 = .ok (.iload_n 3, 1) := by decide +kernel
theorem d_Judge_breakTogether_87 : decode prog_3_method_8_code 87 = .ok (.invokevirtual 148, 3) := by decide +kernel
theorem d_Judge_breakTogether_90 : decode prog_3_method_8_code 90 = .ok (.ifCond .eq 16, 3) := by decide +kernel
theorem d_Judge_breakTogether_93 : decode prog_3_method_8_code 93 = .ok (.aload_n 0, 1) := by decide +kernel
theorem d_Judge_breakTogether_94 : decode prog_3_method_8_code 94 = .ok (.iload_n 2, 1) := by decide +kernel
theorem d_Judge_breakTogether_95 : decode prog_3_method_8_code 95 = .ok (.iload_n 3, 1) := by decide +kernel
theorem d_Judge_breakTogether_96 : decode prog_3_method_8_code 96 = .ok (.invokevirtual 151, 3) := by decide +kernel
theorem d_Judge_breakTogether_99 : decode prog_3_method_8_code 99 = .ok (.ifCond .eq 7, 3) := by decide +kernel
theorem d_Judge_breakTogether_102 : decode prog_3_method_8_code 102 = .ok (.iconst 1, 1) := by decide +kernel
theorem d_Judge_breakTogether_103 : decode prog_3_method_8_code 103 = .ok (.goto 4, 3) := by decide +kernel
theorem d_Judge_breakTogether_106 : decode prog_3_method_8_code 106 = .ok (.iconst 0, 1) := by decide +kernel
theorem d_Judge_breakTogether_107 : decode prog_3_method_8_code 107 = .ok (.ireturn, 1) := by decide +kernel
theorem d_Judge_breakTogether_108 : decode prog_3_method_8_code 108 = .ok (.aload_n 0, 1) := by decide +kernel
theorem d_Judge_breakTogether_109 : decode prog_3_method_8_code 109 = .ok (.getfield 19, 3) := by decide +kernel
theorem d_Judge_breakTogether_112 : decode prog_3_method_8_code 112 = .ok (.iload_n 2, 1) := by decide +kernel
theorem d_Judge_breakTogether_113 : decode prog_3_method_8_code 113 = .ok (.iaload, 1) := by decide +kernel
theorem d_Judge_breakTogether_114 : decode prog_3_method_8_code 114 = .ok (.aload_n 0, 1) := by decide +kernel
theorem d_Judge_breakTogether_115 : decode prog_3_method_8_code 115 = .ok (.getfield 19, 3) := by decide +kernel
theorem d_Judge_breakTogether_118 : decode prog_3_method_8_code 118 = .ok (.iload_n 3, 1) := by decide +kernel
theorem d_Judge_breakTogether_119 : decode prog_3_method_8_code 119 = .ok (.iaload, 1) := by decide +kernel
theorem d_Judge_breakTogether_120 : decode prog_3_method_8_code 120 = .ok (.if_icmp .ge 7, 3) := by decide +kernel
theorem d_Judge_breakTogether_123 : decode prog_3_method_8_code 123 = .ok (.iconst 1, 1) := by decide +kernel
theorem d_Judge_breakTogether_124 : decode prog_3_method_8_code 124 = .ok (.goto 4, 3) := by decide +kernel
theorem d_Judge_breakTogether_127 : decode prog_3_method_8_code 127 = .ok (.iconst 0, 1) := by decide +kernel
theorem d_Judge_breakTogether_128 : decode prog_3_method_8_code 128 = .ok (.ireturn, 1) := by decide +kernel
theorem d_Judge_breakTogether_129 : decode prog_3_method_8_code 129 = .ok (.iconst 0, 1) := by decide +kernel
theorem d_Judge_breakTogether_130 : decode prog_3_method_8_code 130 = .ok (.ireturn, 1) := by decide +kernel
abbrev rm_Judge_breakTogether : Room := { frames := 3, cells := 0, slots := 0, locals := 69 }
set_option maxHeartbeats 4000000 in
set_option maxRecDepth 100000 in
theorem c_Judge_breakTogether (l : Launch) (D : va_G) (cs : Nat → ClassId) (ad : Nat → Nat) (zt : Nat) (hi : cm_inj ad) (c I : Wo) (hw : wfN c) (hS : wfS c) (hV : wfV c) (t : Int) (hH : HrA c I t) (a : Nat) (ha : a < 4) (hda : ¬ dPt c t a = 1000) (b : Nat) (hb : b < 4) (hdb : ¬ dPt c t b = 1000) (hBd : BdE c I) (ht : 0 ≤ t ∧ t ≤ 100000) (rule : Int) (hru : rule = 4 ∨ rule = 16 ∨ rule = 32 ∨ rule = 64) : cm_C l D cs ad zt y_Judge_breakTogether ws_Judge_breakTogether rm_Judge_breakTogether [.ref (ad 36), .int (zi rule), .int (zi (a : Int)), .int (zi (b : Int))] I (mk_pi (fun r J => I = J ∧ ((r = 1 ∧ fT c t rule (dPt c t) (dSk c t) (dOb c t) (dNb c t) a b) ∨ (r = 0 ∧ ¬ (fT c t rule (dPt c t) (dSk c t) (dOb c t) (dNb c t) a b))))) := by
  refine mk_metz (own := "CanonMaker$Judge") (Ts := wA) hi (Nat.le_refl _) (by decide) rfl (fun w h => List.mem_cons_of_mem _ h) rfl (Nat.le_of_ble_eq_true rfl) [(0, .ref (ad 36)), (1, .int (zi rule)), (2, .int (zi (a : Int))), (3, .int (zi (b : Int)))] rfl ?_
  intro p_ e_ s_ m_ as_ bl_ me_ co_ Q_ X hret
  have hHv := HrA_v hH
  have hpa := dPt_b (t := t) hw hV ha
  have hsa := dSk_b c t a
  obtain ⟨hoa, hna⟩ := dOb_b hw hV ha hda
  have hpb := dPt_b (t := t) hw hV hb
  have hsb := dSk_b c t b
  obtain ⟨hob, hnb⟩ := dOb_b hw hV hb hdb
  refine mk_iloadn (nx := 1) X 1 d_Judge_breakTogether_0 rfl rfl ?_
  by_cases c1_0 : rule = 4
  · refine mk_lookup (tgt := 44) (off := 43) X d_Judge_breakTogether_1 (by omega) ⟨by decide, by rw [c1_0]; try rfl⟩ (by decide) ?_
    refine mk_aloadn (nx := 45) X 0 d_Judge_breakTogether_44 rfl rfl ?_
    refine mk_iloadn (nx := 46) X 2 d_Judge_breakTogether_45 rfl rfl ?_
    refine mk_iloadn (nx := 47) X 3 d_Judge_breakTogether_46 rfl rfl ?_
    refine mk_callVi (nx := 50) (n := 2) (As := [.int (zi (a : Int)), .int (zi (b : Int))]) (rest := []) X 36 (by decide) (sh_Judge cs ad _) rfl (c_Judge_clash l D cs ad zt hi c I hw hS hV t hH a ha hda b hb hdb hBd ht) (g_Judge_clash wd_512) rfl ⟨rfl, rfl⟩ (by decide +kernel) ⟨by decide, by decide⟩ rfl (Nat.le_of_ble_eq_true rfl) rfl d_Judge_breakTogether_47 rfl ?_
    intro r47 J1 hJ1
    obtain ⟨rfl, hr47⟩ := hJ1
    have hr47b : r47 = 1 ∨ r47 = 0 := hr47.elim (fun e => Or.inl e.1) (fun e => Or.inr e.1)
    exact hret _ _ _ _ d_Judge_breakTogether_50 (by omega) (by refine ⟨rfl, ?_⟩; rw [fT_4 (by omega)]; exact hr47)
  · skip
    by_cases c1_1 : rule = 16
    · refine mk_lookup (tgt := 51) (off := 50) X d_Judge_breakTogether_1 (by omega) ⟨by decide, by rw [c1_1]; try rfl⟩ (by decide) ?_
      refine mk_aloadn (nx := 52) X 0 d_Judge_breakTogether_51 rfl rfl ?_
      refine mk_iloadn (nx := 53) X 2 d_Judge_breakTogether_52 rfl rfl ?_
      refine mk_iloadn (nx := 54) X 3 d_Judge_breakTogether_53 rfl rfl ?_
      refine mk_callVi (nx := 57) (n := 2) (As := [.int (zi (a : Int)), .int (zi (b : Int))]) (rest := []) X 36 (by decide) (sh_Judge cs ad _) rfl (c_Judge_moveAlike l D cs ad zt hi c I hw hS hV t hH a ha hda b hb hdb) (g_Judge_moveAlike wd_530) rfl ⟨rfl, rfl⟩ (by decide +kernel) ⟨by decide, by decide⟩ rfl (Nat.le_of_ble_eq_true rfl) rfl d_Judge_breakTogether_54 rfl ?_
      intro r54 J2 hJ2
      obtain ⟨rfl, hr54⟩ := hJ2
      have hr54b : r54 = 1 ∨ r54 = 0 := hr54.elim (fun e => Or.inl e.1) (fun e => Or.inr e.1)
      refine mk_if_eq (tgt := 73) (nx := 60) X d_Judge_breakTogether_57 (by omega) (by decide) rfl (fun c57 => ?_) (fun c57 => ?_)
      · skip
        refine mk_iconst (nx := 74) X d_Judge_breakTogether_73 rfl ?_
        exact hret _ _ _ _ d_Judge_breakTogether_74 (by omega) (by refine ⟨rfl, ?_⟩; rw [fT_16 (by omega)]; first | exact Or.inr ⟨rfl, fun z => (hr54.resolve_left (fun y => absurd y.1 (by omega))).2 z.1⟩ | exact Or.inr ⟨rfl, fun z => (hr63.resolve_right (fun y => absurd y.1 (by omega))).2 z.2⟩ | exact Or.inl ⟨rfl, (hr54.resolve_right (fun y => absurd y.1 (by omega))).2, Decidable.not_not.mp (hr63.resolve_left (fun y => absurd y.1 (by omega))).2⟩)
      · skip
        refine mk_aloadn (nx := 61) X 0 d_Judge_breakTogether_60 rfl rfl ?_
        refine mk_iloadn (nx := 62) X 2 d_Judge_breakTogether_61 rfl rfl ?_
        refine mk_iloadn (nx := 63) X 3 d_Judge_breakTogether_62 rfl rfl ?_
        refine mk_callVi (nx := 66) (n := 2) (As := [.int (zi (a : Int)), .int (zi (b : Int))]) (rest := []) X 36 (by decide) (sh_Judge cs ad _) rfl (c_Judge_changeDistance l D cs ad zt hi c I hw hS hV t hH a ha hda b hb hdb) (g_Judge_changeDistance wd_534) rfl ⟨rfl, rfl⟩ (by decide +kernel) ⟨by decide, by decide⟩ rfl (Nat.le_of_ble_eq_true rfl) rfl d_Judge_breakTogether_63 rfl ?_
        intro r63 J3 hJ3
        obtain ⟨rfl, hr63⟩ := hJ3
        have hr63b : r63 = 1 ∨ r63 = 0 := hr63.elim (fun e => Or.inl e.1) (fun e => Or.inr e.1)
        refine mk_if_ne (tgt := 73) (nx := 69) X d_Judge_breakTogether_66 (by omega) (by decide) rfl (fun c66 => ?_) (fun c66 => ?_)
        · skip
          refine mk_iconst (nx := 74) X d_Judge_breakTogether_73 rfl ?_
          exact hret _ _ _ _ d_Judge_breakTogether_74 (by omega) (by refine ⟨rfl, ?_⟩; rw [fT_16 (by omega)]; first | exact Or.inr ⟨rfl, fun z => (hr54.resolve_left (fun y => absurd y.1 (by omega))).2 z.1⟩ | exact Or.inr ⟨rfl, fun z => (hr63.resolve_right (fun y => absurd y.1 (by omega))).2 z.2⟩ | exact Or.inl ⟨rfl, (hr54.resolve_right (fun y => absurd y.1 (by omega))).2, Decidable.not_not.mp (hr63.resolve_left (fun y => absurd y.1 (by omega))).2⟩)
        · skip
          refine mk_iconst (nx := 70) X d_Judge_breakTogether_69 rfl ?_
          refine mk_goto (tgt := 74) X d_Judge_breakTogether_70 (by decide) ?_
          exact hret _ _ _ _ d_Judge_breakTogether_74 (by omega) (by refine ⟨rfl, ?_⟩; rw [fT_16 (by omega)]; first | exact Or.inr ⟨rfl, fun z => (hr54.resolve_left (fun y => absurd y.1 (by omega))).2 z.1⟩ | exact Or.inr ⟨rfl, fun z => (hr63.resolve_right (fun y => absurd y.1 (by omega))).2 z.2⟩ | exact Or.inl ⟨rfl, (hr54.resolve_right (fun y => absurd y.1 (by omega))).2, Decidable.not_not.mp (hr63.resolve_left (fun y => absurd y.1 (by omega))).2⟩)
    · skip
      by_cases c1_2 : rule = 32
      · refine mk_lookup (tgt := 75) (off := 74) X d_Judge_breakTogether_1 (by omega) ⟨by decide, by rw [c1_2]; try rfl⟩ (by decide) ?_
        refine mk_aloadn (nx := 76) X 0 d_Judge_breakTogether_75 rfl rfl ?_
        refine mk_iloadn (nx := 77) X 2 d_Judge_breakTogether_76 rfl rfl ?_
        refine mk_iloadn (nx := 78) X 3 d_Judge_breakTogether_77 rfl rfl ?_
        refine mk_callVi (nx := 81) (n := 2) (As := [.int (zi (a : Int)), .int (zi (b : Int))]) (rest := []) X 36 (by decide) (sh_Judge cs ad _) rfl (c_Judge_moveAlike l D cs ad zt hi c I hw hS hV t hH a ha hda b hb hdb) (g_Judge_moveAlike wd_530) rfl ⟨rfl, rfl⟩ (by decide +kernel) ⟨by decide, by decide⟩ rfl (Nat.le_of_ble_eq_true rfl) rfl d_Judge_breakTogether_78 rfl ?_
        intro r78 J4 hJ4
        obtain ⟨rfl, hr78⟩ := hJ4
        have hr78b : r78 = 1 ∨ r78 = 0 := hr78.elim (fun e => Or.inl e.1) (fun e => Or.inr e.1)
        refine mk_if_eq (tgt := 106) (nx := 84) X d_Judge_breakTogether_81 (by omega) (by decide) rfl (fun c81 => ?_) (fun c81 => ?_)
        · skip
          refine mk_iconst (nx := 107) X d_Judge_breakTogether_106 rfl ?_
          exact hret _ _ _ _ d_Judge_breakTogether_107 (by omega) (by refine ⟨rfl, ?_⟩; rw [fT_32 (by omega)]; first | exact Or.inr ⟨rfl, fun z => (hr78.resolve_left (fun y => absurd y.1 (by omega))).2 z.1⟩ | exact Or.inr ⟨rfl, fun z => (hr87.resolve_left (fun y => absurd y.1 (by omega))).2 z.2.1⟩ | exact Or.inr ⟨rfl, fun z => (hr96.resolve_left (fun y => absurd y.1 (by omega))).2 z.2.2⟩ | exact Or.inl ⟨rfl, (hr78.resolve_right (fun y => absurd y.1 (by omega))).2, (hr87.resolve_right (fun y => absurd y.1 (by omega))).2, (hr96.resolve_right (fun y => absurd y.1 (by omega))).2⟩)
        · skip
          refine mk_aloadn (nx := 85) X 0 d_Judge_breakTogether_84 rfl rfl ?_
          refine mk_iloadn (nx := 86) X 2 d_Judge_breakTogether_85 rfl rfl ?_
          refine mk_iloadn (nx := 87) X 3 d_Judge_breakTogether_86 rfl rfl ?_
          refine mk_callVi (nx := 90) (n := 2) (As := [.int (zi (a : Int)), .int (zi (b : Int))]) (rest := []) X 36 (by decide) (sh_Judge cs ad _) rfl (c_Judge_changeDistance l D cs ad zt hi c I hw hS hV t hH a ha hda b hb hdb) (g_Judge_changeDistance wd_534) rfl ⟨rfl, rfl⟩ (by decide +kernel) ⟨by decide, by decide⟩ rfl (Nat.le_of_ble_eq_true rfl) rfl d_Judge_breakTogether_87 rfl ?_
          intro r87 J5 hJ5
          obtain ⟨rfl, hr87⟩ := hJ5
          have hr87b : r87 = 1 ∨ r87 = 0 := hr87.elim (fun e => Or.inl e.1) (fun e => Or.inr e.1)
          refine mk_if_eq (tgt := 106) (nx := 93) X d_Judge_breakTogether_90 (by omega) (by decide) rfl (fun c90 => ?_) (fun c90 => ?_)
          · skip
            refine mk_iconst (nx := 107) X d_Judge_breakTogether_106 rfl ?_
            exact hret _ _ _ _ d_Judge_breakTogether_107 (by omega) (by refine ⟨rfl, ?_⟩; rw [fT_32 (by omega)]; first | exact Or.inr ⟨rfl, fun z => (hr78.resolve_left (fun y => absurd y.1 (by omega))).2 z.1⟩ | exact Or.inr ⟨rfl, fun z => (hr87.resolve_left (fun y => absurd y.1 (by omega))).2 z.2.1⟩ | exact Or.inr ⟨rfl, fun z => (hr96.resolve_left (fun y => absurd y.1 (by omega))).2 z.2.2⟩ | exact Or.inl ⟨rfl, (hr78.resolve_right (fun y => absurd y.1 (by omega))).2, (hr87.resolve_right (fun y => absurd y.1 (by omega))).2, (hr96.resolve_right (fun y => absurd y.1 (by omega))).2⟩)
          · skip
            refine mk_aloadn (nx := 94) X 0 d_Judge_breakTogether_93 rfl rfl ?_
            refine mk_iloadn (nx := 95) X 2 d_Judge_breakTogether_94 rfl rfl ?_
            refine mk_iloadn (nx := 96) X 3 d_Judge_breakTogether_95 rfl rfl ?_
            refine mk_callVi (nx := 99) (n := 2) (As := [.int (zi (a : Int)), .int (zi (b : Int))]) (rest := []) X 36 (by decide) (sh_Judge cs ad _) rfl (c_Judge_upperJumps l D cs ad zt hi c I hw hS hV t hH a ha hda b hb hdb) (g_Judge_upperJumps wd_538) rfl ⟨rfl, rfl⟩ (by decide +kernel) ⟨by decide, by decide⟩ rfl (Nat.le_of_ble_eq_true rfl) rfl d_Judge_breakTogether_96 rfl ?_
            intro r96 J6 hJ6
            obtain ⟨rfl, hr96⟩ := hJ6
            have hr96b : r96 = 1 ∨ r96 = 0 := hr96.elim (fun e => Or.inl e.1) (fun e => Or.inr e.1)
            refine mk_if_eq (tgt := 106) (nx := 102) X d_Judge_breakTogether_99 (by omega) (by decide) rfl (fun c99 => ?_) (fun c99 => ?_)
            · skip
              refine mk_iconst (nx := 107) X d_Judge_breakTogether_106 rfl ?_
              exact hret _ _ _ _ d_Judge_breakTogether_107 (by omega) (by refine ⟨rfl, ?_⟩; rw [fT_32 (by omega)]; first | exact Or.inr ⟨rfl, fun z => (hr78.resolve_left (fun y => absurd y.1 (by omega))).2 z.1⟩ | exact Or.inr ⟨rfl, fun z => (hr87.resolve_left (fun y => absurd y.1 (by omega))).2 z.2.1⟩ | exact Or.inr ⟨rfl, fun z => (hr96.resolve_left (fun y => absurd y.1 (by omega))).2 z.2.2⟩ | exact Or.inl ⟨rfl, (hr78.resolve_right (fun y => absurd y.1 (by omega))).2, (hr87.resolve_right (fun y => absurd y.1 (by omega))).2, (hr96.resolve_right (fun y => absurd y.1 (by omega))).2⟩)
            · skip
              refine mk_iconst (nx := 103) X d_Judge_breakTogether_102 rfl ?_
              refine mk_goto (tgt := 107) X d_Judge_breakTogether_103 (by decide) ?_
              exact hret _ _ _ _ d_Judge_breakTogether_107 (by omega) (by refine ⟨rfl, ?_⟩; rw [fT_32 (by omega)]; first | exact Or.inr ⟨rfl, fun z => (hr78.resolve_left (fun y => absurd y.1 (by omega))).2 z.1⟩ | exact Or.inr ⟨rfl, fun z => (hr87.resolve_left (fun y => absurd y.1 (by omega))).2 z.2.1⟩ | exact Or.inr ⟨rfl, fun z => (hr96.resolve_left (fun y => absurd y.1 (by omega))).2 z.2.2⟩ | exact Or.inl ⟨rfl, (hr78.resolve_right (fun y => absurd y.1 (by omega))).2, (hr87.resolve_right (fun y => absurd y.1 (by omega))).2, (hr96.resolve_right (fun y => absurd y.1 (by omega))).2⟩)
      · skip
        by_cases c1_3 : rule = 64
        · refine mk_lookup (tgt := 108) (off := 107) X d_Judge_breakTogether_1 (by omega) ⟨by decide, by rw [c1_3]; try rfl⟩ (by decide) ?_
          refine mk_aloadn (nx := 109) X 0 d_Judge_breakTogether_108 rfl rfl ?_
          refine mk_get (nx := 112) (v := .ref (ad 39)) X 36 (by decide) (sh_Judge cs ad _) rfl in_Judge 4 (by decide) wd_213 rfl rfl d_Judge_breakTogether_109 rfl ?_
          refine mk_iloadn (nx := 113) X 2 d_Judge_breakTogether_112 rfl rfl ?_
          refine mk_iald (nx := 114) (j := a) X 39 0 (by decide) (sh_now cs ad _) rfl (by omega) (by omega) (by decide) rfl d_Judge_breakTogether_113 rfl ?_
          rw [show I 39 a = dPt c t a from (hHv a (by omega) (by assumption)).2.1]
          refine mk_aloadn (nx := 115) X 0 d_Judge_breakTogether_114 rfl rfl ?_
          refine mk_get (nx := 118) (v := .ref (ad 39)) X 36 (by decide) (sh_Judge cs ad _) rfl in_Judge 4 (by decide) wd_213 rfl rfl d_Judge_breakTogether_115 rfl ?_
          refine mk_iloadn (nx := 119) X 3 d_Judge_breakTogether_118 rfl rfl ?_
          refine mk_iald (nx := 120) (j := b) X 39 0 (by decide) (sh_now cs ad _) rfl (by omega) (by omega) (by decide) rfl d_Judge_breakTogether_119 rfl ?_
          rw [show I 39 b = dPt c t b from (hHv b (by omega) (by assumption)).2.1]
          refine mk_icmp_ge (tgt := 127) (nx := 123) X d_Judge_breakTogether_120 (by omega) (by omega) (by decide) rfl (fun c120 => ?_) (fun c120 => ?_)
          · skip
            refine mk_iconst (nx := 128) X d_Judge_breakTogether_127 rfl ?_
            exact hret _ _ _ _ d_Judge_breakTogether_128 (by omega) (by refine ⟨rfl, ?_⟩; rw [fT_64 (by omega)]; omega)
          · skip
            refine mk_iconst (nx := 124) X d_Judge_breakTogether_123 rfl ?_
            refine mk_goto (tgt := 128) X d_Judge_breakTogether_124 (by decide) ?_
            exact hret _ _ _ _ d_Judge_breakTogether_128 (by omega) (by refine ⟨rfl, ?_⟩; rw [fT_64 (by omega)]; omega)
        · skip
          refine mk_lookup (tgt := 129) (off := 128) X d_Judge_breakTogether_1 (by omega) ⟨by decide, by simp only [Op.lookupswitch.offset_cons, Op.lookupswitch.offset_nil]; rw [if_neg (by omega), if_neg (by omega), if_neg (by omega), if_neg (by omega)]⟩ (by decide) ?_
          refine mk_iconst (nx := 130) X d_Judge_breakTogether_129 rfl ?_
          exact hret _ _ _ _ d_Judge_breakTogether_130 (by omega) (by exfalso; omega)

-- CanonMaker$Judge.keepFault(III)V
theorem d_Judge_keepFault_0 : decode prog_3_method_6_code 0 = .ok (.aload_n 0, 1) := by decide +kernel
theorem d_Judge_keepFault_1 : decode prog_3_method_6_code 1 = .ok (.getfield 36, 3) := by decide +kernel
theorem d_Judge_keepFault_4 : decode prog_3_method_6_code 4 = .ok (.aload_n 0, 1) := by decide +kernel
theorem d_Judge_keepFault_5 : decode prog_3_method_6_code 5 = .ok (.getfield 40, 3) := by decide +kernel
theorem d_Judge_keepFault_8 : decode prog_3_method_6_code 8 = .ok (.if_icmp .ne 26, 3) := by decide +kernel
theorem d_Judge_keepFault_11 : decode prog_3_method_6_code 11 = .ok (.aload_n 0, 1) := by decide +kernel
theorem d_Judge_keepFault_12 : decode prog_3_method_6_code 12 = .ok (.aload_n 0, 1) := by decide +kernel
theorem d_Judge_keepFault_13 : decode prog_3_method_6_code 13 = .ok (.getfield 72, 3) := by decide +kernel
theorem d_Judge_keepFault_16 : decode prog_3_method_6_code 16 = .ok (.putfield 111, 3) := by decide +kernel
theorem d_Judge_keepFault_19 : decode prog_3_method_6_code 19 = .ok (.aload_n 0, 1) := by decide +kernel
theorem d_Judge_keepFault_20 : decode prog_3_method_6_code 20 = .ok (.iload_n 1, 1) := by decide +kernel
theorem d_Judge_keepFault_21 : decode prog_3_method_6_code 21 = .ok (.putfield 114, 3) := by decide +kernel
theorem d_Judge_keepFault_24 : decode prog_3_method_6_code 24 = .ok (.aload_n 0, 1) := by decide +kernel
theorem d_Judge_keepFault_25 : decode prog_3_method_6_code 25 = .ok (.iload_n 2, 1) := by decide +kernel
theorem d_Judge_keepFault_26 : decode prog_3_method_6_code 26 = .ok (.putfield 117, 3) := by decide +kernel
theorem d_Judge_keepFault_29 : decode prog_3_method_6_code 29 = .ok (.aload_n 0, 1) := by decide +kernel
theorem d_Judge_keepFault_30 : decode prog_3_method_6_code 30 = .ok (.iload_n 3, 1) := by decide +kernel
theorem d_Judge_keepFault_31 : decode prog_3_method_6_code 31 = .ok (.putfield 120, 3) := by decide +kernel
theorem d_Judge_keepFault_34 : decode prog_3_method_6_code 34 = .ok (.aload_n 0, 1) := by decide +kernel
theorem d_Judge_keepFault_35 : decode prog_3_method_6_code 35 = .ok (.dup, 1) := by decide +kernel
theorem d_Judge_keepFault_36 : decode prog_3_method_6_code 36 = .ok (.getfield 36, 3) := by decide +kernel
theorem d_Judge_keepFault_39 : decode prog_3_method_6_code 39 = .ok (.iconst 1, 1) := by decide +kernel
theorem d_Judge_keepFault_40 : decode prog_3_method_6_code 40 = .ok (.iadd, 1) := by decide +kernel
theorem d_Judge_keepFault_41 : decode prog_3_method_6_code 41 = .ok (.putfield 36, 3) := by decide +kernel
theorem d_Judge_keepFault_44 : decode prog_3_method_6_code 44 = .ok (.return_, 1) := by decide +kernel
abbrev rm_Judge_keepFault : Room := { frames := 0, cells := 0, slots := 0, locals := 0 }
set_option maxHeartbeats 4000000 in
set_option maxRecDepth 100000 in
theorem c_Judge_keepFault (l : Launch) (D : va_G) (cs : Nat → ClassId) (ad : Nat → Nat) (zt : Nat) (hi : cm_inj ad) (I : Wo) (s : Int) (hs : 0 ≤ s ∧ s < 2147483648) (L : List Ft) (hK : KfI I s L) (hL : L.length ≤ 1000000) (t : Int) (ht : I 36 8 = t) (rule : Int) (a b : Nat) : cm_C l D cs ad zt y_Judge_keepFault ws_Judge_keepFault rm_Judge_keepFault [.ref (ad 36), .int (zi rule), .int (zi (a : Int)), .int (zi (b : Int))] I (mk_pv (fun J => KfI J s (L ++ [(t, rule, a, b)]) ∧ (∀ x y, ¬ (x = 36 ∧ 8 < y) → J x y = I x y))) := by
  refine mk_metv (own := "CanonMaker$Judge") (Ts := wA) hi (Nat.le_refl _) (by decide) rfl (fun w h => List.mem_cons_of_mem _ h) rfl (Nat.le_of_ble_eq_true rfl) [(0, .ref (ad 36)), (1, .int (zi rule)), (2, .int (zi (a : Int))), (3, .int (zi (b : Int)))] rfl ?_
  intro p_ e_ s_ m_ as_ bl_ me_ co_ Q_ X hret
  refine mk_aloadn (nx := 1) X 0 d_Judge_keepFault_0 rfl rfl ?_
  refine mk_get (nx := 4) (v := .int (zi (I 36 9))) X 36 (by decide) (sh_Judge cs ad _) rfl in_Judge 9 (by decide) wd_218 rfl rfl d_Judge_keepFault_1 rfl ?_
  rw [show I 36 9 = (L.length : Int) from hK.1]
  refine mk_aloadn (nx := 5) X 0 d_Judge_keepFault_4 rfl rfl ?_
  refine mk_get (nx := 8) (v := .int (zi (I 36 10))) X 36 (by decide) (sh_Judge cs ad _) rfl in_Judge 10 (by decide) wd_219 rfl rfl d_Judge_keepFault_5 rfl ?_
  rw [show I 36 10 = s from hK.2.1]
  refine mk_icmp_ne (tgt := 34) (nx := 11) X d_Judge_keepFault_8 (by omega) (by omega) (by decide) rfl (fun c8 => ?_) (fun c8 => ?_)
  · skip
    refine mk_aloadn (nx := 35) X 0 d_Judge_keepFault_34 rfl rfl ?_
    refine mk_dup (nx := 36) X d_Judge_keepFault_35 rfl rfl ?_
    refine mk_get (nx := 39) (v := .int (zi (I 36 9))) X 36 (by decide) (sh_Judge cs ad _) rfl in_Judge 9 (by decide) wd_218 rfl rfl d_Judge_keepFault_36 rfl ?_
    rw [show I 36 9 = (L.length : Int) from hK.1]
    refine mk_iconst (nx := 40) X d_Judge_keepFault_39 rfl ?_
    refine mk_iadd (nx := 41) X d_Judge_keepFault_40 rfl ?_
    refine mk_putf (nx := 44) (ty := .int) X t_Judge t_Judge_ok n_Judge 36 (by decide) (sh_Judge cs ad _) rfl in_Judge 9 (by decide) wd_218 rfl rfl (by decide +kernel) rfl rfl (Nat.le_of_ble_eq_true rfl) ((sh_Judge cs ad _).trans rfl) d_Judge_keepFault_41 rfl ?_
    obtain ⟨J1, hJ1⟩ : ∃ W_ : Wo, W_ = up2 I 36 9 ((L.length : Int) + 1) := ⟨_, rfl⟩
    refine mk_same hJ1.symm ?_
    have hJ1s : J1 36 9 = (L.length : Int) + 1 := hJ1 ▸ up2_ss I 36 9 ((L.length : Int) + 1)
    have hJ1o : ∀ a b, (a ≠ 36 ∨ b ≠ 9) → J1 a b = I a b := hJ1 ▸ up2_o I 36 9 ((L.length : Int) + 1)
    exact hret _ _ _ d_Judge_keepFault_44 (by first | exact kf_st hK (by omega) hI hI hI hI hJ1 | exact kf_ns hK (by omega) hJ1)
  · skip
    refine mk_aloadn (nx := 12) X 0 d_Judge_keepFault_11 rfl rfl ?_
    refine mk_aloadn (nx := 13) X 0 d_Judge_keepFault_12 rfl rfl ?_
    refine mk_get (nx := 16) (v := .int (zi (I 36 8))) X 36 (by decide) (sh_Judge cs ad _) rfl in_Judge 8 (by decide) wd_217 rfl rfl d_Judge_keepFault_13 rfl ?_
    rw [show I 36 8 = t from ht]
    refine mk_putf (nx := 19) (ty := .int) X t_Judge t_Judge_ok n_Judge 36 (by decide) (sh_Judge cs ad _) rfl in_Judge 11 (by decide) wd_220 rfl rfl (by decide +kernel) rfl rfl (Nat.le_of_ble_eq_true rfl) ((sh_Judge cs ad _).trans rfl) d_Judge_keepFault_16 rfl ?_
    obtain ⟨J2, hJ2⟩ : ∃ W_ : Wo, W_ = up2 I 36 11 t := ⟨_, rfl⟩
    refine mk_same hJ2.symm ?_
    have hJ2s : J2 36 11 = t := hJ2 ▸ up2_ss I 36 11 t
    have hJ2o : ∀ a b, (a ≠ 36 ∨ b ≠ 11) → J2 a b = I a b := hJ2 ▸ up2_o I 36 11 t
    refine mk_aloadn (nx := 20) X 0 d_Judge_keepFault_19 rfl rfl ?_
    refine mk_iloadn (nx := 21) X 1 d_Judge_keepFault_20 rfl rfl ?_
    refine mk_putf (nx := 24) (ty := .int) X t_Judge t_Judge_ok n_Judge 36 (by decide) (sh_Judge cs ad _) rfl in_Judge 12 (by decide) wd_222 rfl rfl (by decide +kernel) rfl rfl (Nat.le_of_ble_eq_true rfl) ((sh_Judge cs ad _).trans rfl) d_Judge_keepFault_21 rfl ?_
    obtain ⟨J3, hJ3⟩ : ∃ W_ : Wo, W_ = up2 J2 36 12 rule := ⟨_, rfl⟩
    refine mk_same hJ3.symm ?_
    have hJ3s : J3 36 12 = rule := hJ3 ▸ up2_ss J2 36 12 rule
    have hJ3o : ∀ a b, (a ≠ 36 ∨ b ≠ 12) → J3 a b = J2 a b := hJ3 ▸ up2_o J2 36 12 rule
    refine mk_aloadn (nx := 25) X 0 d_Judge_keepFault_24 rfl rfl ?_
    refine mk_iloadn (nx := 26) X 2 d_Judge_keepFault_25 rfl rfl ?_
    refine mk_putf (nx := 29) (ty := .int) X t_Judge t_Judge_ok n_Judge 36 (by decide) (sh_Judge cs ad _) rfl in_Judge 13 (by decide) wd_224 rfl rfl (by decide +kernel) rfl rfl (Nat.le_of_ble_eq_true rfl) ((sh_Judge cs ad _).trans rfl) d_Judge_keepFault_26 rfl ?_
    obtain ⟨J4, hJ4⟩ : ∃ W_ : Wo, W_ = up2 J3 36 13 (a : Int) := ⟨_, rfl⟩
    refine mk_same hJ4.symm ?_
    have hJ4s : J4 36 13 = (a : Int) := hJ4 ▸ up2_ss J3 36 13 (a : Int)
    have hJ4o : ∀ a b, (a ≠ 36 ∨ b ≠ 13) → J4 a b = J3 a b := hJ4 ▸ up2_o J3 36 13 (a : Int)
    refine mk_aloadn (nx := 30) X 0 d_Judge_keepFault_29 rfl rfl ?_
    refine mk_iloadn (nx := 31) X 3 d_Judge_keepFault_30 rfl rfl ?_
    refine mk_putf (nx := 34) (ty := .int) X t_Judge t_Judge_ok n_Judge 36 (by decide) (sh_Judge cs ad _) rfl in_Judge 14 (by decide) wd_226 rfl rfl (by decide +kernel) rfl rfl (Nat.le_of_ble_eq_true rfl) ((sh_Judge cs ad _).trans rfl) d_Judge_keepFault_31 rfl ?_
    obtain ⟨J5, hJ5⟩ : ∃ W_ : Wo, W_ = up2 J4 36 14 (b : Int) := ⟨_, rfl⟩
    refine mk_same hJ5.symm ?_
    have hJ5s : J5 36 14 = (b : Int) := hJ5 ▸ up2_ss J4 36 14 (b : Int)
    have hJ5o : ∀ a b, (a ≠ 36 ∨ b ≠ 14) → J5 a b = J4 a b := hJ5 ▸ up2_o J4 36 14 (b : Int)
    refine mk_aloadn (nx := 35) X 0 d_Judge_keepFault_34 rfl rfl ?_
    refine mk_dup (nx := 36) X d_Judge_keepFault_35 rfl rfl ?_
    refine mk_get (nx := 39) (v := .int (zi (J5 36 9))) X 36 (by decide) (sh_Judge cs ad _) rfl in_Judge 9 (by decide) wd_218 rfl rfl d_Judge_keepFault_36 rfl ?_
    rw [show J5 36 9 = J4 36 9 from hJ5o 36 9 (Or.inr (by decide))]
    rw [show J4 36 9 = J3 36 9 from hJ4o 36 9 (Or.inr (by decide))]
    rw [show J3 36 9 = J2 36 9 from hJ3o 36 9 (Or.inr (by decide))]
    rw [show J2 36 9 = I 36 9 from hJ2o 36 9 (Or.inr (by decide))]
    rw [show I 36 9 = (L.length : Int) from hK.1]
    refine mk_iconst (nx := 40) X d_Judge_keepFault_39 rfl ?_
    refine mk_iadd (nx := 41) X d_Judge_keepFault_40 rfl ?_
    refine mk_putf (nx := 44) (ty := .int) X t_Judge t_Judge_ok n_Judge 36 (by decide) (sh_Judge cs ad _) rfl in_Judge 9 (by decide) wd_218 rfl rfl (by decide +kernel) rfl rfl (Nat.le_of_ble_eq_true rfl) ((sh_Judge cs ad _).trans rfl) d_Judge_keepFault_41 rfl ?_
    obtain ⟨J6, hJ6⟩ : ∃ W_ : Wo, W_ = up2 J5 36 9 ((L.length : Int) + 1) := ⟨_, rfl⟩
    refine mk_same hJ6.symm ?_
    have hJ6s : J6 36 9 = (L.length : Int) + 1 := hJ6 ▸ up2_ss J5 36 9 ((L.length : Int) + 1)
    have hJ6o : ∀ a b, (a ≠ 36 ∨ b ≠ 9) → J6 a b = J5 a b := hJ6 ▸ up2_o J5 36 9 ((L.length : Int) + 1)
    exact hret _ _ _ d_Judge_keepFault_44 (by first | exact kf_st hK (by omega) hJ2 hJ3 hJ4 hJ5 hJ6 | exact kf_ns hK (by omega) hJ6)
