-- CanonMaker$Judge.countFaults(II)I
theorem d_Judge_countFaults_0 : decode prog_3_method_2_code 0 = .ok (.aload_n 0, 1) := by decide +kernel
theorem d_Judge_countFaults_1 : decode prog_3_method_2_code 1 = .ok (.iconst 0, 1) := by decide +kernel
theorem d_Judge_countFaults_2 : decode prog_3_method_2_code 2 = .ok (.putfield 36, 3) := by decide +kernel
theorem d_Judge_countFaults_5 : decode prog_3_method_2_code 5 = .ok (.aload_n 0, 1) := by decide +kernel
theorem d_Judge_countFaults_6 : decode prog_3_method_2_code 6 = .ok (.iload_n 1, 1) := by decide +kernel
theorem d_Judge_countFaults_7 : decode prog_3_method_2_code 7 = .ok (.putfield 40, 3) := by decide +kernel
theorem d_Judge_countFaults_10 : decode prog_3_method_2_code 10 = .ok (.aload_n 0, 1) := by decide +kernel
theorem d_Judge_countFaults_11 : decode prog_3_method_2_code 11 = .ok (.getfield 32, 3) := by decide +kernel
theorem d_Judge_countFaults_14 : decode prog_3_method_2_code 14 = .ok (.getfield 43, 3) := by decide +kernel
theorem d_Judge_countFaults_17 : decode prog_3_method_2_code 17 = .ok (.bipush (-9), 2) := by decide +kernel
theorem d_Judge_countFaults_19 : decode prog_3_method_2_code 19 = .ok (.iand, 1) := by decide +kernel
theorem d_Judge_countFaults_20 : decode prog_3_method_2_code 20 = .ok (.ifCond .ne 7, 3) := by decide +kernel
theorem d_Judge_countFaults_23 : decode prog_3_method_2_code 23 = .ok (.iconst 1, 1) := by decide +kernel
theorem d_Judge_countFaults_24 : decode prog_3_method_2_code 24 = .ok (.goto 4, 3) := by decide +kernel
theorem d_Judge_countFaults_27 : decode prog_3_method_2_code 27 = .ok (.iconst 0, 1) := by decide +kernel
theorem d_Judge_countFaults_28 : decode prog_3_method_2_code 28 = .ok (.istore_n 3, 1) := by decide +kernel
theorem d_Judge_countFaults_29 : decode prog_3_method_2_code 29 = .ok (.iconst 0, 1) := by decide +kernel
theorem d_Judge_countFaults_30 : decode prog_3_method_2_code 30 = .ok (.istore 4, 2) := by decide +kernel
theorem d_Judge_countFaults_32 : decode prog_3_method_2_code 32 = .ok (.iload_n 3, 1) := by decide +kernel
theorem d_Judge_countFaults_33 : decode prog_3_method_2_code 33 = .ok (.ifCond .ne 134, 3) := by decide +kernel
theorem d_Judge_countFaults_36 : decode prog_3_method_2_code 36 = .ok (.iload 4, 2) := by decide +kernel
theorem d_Judge_countFaults_38 : decode prog_3_method_2_code 38 = .ok (.aload_n 0, 1) := by decide +kernel
theorem d_Judge_countFaults_39 : decode prog_3_method_2_code 39 = .ok (.getfield 28, 3) := by decide +kernel
theorem d_Judge_countFaults_42 : decode prog_3_method_2_code 42 = .ok (.getfield 48, 3) := by decide +kernel
theorem d_Judge_countFaults_45 : decode prog_3_method_2_code 45 = .ok (.if_icmp .ge 122, 3) := by decide +kernel
theorem d_Judge_countFaults_48 : decode prog_3_method_2_code 48 = .ok (.aload_n 0, 1) := by decide +kernel
theorem d_Judge_countFaults_49 : decode prog_3_method_2_code 49 = .ok (.getfield 36, 3) := by decide +kernel
theorem d_Judge_countFaults_52 : decode prog_3_method_2_code 52 = .ok (.aload_n 0, 1) := by decide +kernel
theorem d_Judge_countFaults_53 : decode prog_3_method_2_code 53 = .ok (.getfield 40, 3) := by decide +kernel
theorem d_Judge_countFaults_56 : decode prog_3_method_2_code 56 = .ok (.if_icmp .gt 111, 3) := by decide +kernel
theorem d_Judge_countFaults_59 : decode prog_3_method_2_code 59 = .ok (.aload_n 0, 1) := by decide +kernel
theorem d_Judge_countFaults_60 : decode prog_3_method_2_code 60 = .ok (.getfield 28, 3) := by decide +kernel
theorem d_Judge_countFaults_63 : decode prog_3_method_2_code 63 = .ok (.getfield 53, 3) := by decide +kernel
theorem d_Judge_countFaults_66 : decode prog_3_method_2_code 66 = .ok (.iload 4, 2) := by decide +kernel
theorem d_Judge_countFaults_68 : decode prog_3_method_2_code 68 = .ok (.iaload, 1) := by decide +kernel
theorem d_Judge_countFaults_69 : decode prog_3_method_2_code 69 = .ok (.iload_n 2, 1) := by decide +kernel
theorem d_Judge_countFaults_70 : decode prog_3_method_2_code 70 = .ok (.iand, 1) := by decide +kernel
theorem d_Judge_countFaults_71 : decode prog_3_method_2_code 71 = .ok (.ifCond .ne 6, 3) := by decide +kernel
theorem d_Judge_countFaults_74 : decode prog_3_method_2_code 74 = .ok (.goto 87, 3) := by decide +kernel
theorem d_Judge_countFaults_77 : decode prog_3_method_2_code 77 = .ok (.aload_n 0, 1) := by decide +kernel
theorem d_Judge_countFaults_78 : decode prog_3_method_2_code 78 = .ok (.iload 4, 2) := by decide +kernel
theorem d_Judge_countFaults_80 : decode prog_3_method_2_code 80 = .ok (.invokevirtual 56, 3) := by decide +kernel
theorem d_Judge_countFaults_83 : decode prog_3_method_2_code 83 = .ok (.getstatic 60, 3) := by decide +kernel
theorem d_Judge_countFaults_86 : decode prog_3_method_2_code 86 = .ok (.astore 5, 2) := by decide +kernel
theorem d_Judge_countFaults_88 : decode prog_3_method_2_code 88 = .ok (.aload 5, 2) := by decide +kernel
theorem d_Judge_countFaults_90 : decode prog_3_method_2_code 90 = .ok (.arraylength, 1) := by decide +kernel
theorem d_Judge_countFaults_91 : decode prog_3_method_2_code 91 = .ok (.istore 6, 2) := by decide +kernel
theorem d_Judge_countFaults_93 : decode prog_3_method_2_code 93 = .ok (.iconst 0, 1) := by decide +kernel
theorem d_Judge_countFaults_94 : decode prog_3_method_2_code 94 = .ok (.istore 7, 2) := by decide +kernel
theorem d_Judge_countFaults_96 : decode prog_3_method_2_code 96 = .ok (.iload 7, 2) := by decide +kernel
theorem d_Judge_countFaults_98 : decode prog_3_method_2_code 98 = .ok (.iload 6, 2) := by decide +kernel
theorem d_Judge_countFaults_100 : decode prog_3_method_2_code 100 = .ok (.if_icmp .ge 61, 3) := by decide +kernel
theorem d_Judge_countFaults_103 : decode prog_3_method_2_code 103 = .ok (.aload 5, 2) := by decide +kernel
theorem d_Judge_countFaults_105 : decode prog_3_method_2_code 105 = .ok (.iload 7, 2) := by decide +kernel
theorem d_Judge_countFaults_107 : decode prog_3_method_2_code 107 = .ok (.iaload, 1) := by decide +kernel
theorem d_Judge_countFaults_108 : decode prog_3_method_2_code 108 = .ok (.istore 8, 2) := by decide +kernel
theorem d_Judge_countFaults_110 : decode prog_3_method_2_code 110 = .ok (.aload_n 0, 1) := by decide +kernel
theorem d_Judge_countFaults_111 : decode prog_3_method_2_code 111 = .ok (.getfield 32, 3) := by decide +kernel
theorem d_Judge_countFaults_114 : decode prog_3_method_2_code 114 = .ok (.getfield 43, 3) := by decide +kernel
theorem d_Judge_countFaults_117 : decode prog_3_method_2_code 117 = .ok (.iload 8, 2) := by decide +kernel
theorem d_Judge_countFaults_119 : decode prog_3_method_2_code 119 = .ok (.iand, 1) := by decide +kernel
theorem d_Judge_countFaults_120 : decode prog_3_method_2_code 120 = .ok (.sipush 131, 3) := by decide +kernel
theorem d_Judge_countFaults_123 : decode prog_3_method_2_code 123 = .ok (.iand, 1) := by decide +kernel
theorem d_Judge_countFaults_124 : decode prog_3_method_2_code 124 = .ok (.ifCond .eq 12, 3) := by decide +kernel
theorem d_Judge_countFaults_127 : decode prog_3_method_2_code 127 = .ok (.aload_n 0, 1) := by decide +kernel
theorem d_Judge_countFaults_128 : decode prog_3_method_2_code 128 = .ok (.iload 8, 2) := by decide +kernel
theorem d_Judge_countFaults_130 : decode prog_3_method_2_code 130 = .ok (.invokevirtual 63, 3) := by decide +kernel
theorem d_Judge_countFaults_133 : decode prog_3_method_2_code 133 = .ok (.goto 22, 3) := by decide +kernel
theorem d_Judge_countFaults_136 : decode prog_3_method_2_code 136 = .ok (.aload_n 0, 1) := by decide +kernel
theorem d_Judge_countFaults_137 : decode prog_3_method_2_code 137 = .ok (.getfield 32, 3) := by decide +kernel
theorem d_Judge_countFaults_140 : decode prog_3_method_2_code 140 = .ok (.getfield 43, 3) := by decide +kernel
theorem d_Judge_countFaults_143 : decode prog_3_method_2_code 143 = .ok (.iload 8, 2) := by decide +kernel
theorem d_Judge_countFaults_145 : decode prog_3_method_2_code 145 = .ok (.iand, 1) := by decide +kernel
theorem d_Judge_countFaults_146 : decode prog_3_method_2_code 146 = .ok (.ifCond .eq 9, 3) := by decide +kernel
theorem d_Judge_countFaults_149 : decode prog_3_method_2_code 149 = .ok (.aload_n 0, 1) := by decide +kernel
theorem d_Judge_countFaults_150 : decode prog_3_method_2_code 150 = .ok (.iload 8, 2) := by decide +kernel
theorem d_Judge_countFaults_152 : decode prog_3_method_2_code 152 = .ok (.invokevirtual 66, 3) := by decide +kernel
theorem d_Judge_countFaults_155 : decode prog_3_method_2_code 155 = .ok (.iinc 7 1, 3) := by decide +kernel
theorem d_Judge_countFaults_158 : decode prog_3_method_2_code 158 = .ok (.goto (-62), 3) := by decide +kernel
theorem d_Judge_countFaults_161 : decode prog_3_method_2_code 161 = .ok (.iinc 4 1, 3) := by decide +kernel
theorem d_Judge_countFaults_164 : decode prog_3_method_2_code 164 = .ok (.goto (-132), 3) := by decide +kernel
theorem d_Judge_countFaults_167 : decode prog_3_method_2_code 167 = .ok (.aload_n 0, 1) := by decide +kernel
theorem d_Judge_countFaults_168 : decode prog_3_method_2_code 168 = .ok (.getfield 36, 3) := by decide +kernel
theorem d_Judge_countFaults_171 : decode prog_3_method_2_code 171 = .ok (.ireturn, 1) := by decide +kernel
abbrev rm_Judge_countFaults : Room := { frames := 5, cells := 0, slots := 0, locals := 118 }
set_option maxHeartbeats 4000000 in
set_option maxRecDepth 100000 in
theorem c_Judge_countFaults (l : Launch) (D : va_G) (cs : Nat → ClassId) (ad : Nat → Nat) (zt : Nat) (hi : cm_inj ad) (c I : Wo) (hw : wfN c) (hS : wfS c) (hV : wfV c) (hF : ScF c I) (hT : ScT c I) (hn : NTL c) (hM : MomA c I (nJ I)) (hN : 0 ≤ I 6 5 ∧ I 6 5 ≤ 96) (hPl : PlA c I) (hBd : BdE c I) (s : Int) (hs : 0 ≤ s ∧ s < 2147483648) (nts : Int) : cm_C l D cs ad zt y_Judge_countFaults ws_Judge_countFaults rm_Judge_countFaults [.ref (ad 36), .int (zi s), .int (zi nts)] I (mk_pi (fun r J => cfP c I s nts r J)) := by
  refine mk_meti (own := "CanonMaker$Judge") (Ts := wA) hi (Nat.le_refl _) (by decide) rfl (fun w h => List.mem_cons_of_mem _ h) rfl (Nat.le_of_ble_eq_true rfl) [(0, .ref (ad 36)), (1, .int (zi s)), (2, .int (zi nts))] rfl ?_
  intro p_ e_ s_ m_ as_ bl_ me_ co_ Q_ X hret
  obtain ⟨hlo, hsc, hbt, hru, hrd, hst⟩ := id hS
  have hnJ : (nJ I : Int) = I 6 5 := by unfold nJ; omega
  have L32 : ∀ nf : Nat, ∀ (m : Nat) (id : Int) (J : Wo), (m ≤ nJ I) → ((id = 1 ∧ ziand (c 0 5) (-9) = 0) ∨ (id = 0 ∧ ¬ ziand (c 0 5) (-9) = 0)) → (KfI J s (FN c I nts m)) → (∀ a b, (a < 36 ∨ 41 < a) → J a b = I a b) → nJ I - m < nf → mk_A p_ l e_ rm_Judge_countFaults s_ m_ as_ bl_ me_ co_ Q_ 9 D cmcl (cm_sh cs ad) 48 48 ad J [(0, .ref (ad 36)), (1, .int (zi s)), (2, .int (zi nts)), (3, .int (zi id)), (4, .int (zi (m : Int)))] 32 [] := by
    intro nf
    induction nf with
    | zero => intro m id J hmN hid hK hfr hn; exact absurd hn (Nat.not_lt_zero _)
    | succ nf ih32 =>
      intro m id J hmN hid hK hfr hn32
      have hfn0 := FN_len (c := c) (J := I) (nts := nts) m
      have h9 := hK.1
      have L96 : ∀ nf : Nat, ∀ (q : Nat) (ln : Int) (Jc : Wo), (q ≤ 7) → (ln = 7) → (m < nJ I) → (¬ ziand (I 9 m) nts = 0) → (HrA c Jc (I 8 m)) → (KfI Jc s (FN c I nts m ++ frs c (I 8 m) (tji q))) → (∀ a b, (a < 36 ∨ 41 < a) → Jc a b = I a b) → 7 - q < nf → mk_A p_ l e_ rm_Judge_countFaults s_ m_ as_ bl_ me_ co_ Q_ 9 D cmcl (cm_sh cs ad) 48 48 ad Jc [(0, .ref (ad 36)), (1, .int (zi s)), (2, .int (zi nts)), (3, .int (zi id)), (4, .int (zi (m : Int))), (5, .ref zt), (6, .int (zi ln)), (7, .int (zi (q : Int)))] 96 [] := by
        intro nf
        induction nf with
        | zero => intro q ln Jc hq hln hm2 hti hHc hKc hfc hn; exact absurd hn (Nat.not_lt_zero _)
        | succ nf ih96 =>
          intro q ln Jc hq hln hm2 hti hHc hKc hfc hn96
          have hBc : BdE c Jc := BdE_fr hBd (fun b => hfc 5 b (by omega))
          have hfn := FN_len (c := c) (J := I) (nts := nts) m
          have hfq := frs_len (c := c) (t := (I 8 m)) (tji q)
          refine mk_iload (nx := 98) X 7 d_Judge_countFaults_96 rfl rfl ?_
          refine mk_iload (nx := 100) X 6 d_Judge_countFaults_98 rfl rfl ?_
          refine mk_icmp_ge (tgt := 161) (nx := 103) X d_Judge_countFaults_100 (by omega) (by omega) (by decide) rfl (fun c100 => ?_) (fun c100 => ?_)
          · skip
            refine mk_iinc (nx := 164) X 4 [(4, .int (zi ((m : Int) + 1))), (0, .ref (ad 36)), (1, .int (zi s)), (2, .int (zi nts)), (3, .int (zi id)), (5, .ref zt), (6, .int (zi ln)), (7, .int (zi (q : Int)))] d_Judge_countFaults_161 rfl (by decide) rfl rfl ?_
            refine mk_goto (tgt := 32) X d_Judge_countFaults_164 (by decide) ?_
            refine mk_lv [1, 2, 3, 4, 0] rfl ?_
            exact ih32 (m + 1) id Jc (by omega) (by omega) (by first | (rw [FN_y hti]; have e := hKc; rw [show q = 7 by omega] at e; exact e) | (rw [FN_z (by omega)]; exact hK) | exact Kf_0 hJc hJc) (by first | exact fun a b x => (hJco a b (by omega)).trans (hJco a b (by omega)) | exact hfr | exact hfc) (by omega)
          · skip
            refine mk_aload (nx := 105) X 5 d_Judge_countFaults_103 rfl rfl ?_
            refine mk_iload (nx := 107) X 7 d_Judge_countFaults_105 rfl rfl ?_
            refine mk_tald (nx := 108) (z := cmZ zt) (j := q) X (List.mem_singleton.mpr rfl) (by omega) (show (q : Int) < ((7 : Nat) : Int) by omega) (show (7 : Nat) < 2147483648 by decide) rfl d_Judge_countFaults_107 rfl ?_
            refine mk_nm (fun rl hrl => ?_)
            have hrl2 : rl = cm_told q := hrl
            have hq7 : q < 7 := by omega
            have htb := told_b hq7
            have hov := one_v hru hq7
            rw [← hrl2] at hov htb
            refine mk_istore (nx := 110) X [(8, .int (zi rl)), (0, .ref (ad 36)), (1, .int (zi s)), (2, .int (zi nts)), (3, .int (zi id)), (4, .int (zi (m : Int))), (5, .ref zt), (6, .int (zi ln)), (7, .int (zi (q : Int)))] d_Judge_countFaults_108 (by decide) rfl rfl ?_
            refine mk_aloadn (nx := 111) X 1 d_Judge_countFaults_110 rfl rfl ?_
            refine mk_get (nx := 114) (v := .ref (ad 5)) X 36 (by decide) (sh_Judge cs ad _) rfl in_Judge 1 (by decide) wd_210 rfl rfl d_Judge_countFaults_111 rfl ?_
            refine mk_get (nx := 117) (v := .int (zi (Jc 5 4))) X 5 (by decide) (sh_Bounds cs ad _) rfl in_Bounds 4 (by decide) wd_100 rfl rfl d_Judge_countFaults_114 rfl ?_
            rw [show Jc 5 4 = c 0 5 from hBc.2.2.2.2]
            refine mk_iload (nx := 119) X 0 d_Judge_countFaults_117 rfl rfl ?_
            refine mk_iand (nx := 120) X d_Judge_countFaults_119 rfl ?_
            refine mk_sipush (nx := 123) X d_Judge_countFaults_120 (by decide) rfl ?_
            refine mk_iand (nx := 124) X d_Judge_countFaults_123 rfl ?_
            refine mk_if_eq (tgt := 136) (nx := 127) X d_Judge_countFaults_124 (by exact zi_rng _) (by decide) rfl (fun c124 => ?_) (fun c124 => ?_)
            · skip
              refine mk_aloadn (nx := 137) X 1 d_Judge_countFaults_136 rfl rfl ?_
              refine mk_get (nx := 140) (v := .ref (ad 5)) X 36 (by decide) (sh_Judge cs ad _) rfl in_Judge 1 (by decide) wd_210 rfl rfl d_Judge_countFaults_137 rfl ?_
              refine mk_get (nx := 143) (v := .int (zi (Jc 5 4))) X 5 (by decide) (sh_Bounds cs ad _) rfl in_Bounds 4 (by decide) wd_100 rfl rfl d_Judge_countFaults_140 rfl ?_
              rw [show Jc 5 4 = c 0 5 from hBc.2.2.2.2]
              refine mk_iload (nx := 145) X 0 d_Judge_countFaults_143 rfl rfl ?_
              refine mk_iand (nx := 146) X d_Judge_countFaults_145 rfl ?_
              refine mk_if_eq (tgt := 155) (nx := 149) X d_Judge_countFaults_146 (by exact zi_rng _) (by decide) rfl (fun c146 => ?_) (fun c146 => ?_)
              · skip
                refine mk_iinc (nx := 158) X 8 [(7, .int (zi ((q : Int) + 1))), (8, .int (zi rl)), (0, .ref (ad 36)), (1, .int (zi s)), (2, .int (zi nts)), (3, .int (zi id)), (4, .int (zi (m : Int))), (5, .ref zt), (6, .int (zi ln))] d_Judge_countFaults_155 rfl (by decide) rfl rfl ?_
                refine mk_goto (tgt := 96) X d_Judge_countFaults_158 (by decide) ?_
                refine mk_lv [2, 3, 4, 5, 6, 7, 8, 0] rfl ?_
                exact ih96 (q + 1) ln Jc (by omega) (by first | exact hln | exact hln2) (by omega) (by first | exact hti | omega) (by first | exact hJH.1 | exact HrA_fr hHc (fun a b x => hJA.2 a b x) | exact hHc) (by first | (rw [show frs c (I 8 m) (tji 0) = [] from rfl, List.append_nil]; exact Kf_fr (fun b x => hJH.2 36 b (by omega) (by omega)) hK) | (rw [frs_ty (by omega) (by rw [← hrl2]; first | omega | exact hov1), ← List.append_assoc, ← hrl2]; exact hJA.1) | (rw [frs_tn (by omega) (by rw [← hrl2]; omega)]; exact hKc)) (by first | exact fun a b x => (hJH.2 a b (by omega) (by omega)).trans (hfr a b x) | exact fun a b x => (hJA.2 a b (by omega)).trans (hfc a b x) | exact hfc) (by omega)
              · skip
                have hov3 : rl = 4 ∨ rl = 16 ∨ rl = 32 ∨ rl = 64 := by
                  by_cases z : rl = 1 ∨ rl = 2 ∨ rl = 128
                  · exact absurd (hov.mpr ⟨by omega, z⟩) (by omega)
                  · omega
                refine mk_aloadn (nx := 150) X 1 d_Judge_countFaults_149 rfl rfl ?_
                refine mk_iload (nx := 152) X 0 d_Judge_countFaults_150 rfl rfl ?_
                refine mk_callVv (nx := 155) (n := 1) (As := [.int (zi rl)]) (rest := []) X 36 (by decide) (sh_Judge cs ad _) rfl (c_Judge_judgePairs l D cs ad zt hi c Jc hw hS hV (I 8 m) hHc hBc s hs (FN c I nts m ++ frs c (I 8 m) (tji q)) hKc (by simp only [List.length_append]; have hx := (told_r hq7).2.1; omega) hn (hM.1 m hm2).1 rl hov3) (g_Judge_judgePairs wd_504) rfl ⟨rfl, rfl⟩ (by decide +kernel) ⟨by decide, by decide⟩ rfl (Nat.le_of_ble_eq_true rfl) rfl d_Judge_countFaults_152 rfl ?_
                intro JA hJA
                refine mk_iinc (nx := 158) X 8 [(7, .int (zi ((q : Int) + 1))), (8, .int (zi rl)), (0, .ref (ad 36)), (1, .int (zi s)), (2, .int (zi nts)), (3, .int (zi id)), (4, .int (zi (m : Int))), (5, .ref zt), (6, .int (zi ln))] d_Judge_countFaults_155 rfl (by decide) rfl rfl ?_
                refine mk_goto (tgt := 96) X d_Judge_countFaults_158 (by decide) ?_
                refine mk_lv [2, 3, 4, 5, 6, 7, 8, 0] rfl ?_
                exact ih96 (q + 1) ln JA (by omega) (by first | exact hln | exact hln2) (by omega) (by first | exact hti | omega) (by first | exact hJH.1 | exact HrA_fr hHc (fun a b x => hJA.2 a b x) | exact hHc) (by first | (rw [show frs c (I 8 m) (tji 0) = [] from rfl, List.append_nil]; exact Kf_fr (fun b x => hJH.2 36 b (by omega) (by omega)) hK) | (rw [frs_ty (by omega) (by rw [← hrl2]; first | omega | exact hov1), ← List.append_assoc, ← hrl2]; exact hJA.1) | (rw [frs_tn (by omega) (by rw [← hrl2]; omega)]; exact hKc)) (by first | exact fun a b x => (hJH.2 a b (by omega) (by omega)).trans (hfr a b x) | exact fun a b x => (hJA.2 a b (by omega)).trans (hfc a b x) | exact hfc) (by omega)
            · skip
              have hov1 : ¬ ziand (c 0 5) rl = 0 := (hov.mp (by omega)).1
              have hov2 := (hov.mp (by omega)).2
              refine mk_aloadn (nx := 128) X 1 d_Judge_countFaults_127 rfl rfl ?_
              refine mk_iload (nx := 130) X 0 d_Judge_countFaults_128 rfl rfl ?_
              refine mk_callVv (nx := 133) (n := 1) (As := [.int (zi rl)]) (rest := []) X 36 (by decide) (sh_Judge cs ad _) rfl (c_Judge_judgeEach l D cs ad zt hi c Jc hw hS hV (I 8 m) hHc hBc s hs (FN c I nts m ++ frs c (I 8 m) (tji q)) hKc (by simp only [List.length_append]; have hx := (told_r hq7).2.1; omega) rl hov2) (g_Judge_judgeEach wd_481) rfl ⟨rfl, rfl⟩ (by decide +kernel) ⟨by decide, by decide⟩ rfl (Nat.le_of_ble_eq_true rfl) rfl d_Judge_countFaults_130 rfl ?_
              intro JA hJA
              refine mk_goto (tgt := 155) X d_Judge_countFaults_133 (by decide) ?_
              refine mk_iinc (nx := 158) X 8 [(7, .int (zi ((q : Int) + 1))), (8, .int (zi rl)), (0, .ref (ad 36)), (1, .int (zi s)), (2, .int (zi nts)), (3, .int (zi id)), (4, .int (zi (m : Int))), (5, .ref zt), (6, .int (zi ln))] d_Judge_countFaults_155 rfl (by decide) rfl rfl ?_
              refine mk_goto (tgt := 96) X d_Judge_countFaults_158 (by decide) ?_
              refine mk_lv [2, 3, 4, 5, 6, 7, 8, 0] rfl ?_
              exact ih96 (q + 1) ln JA (by omega) (by first | exact hln | exact hln2) (by omega) (by first | exact hti | omega) (by first | exact hJH.1 | exact HrA_fr hHc (fun a b x => hJA.2 a b x) | exact hHc) (by first | (rw [show frs c (I 8 m) (tji 0) = [] from rfl, List.append_nil]; exact Kf_fr (fun b x => hJH.2 36 b (by omega) (by omega)) hK) | (rw [frs_ty (by omega) (by rw [← hrl2]; first | omega | exact hov1), ← List.append_assoc, ← hrl2]; exact hJA.1) | (rw [frs_tn (by omega) (by rw [← hrl2]; omega)]; exact hKc)) (by first | exact fun a b x => (hJH.2 a b (by omega) (by omega)).trans (hfr a b x) | exact fun a b x => (hJA.2 a b (by omega)).trans (hfc a b x) | exact hfc) (by omega)
      refine mk_iloadn (nx := 33) X 3 d_Judge_countFaults_32 rfl rfl ?_
      refine mk_if_ne (tgt := 167) (nx := 36) X d_Judge_countFaults_33 (by omega) (by decide) rfl (fun c33 => ?_) (fun c33 => ?_)
      · skip
        refine mk_aloadn (nx := 168) X 0 d_Judge_countFaults_167 rfl rfl ?_
        refine mk_get (nx := 171) (v := .int (zi (J 36 9))) X 36 (by decide) (sh_Judge cs ad _) rfl in_Judge 9 (by decide) wd_218 rfl rfl d_Judge_countFaults_168 rfl ?_
        exact hret _ _ _ _ d_Judge_countFaults_171 (by first | exact cf_end hs.1 (by omega) hfr hK hmN (by omega) | exact cf_idle hs.1 hfr (by have e := hK; rw [FN_idle hru (by omega)] at e; exact e) (FN_idle hru (by omega) _))
      · skip
        refine mk_iload (nx := 38) X 4 d_Judge_countFaults_36 rfl rfl ?_
        refine mk_aloadn (nx := 39) X 0 d_Judge_countFaults_38 rfl rfl ?_
        refine mk_get (nx := 42) (v := .ref (ad 6)) X 36 (by decide) (sh_Judge cs ad _) rfl in_Judge 0 (by decide) wd_209 rfl rfl d_Judge_countFaults_39 rfl ?_
        refine mk_get (nx := 45) (v := .int (zi (J 6 5))) X 6 (by decide) (sh_Score cs ad _) rfl in_Score 5 (by decide) wd_188 rfl rfl d_Judge_countFaults_42 rfl ?_
        rw [show J 6 5 = I 6 5 from (hfr 6 5 (by omega))]
        refine mk_icmp_ge (tgt := 167) (nx := 48) X d_Judge_countFaults_45 (by omega) (by omega) (by decide) rfl (fun c45 => ?_) (fun c45 => ?_)
        · skip
          refine mk_aloadn (nx := 168) X 0 d_Judge_countFaults_167 rfl rfl ?_
          refine mk_get (nx := 171) (v := .int (zi (J 36 9))) X 36 (by decide) (sh_Judge cs ad _) rfl in_Judge 9 (by decide) wd_218 rfl rfl d_Judge_countFaults_168 rfl ?_
          exact hret _ _ _ _ d_Judge_countFaults_171 (by first | exact cf_end hs.1 (by omega) hfr hK hmN (by omega) | exact cf_idle hs.1 hfr (by have e := hK; rw [FN_idle hru (by omega)] at e; exact e) (FN_idle hru (by omega) _))
        · skip
          refine mk_aloadn (nx := 49) X 0 d_Judge_countFaults_48 rfl rfl ?_
          refine mk_get (nx := 52) (v := .int (zi (J 36 9))) X 36 (by decide) (sh_Judge cs ad _) rfl in_Judge 9 (by decide) wd_218 rfl rfl d_Judge_countFaults_49 rfl ?_
          refine mk_aloadn (nx := 53) X 0 d_Judge_countFaults_52 rfl rfl ?_
          refine mk_get (nx := 56) (v := .int (zi (J 36 10))) X 36 (by decide) (sh_Judge cs ad _) rfl in_Judge 10 (by decide) wd_219 rfl rfl d_Judge_countFaults_53 rfl ?_
          rw [show J 36 10 = s from hK.2.1]
          refine mk_icmp_gt (tgt := 167) (nx := 59) X d_Judge_countFaults_56 (by omega) (by omega) (by decide) rfl (fun c56 => ?_) (fun c56 => ?_)
          · skip
            refine mk_aloadn (nx := 168) X 0 d_Judge_countFaults_167 rfl rfl ?_
            refine mk_get (nx := 171) (v := .int (zi (J 36 9))) X 36 (by decide) (sh_Judge cs ad _) rfl in_Judge 9 (by decide) wd_218 rfl rfl d_Judge_countFaults_168 rfl ?_
            exact hret _ _ _ _ d_Judge_countFaults_171 (by first | exact cf_end hs.1 (by omega) hfr hK hmN (by omega) | exact cf_idle hs.1 hfr (by have e := hK; rw [FN_idle hru (by omega)] at e; exact e) (FN_idle hru (by omega) _))
          · skip
            refine mk_aloadn (nx := 60) X 0 d_Judge_countFaults_59 rfl rfl ?_
            refine mk_get (nx := 63) (v := .ref (ad 6)) X 36 (by decide) (sh_Judge cs ad _) rfl in_Judge 0 (by decide) wd_209 rfl rfl d_Judge_countFaults_60 rfl ?_
            refine mk_get (nx := 66) (v := .ref (ad 9)) X 6 (by decide) (sh_Score cs ad _) rfl in_Score 2 (by decide) wd_183 rfl rfl d_Judge_countFaults_63 rfl ?_
            refine mk_iload (nx := 68) X 4 d_Judge_countFaults_66 rfl rfl ?_
            refine mk_iald (nx := 69) (j := m) X 9 0 (by decide) (sh_touched cs ad _) rfl (by omega) (by omega) (by decide) rfl d_Judge_countFaults_68 rfl ?_
            rw [show J 9 m = I 9 m from (hfr 9 m (by omega))]
            refine mk_iloadn (nx := 70) X 2 d_Judge_countFaults_69 rfl rfl ?_
            refine mk_iand (nx := 71) X d_Judge_countFaults_70 rfl ?_
            refine mk_if_ne (tgt := 77) (nx := 74) X d_Judge_countFaults_71 (by exact zi_rng _) (by decide) rfl (fun c71 => ?_) (fun c71 => ?_)
            · skip
              refine mk_aloadn (nx := 78) X 0 d_Judge_countFaults_77 rfl rfl ?_
              refine mk_iload (nx := 80) X 4 d_Judge_countFaults_78 rfl rfl ?_
              refine mk_callVv (nx := 83) (n := 1) (As := [.int (zi (m : Int))]) (rest := []) X 36 (by decide) (sh_Judge cs ad _) rfl (c_Judge_hear l D cs ad zt hi c J hw hS hV (ScF_fr (fun a b x y _ => hfr a b (by omega)) hF) (ScT_fr (fun a b x y => hfr a b (by omega)) hT) (PlA_fr hPl (fun a b x y => hfr a b (by omega))) (by rw [hfr 6 5 (by omega)]; exact hN) m (by unfold nJ; rw [hfr 6 5 (by omega)]; omega)) (g_Judge_hear wd_475) rfl ⟨rfl, rfl⟩ (by decide +kernel) ⟨by decide, by decide⟩ rfl (Nat.le_of_ble_eq_true rfl) rfl d_Judge_countFaults_80 rfl ?_
              intro JH hJH
              rw [hfr 8 m (by omega)] at hJH
              refine mk_gets (nx := 86) (z := cmZ zt) X (List.mem_singleton.mpr rfl) ⟨rfl, rfl, rfl⟩ d_Judge_countFaults_83 rfl ?_
              refine mk_astore (nx := 88) X [(5, .ref zt), (0, .ref (ad 36)), (1, .int (zi s)), (2, .int (zi nts)), (3, .int (zi id)), (4, .int (zi (m : Int)))] d_Judge_countFaults_86 (by decide) rfl rfl ?_
              refine mk_aload (nx := 90) X 0 d_Judge_countFaults_88 rfl rfl ?_
              refine mk_tlen (nx := 91) (z := cmZ zt) X (List.mem_singleton.mpr rfl) d_Judge_countFaults_90 rfl ?_
              refine mk_nm (fun ln hln => ?_)
              have hln2 : ln = 7 := hln
              refine mk_istore (nx := 93) X [(6, .int (zi ln)), (5, .ref zt), (0, .ref (ad 36)), (1, .int (zi s)), (2, .int (zi nts)), (3, .int (zi id)), (4, .int (zi (m : Int)))] d_Judge_countFaults_91 (by decide) rfl rfl ?_
              refine mk_iconst (nx := 94) X d_Judge_countFaults_93 rfl ?_
              refine mk_istore (nx := 96) X [(7, .int (zi 0)), (6, .int (zi ln)), (5, .ref zt), (0, .ref (ad 36)), (1, .int (zi s)), (2, .int (zi nts)), (3, .int (zi id)), (4, .int (zi (m : Int)))] d_Judge_countFaults_94 (by decide) rfl rfl ?_
              refine mk_lv [3, 4, 5, 6, 7, 2, 1, 0] rfl ?_
              exact L96 _ 0 ln JH (by omega) (by first | exact hln | exact hln2) (by omega) (by first | exact hti | omega) (by first | exact hJH.1 | exact HrA_fr hHc (fun a b x => hJA.2 a b x) | exact hHc) (by first | (rw [show frs c (I 8 m) (tji 0) = [] from rfl, List.append_nil]; exact Kf_fr (fun b x => hJH.2 36 b (by omega) (by omega)) hK) | (rw [frs_ty (by omega) (by rw [← hrl2]; first | omega | exact hov1), ← List.append_assoc, ← hrl2]; exact hJA.1) | (rw [frs_tn (by omega) (by rw [← hrl2]; omega)]; exact hKc)) (by first | exact fun a b x => (hJH.2 a b (by omega) (by omega)).trans (hfr a b x) | exact fun a b x => (hJA.2 a b (by omega)).trans (hfc a b x) | exact hfc) (Nat.lt_succ_self _)
            · skip
              refine mk_goto (tgt := 161) X d_Judge_countFaults_74 (by decide) ?_
              refine mk_iinc (nx := 164) X 4 [(4, .int (zi ((m : Int) + 1))), (0, .ref (ad 36)), (1, .int (zi s)), (2, .int (zi nts)), (3, .int (zi id))] d_Judge_countFaults_161 rfl (by decide) rfl rfl ?_
              refine mk_goto (tgt := 32) X d_Judge_countFaults_164 (by decide) ?_
              refine mk_lv [1, 2, 3, 4, 0] rfl ?_
              exact ih32 (m + 1) id J (by omega) (by omega) (by first | (rw [FN_y hti]; have e := hKc; rw [show q = 7 by omega] at e; exact e) | (rw [FN_z (by omega)]; exact hK) | exact Kf_0 hJ hJ) (by first | exact fun a b x => (hJo a b (by omega)).trans (hJo a b (by omega)) | exact hfr | exact hfc) (by omega)
  refine mk_aloadn (nx := 1) X 0 d_Judge_countFaults_0 rfl rfl ?_
  refine mk_iconst (nx := 2) X d_Judge_countFaults_1 rfl ?_
  refine mk_putf (nx := 5) (ty := .int) X t_Judge t_Judge_ok n_Judge 36 (by decide) (sh_Judge cs ad _) rfl in_Judge 9 (by decide) wd_218 rfl rfl (by decide +kernel) rfl rfl (Nat.le_of_ble_eq_true rfl) ((sh_Judge cs ad _).trans rfl) d_Judge_countFaults_2 rfl ?_
  obtain ⟨J1, hJ1⟩ : ∃ W_ : Wo, W_ = up2 I 36 9 0 := ⟨_, rfl⟩
  refine mk_same hJ1.symm ?_
  have hJ1s : J1 36 9 = 0 := hJ1 ▸ up2_ss I 36 9 0
  have hJ1o : ∀ a b, (a ≠ 36 ∨ b ≠ 9) → J1 a b = I a b := hJ1 ▸ up2_o I 36 9 0
  refine mk_aloadn (nx := 6) X 0 d_Judge_countFaults_5 rfl rfl ?_
  refine mk_iloadn (nx := 7) X 1 d_Judge_countFaults_6 rfl rfl ?_
  refine mk_putf (nx := 10) (ty := .int) X t_Judge t_Judge_ok n_Judge 36 (by decide) (sh_Judge cs ad _) rfl in_Judge 10 (by decide) wd_219 rfl rfl (by decide +kernel) rfl rfl (Nat.le_of_ble_eq_true rfl) ((sh_Judge cs ad _).trans rfl) d_Judge_countFaults_7 rfl ?_
  obtain ⟨J2, hJ2⟩ : ∃ W_ : Wo, W_ = up2 J1 36 10 s := ⟨_, rfl⟩
  refine mk_same hJ2.symm ?_
  have hJ2s : J2 36 10 = s := hJ2 ▸ up2_ss J1 36 10 s
  have hJ2o : ∀ a b, (a ≠ 36 ∨ b ≠ 10) → J2 a b = J1 a b := hJ2 ▸ up2_o J1 36 10 s
  refine mk_aloadn (nx := 11) X 0 d_Judge_countFaults_10 rfl rfl ?_
  refine mk_get (nx := 14) (v := .ref (ad 5)) X 36 (by decide) (sh_Judge cs ad _) rfl in_Judge 1 (by decide) wd_210 rfl rfl d_Judge_countFaults_11 rfl ?_
  refine mk_get (nx := 17) (v := .int (zi (J2 5 4))) X 5 (by decide) (sh_Bounds cs ad _) rfl in_Bounds 4 (by decide) wd_100 rfl rfl d_Judge_countFaults_14 rfl ?_
  rw [show J2 5 4 = J1 5 4 from hJ2o 5 4 (Or.inl (by decide))]
  rw [show J1 5 4 = I 5 4 from hJ1o 5 4 (Or.inl (by decide))]
  rw [show I 5 4 = c 0 5 from hBd.2.2.2.2]
  refine mk_bipush (nx := 19) X d_Judge_countFaults_17 (by decide) rfl ?_
  refine mk_iand (nx := 20) X d_Judge_countFaults_19 rfl ?_
  refine mk_if_ne (tgt := 27) (nx := 23) X d_Judge_countFaults_20 (by exact zi_rng _) (by decide) rfl (fun c20 => ?_) (fun c20 => ?_)
  · skip
    refine mk_iconst (nx := 28) X d_Judge_countFaults_27 rfl ?_
    refine mk_istoren (nx := 29) X [(3, .int (zi 0)), (0, .ref (ad 36)), (1, .int (zi s)), (2, .int (zi nts))] d_Judge_countFaults_28 (by decide) rfl rfl ?_
    refine mk_iconst (nx := 30) X d_Judge_countFaults_29 rfl ?_
    refine mk_istore (nx := 32) X [(4, .int (zi 0)), (3, .int (zi 0)), (0, .ref (ad 36)), (1, .int (zi s)), (2, .int (zi nts))] d_Judge_countFaults_30 (by decide) rfl rfl ?_
    refine mk_lv [2, 3, 4, 1, 0] rfl ?_
    exact L32 _ 0 0 J2 (by omega) (by omega) (by first | (rw [FN_y hti]; have e := hKc; rw [show q = 7 by omega] at e; exact e) | (rw [FN_z (by omega)]; exact hK) | exact Kf_0 hJ1 hJ2) (by first | exact fun a b x => (hJ2o a b (by omega)).trans (hJ1o a b (by omega)) | exact hfr | exact hfc) (Nat.lt_succ_self _)
  · skip
    refine mk_iconst (nx := 24) X d_Judge_countFaults_23 rfl ?_
    refine mk_goto (tgt := 28) X d_Judge_countFaults_24 (by decide) ?_
    refine mk_istoren (nx := 29) X [(3, .int (zi 1)), (0, .ref (ad 36)), (1, .int (zi s)), (2, .int (zi nts))] d_Judge_countFaults_28 (by decide) rfl rfl ?_
    refine mk_iconst (nx := 30) X d_Judge_countFaults_29 rfl ?_
    refine mk_istore (nx := 32) X [(4, .int (zi 0)), (3, .int (zi 1)), (0, .ref (ad 36)), (1, .int (zi s)), (2, .int (zi nts))] d_Judge_countFaults_30 (by decide) rfl rfl ?_
    refine mk_lv [2, 3, 4, 1, 0] rfl ?_
    exact L32 _ 0 1 J2 (by omega) (by omega) (by first | (rw [FN_y hti]; have e := hKc; rw [show q = 7 by omega] at e; exact e) | (rw [FN_z (by omega)]; exact hK) | exact Kf_0 hJ1 hJ2) (by first | exact fun a b x => (hJ2o a b (by omega)).trans (hJ1o a b (by omega)) | exact hfr | exact hfc) (Nat.lt_succ_self _)
