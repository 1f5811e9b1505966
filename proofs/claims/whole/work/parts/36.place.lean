-- CanonMaker$Score.placeVoices(I)V
theorem d_Score_placeVoices_0 : decode prog_5_method_5_code 0 = .ok (.iconst 0, 1) := by decide +kernel
theorem d_Score_placeVoices_1 : decode prog_5_method_5_code 1 = .ok (.istore_n 2, 1) := by decide +kernel
theorem d_Score_placeVoices_2 : decode prog_5_method_5_code 2 = .ok (.iload_n 2, 1) := by decide +kernel
theorem d_Score_placeVoices_3 : decode prog_5_method_5_code 3 = .ok (.aload_n 0, 1) := by decide +kernel
theorem d_Score_placeVoices_4 : decode prog_5_method_5_code 4 = .ok (.getfield 39, 3) := by decide +kernel
theorem d_Score_placeVoices_7 : decode prog_5_method_5_code 7 = .ok (.if_icmp .ge 159, 3) := by decide +kernel
theorem d_Score_placeVoices_10 : decode prog_5_method_5_code 10 = .ok (.aload_n 0, 1) := by decide +kernel
theorem d_Score_placeVoices_11 : decode prog_5_method_5_code 11 = .ok (.getfield 21, 3) := by decide +kernel
theorem d_Score_placeVoices_14 : decode prog_5_method_5_code 14 = .ok (.iload_n 2, 1) := by decide +kernel
theorem d_Score_placeVoices_15 : decode prog_5_method_5_code 15 = .ok (.iconst 0, 1) := by decide +kernel
theorem d_Score_placeVoices_16 : decode prog_5_method_5_code 16 = .ok (.iastore, 1) := by decide +kernel
theorem d_Score_placeVoices_17 : decode prog_5_method_5_code 17 = .ok (.aload_n 0, 1) := by decide +kernel
theorem d_Score_placeVoices_18 : decode prog_5_method_5_code 18 = .ok (.getfield 27, 3) := by decide +kernel
theorem d_Score_placeVoices_21 : decode prog_5_method_5_code 21 = .ok (.iload_n 2, 1) := by decide +kernel
theorem d_Score_placeVoices_22 : decode prog_5_method_5_code 22 = .ok (.iconst 0, 1) := by decide +kernel
theorem d_Score_placeVoices_23 : decode prog_5_method_5_code 23 = .ok (.iastore, 1) := by decide +kernel
theorem d_Score_placeVoices_24 : decode prog_5_method_5_code 24 = .ok (.iconst 0, 1) := by decide +kernel
theorem d_Score_placeVoices_25 : decode prog_5_method_5_code 25 = .ok (.istore_n 3, 1) := by decide +kernel
theorem d_Score_placeVoices_26 : decode prog_5_method_5_code 26 = .ok (.iload_n 3, 1) := by decide +kernel
theorem d_Score_placeVoices_27 : decode prog_5_method_5_code 27 = .ok (.iconst 4, 1) := by decide +kernel
theorem d_Score_placeVoices_28 : decode prog_5_method_5_code 28 = .ok (.if_icmp .ge 132, 3) := by decide +kernel
theorem d_Score_placeVoices_31 : decode prog_5_method_5_code 31 = .ok (.aload_n 0, 1) := by decide +kernel
theorem d_Score_placeVoices_32 : decode prog_5_method_5_code 32 = .ok (.getfield 11, 3) := by decide +kernel
theorem d_Score_placeVoices_35 : decode prog_5_method_5_code 35 = .ok (.iload_n 3, 1) := by decide +kernel
theorem d_Score_placeVoices_36 : decode prog_5_method_5_code 36 = .ok (.aaload, 1) := by decide +kernel
theorem d_Score_placeVoices_37 : decode prog_5_method_5_code 37 = .ok (.astore 4, 2) := by decide +kernel
theorem d_Score_placeVoices_39 : decode prog_5_method_5_code 39 = .ok (.aload 4, 2) := by decide +kernel
theorem d_Score_placeVoices_41 : decode prog_5_method_5_code 41 = .ok (.getfield 31, 3) := by decide +kernel
theorem d_Score_placeVoices_44 : decode prog_5_method_5_code 44 = .ok (.ifCond .eq 17, 3) := by decide +kernel
theorem d_Score_placeVoices_47 : decode prog_5_method_5_code 47 = .ok (.aload 4, 2) := by decide +kernel
theorem d_Score_placeVoices_49 : decode prog_5_method_5_code 49 = .ok (.aload_n 0, 1) := by decide +kernel
theorem d_Score_placeVoices_50 : decode prog_5_method_5_code 50 = .ok (.getfield 17, 3) := by decide +kernel
theorem d_Score_placeVoices_53 : decode prog_5_method_5_code 53 = .ok (.iload_n 2, 1) := by decide +kernel
theorem d_Score_placeVoices_54 : decode prog_5_method_5_code 54 = .ok (.iaload, 1) := by decide +kernel
theorem d_Score_placeVoices_55 : decode prog_5_method_5_code 55 = .ok (.invokevirtual 55, 3) := by decide +kernel
theorem d_Score_placeVoices_58 : decode prog_5_method_5_code 58 = .ok (.goto 4, 3) := by decide +kernel
theorem d_Score_placeVoices_61 : decode prog_5_method_5_code 61 = .ok (.iconst (-1), 1) := by decide +kernel
theorem d_Score_placeVoices_62 : decode prog_5_method_5_code 62 = .ok (.istore 5, 2) := by decide +kernel
theorem d_Score_placeVoices_64 : decode prog_5_method_5_code 64 = .ok (.iload 5, 2) := by decide +kernel
theorem d_Score_placeVoices_66 : decode prog_5_method_5_code 66 = .ok (.iconst (-1), 1) := by decide +kernel
theorem d_Score_placeVoices_67 : decode prog_5_method_5_code 67 = .ok (.if_icmp .eq 20, 3) := by decide +kernel
theorem d_Score_placeVoices_70 : decode prog_5_method_5_code 70 = .ok (.aload 4, 2) := by decide +kernel
theorem d_Score_placeVoices_72 : decode prog_5_method_5_code 72 = .ok (.getfield 44, 3) := by decide +kernel
theorem d_Score_placeVoices_75 : decode prog_5_method_5_code 75 = .ok (.iload 5, 2) := by decide +kernel
theorem d_Score_placeVoices_77 : decode prog_5_method_5_code 77 = .ok (.iaload, 1) := by decide +kernel
theorem d_Score_placeVoices_78 : decode prog_5_method_5_code 78 = .ok (.sipush 1000, 3) := by decide +kernel
theorem d_Score_placeVoices_81 : decode prog_5_method_5_code 81 = .ok (.if_icmp .ne 6, 3) := by decide +kernel
theorem d_Score_placeVoices_84 : decode prog_5_method_5_code 84 = .ok (.iconst (-1), 1) := by decide +kernel
theorem d_Score_placeVoices_85 : decode prog_5_method_5_code 85 = .ok (.istore 5, 2) := by decide +kernel
theorem d_Score_placeVoices_87 : decode prog_5_method_5_code 87 = .ok (.aload_n 0, 1) := by decide +kernel
theorem d_Score_placeVoices_88 : decode prog_5_method_5_code 88 = .ok (.getfield 24, 3) := by decide +kernel
theorem d_Score_placeVoices_91 : decode prog_5_method_5_code 91 = .ok (.iload_n 2, 1) := by decide +kernel
theorem d_Score_placeVoices_92 : decode prog_5_method_5_code 92 = .ok (.iconst 4, 1) := by decide +kernel
theorem d_Score_placeVoices_93 : decode prog_5_method_5_code 93 = .ok (.imul, 1) := by decide +kernel
theorem d_Score_placeVoices_94 : decode prog_5_method_5_code 94 = .ok (.iload_n 3, 1) := by decide +kernel
theorem d_Score_placeVoices_95 : decode prog_5_method_5_code 95 = .ok (.iadd, 1) := by decide +kernel
theorem d_Score_placeVoices_96 : decode prog_5_method_5_code 96 = .ok (.iload 5, 2) := by decide +kernel
theorem d_Score_placeVoices_98 : decode prog_5_method_5_code 98 = .ok (.iastore, 1) := by decide +kernel
theorem d_Score_placeVoices_99 : decode prog_5_method_5_code 99 = .ok (.iload 5, 2) := by decide +kernel
theorem d_Score_placeVoices_101 : decode prog_5_method_5_code 101 = .ok (.iconst (-1), 1) := by decide +kernel
theorem d_Score_placeVoices_102 : decode prog_5_method_5_code 102 = .ok (.if_icmp .eq 52, 3) := by decide +kernel
theorem d_Score_placeVoices_105 : decode prog_5_method_5_code 105 = .ok (.aload_n 0, 1) := by decide +kernel
theorem d_Score_placeVoices_106 : decode prog_5_method_5_code 106 = .ok (.getfield 21, 3) := by decide +kernel
theorem d_Score_placeVoices_109 : decode prog_5_method_5_code 109 = .ok (.iload_n 2, 1) := by decide +kernel
theorem d_Score_placeVoices_110 : decode prog_5_method_5_code 110 = .ok (.dup2, 1) := by decide +kernel
theorem d_Score_placeVoices_111 : decode prog_5_method_5_code 111 = .ok (.iaload, 1) := by decide +kernel
theorem d_Score_placeVoices_112 : decode prog_5_method_5_code 112 = .ok (.aload 4, 2) := by decide +kernel
theorem d_Score_placeVoices_114 : decode prog_5_method_5_code 114 = .ok (.iload 5, 2) := by decide +kernel
theorem d_Score_placeVoices_116 : decode prog_5_method_5_code 116 = .ok (.iload_n 1, 1) := by decide +kernel
theorem d_Score_placeVoices_117 : decode prog_5_method_5_code 117 = .ok (.invokestatic 58, 3) := by decide +kernel
theorem d_Score_placeVoices_120 : decode prog_5_method_5_code 120 = .ok (.ior, 1) := by decide +kernel
theorem d_Score_placeVoices_121 : decode prog_5_method_5_code 121 = .ok (.iastore, 1) := by decide +kernel
theorem d_Score_placeVoices_122 : decode prog_5_method_5_code 122 = .ok (.aload_n 0, 1) := by decide +kernel
theorem d_Score_placeVoices_123 : decode prog_5_method_5_code 123 = .ok (.getfield 27, 3) := by decide +kernel
theorem d_Score_placeVoices_126 : decode prog_5_method_5_code 126 = .ok (.iload_n 2, 1) := by decide +kernel
theorem d_Score_placeVoices_127 : decode prog_5_method_5_code 127 = .ok (.dup2, 1) := by decide +kernel
theorem d_Score_placeVoices_128 : decode prog_5_method_5_code 128 = .ok (.iaload, 1) := by decide +kernel
theorem d_Score_placeVoices_129 : decode prog_5_method_5_code 129 = .ok (.aload 4, 2) := by decide +kernel
theorem d_Score_placeVoices_131 : decode prog_5_method_5_code 131 = .ok (.iload 5, 2) := by decide +kernel
theorem d_Score_placeVoices_133 : decode prog_5_method_5_code 133 = .ok (.invokevirtual 47, 3) := by decide +kernel
theorem d_Score_placeVoices_136 : decode prog_5_method_5_code 136 = .ok (.aload_n 0, 1) := by decide +kernel
theorem d_Score_placeVoices_137 : decode prog_5_method_5_code 137 = .ok (.getfield 17, 3) := by decide +kernel
theorem d_Score_placeVoices_140 : decode prog_5_method_5_code 140 = .ok (.iload_n 2, 1) := by decide +kernel
theorem d_Score_placeVoices_141 : decode prog_5_method_5_code 141 = .ok (.iaload, 1) := by decide +kernel
theorem d_Score_placeVoices_142 : decode prog_5_method_5_code 142 = .ok (.if_icmp .ne 9, 3) := by decide +kernel
theorem d_Score_placeVoices_145 : decode prog_5_method_5_code 145 = .ok (.iconst 1, 1) := by decide +kernel
theorem d_Score_placeVoices_146 : decode prog_5_method_5_code 146 = .ok (.iload_n 3, 1) := by decide +kernel
theorem d_Score_placeVoices_147 : decode prog_5_method_5_code 147 = .ok (.ishl, 1) := by decide +kernel
theorem d_Score_placeVoices_148 : decode prog_5_method_5_code 148 = .ok (.goto 4, 3) := by decide +kernel
theorem d_Score_placeVoices_151 : decode prog_5_method_5_code 151 = .ok (.iconst 0, 1) := by decide +kernel
theorem d_Score_placeVoices_152 : decode prog_5_method_5_code 152 = .ok (.ior, 1) := by decide +kernel
theorem d_Score_placeVoices_153 : decode prog_5_method_5_code 153 = .ok (.iastore, 1) := by decide +kernel
theorem d_Score_placeVoices_154 : decode prog_5_method_5_code 154 = .ok (.iinc 3 1, 3) := by decide +kernel
theorem d_Score_placeVoices_157 : decode prog_5_method_5_code 157 = .ok (.goto (-131), 3) := by decide +kernel
theorem d_Score_placeVoices_160 : decode prog_5_method_5_code 160 = .ok (.iinc 2 1, 3) := by decide +kernel
theorem d_Score_placeVoices_163 : decode prog_5_method_5_code 163 = .ok (.goto (-161), 3) := by decide +kernel
theorem d_Score_placeVoices_166 : decode prog_5_method_5_code 166 = .ok (.return_, 1) := by decide +kernel
abbrev rm_Score_placeVoices : Room := { frames := 3, cells := 0, slots := 0, locals := 67 }
set_option maxHeartbeats 4000000 in
set_option maxRecDepth 100000 in
theorem c_Score_placeVoices (l : Launch) (D : va_G) (cs : Nat → ClassId) (ad : Nat → Nat) (zt : Nat) (hi : cm_inj ad) (c I : Wo) (hw : wfN c) (hS : wfS c) (hV : wfV c) (hF : ScF c I) (hT : ScT c I) (hn : NTL c) (hM : MomA c I (nJ I)) (hN : 0 ≤ I 6 5 ∧ I 6 5 ≤ 96) : cm_C l D cs ad zt y_Score_placeVoices ws_Score_placeVoices rm_Score_placeVoices [.ref (ad 6), .int (zi (fsr c))] I (mk_pv (fun J => PlA c J ∧ (∀ a b, ¬ a = 9 → ¬ a = 10 → ¬ a = 11 → J a b = I a b))) := by
  refine mk_metv (own := "CanonMaker$Score") (Ts := wA) hi (Nat.le_refl _) (by decide) rfl (fun w h => List.mem_cons_of_mem _ h) rfl (Nat.le_of_ble_eq_true rfl) [(0, .ref (ad 6)), (1, .int (zi (fsr c)))] rfl ?_
  intro p_ e_ s_ m_ as_ bl_ me_ co_ Q_ X hret
  have hcn := cn_e hw
  have heb := an_end_b hw hS hV
  have hnJ : (nJ I : Int) = I 6 5 := by unfold nJ; omega
  have L2 : ∀ nf : Nat, ∀ (m : Nat) (Ja : Wo), (m ≤ nJ I) → (∀ a b, ¬ a = 9 → ¬ a = 10 → ¬ a = 11 → Ja a b = I a b) → (∀ q, q < m → PlV c Ja q 4) → nJ I - m < nf → mk_A p_ l e_ rm_Score_placeVoices s_ m_ as_ bl_ me_ co_ Q_ 6 D cmcl (cm_sh cs ad) 48 48 ad Ja [(0, .ref (ad 6)), (1, .int (zi (fsr c))), (2, .int (zi (m : Int)))] 2 [] := by
    intro nf
    induction nf with
    | zero => intro m Ja hm hfa hPa hn; exact absurd hn (Nat.not_lt_zero _)
    | succ nf ih2 =>
      intro m Ja hm hfa hPa hn2
      have L26 : ∀ nf : Nat, ∀ (v : Nat) (Jb : Wo), (v ≤ 4) → (m < nJ I) → (∀ a b, ¬ a = 9 → ¬ a = 10 → ¬ a = 11 → Jb a b = I a b) → (∀ q, q < m → PlV c Jb q 4) → (PlV c Jb m v) → 4 - v < nf → mk_A p_ l e_ rm_Score_placeVoices s_ m_ as_ bl_ me_ co_ Q_ 6 D cmcl (cm_sh cs ad) 48 48 ad Jb [(0, .ref (ad 6)), (1, .int (zi (fsr c))), (2, .int (zi (m : Int))), (3, .int (zi (v : Int)))] 26 [] := by
        intro nf
        induction nf with
        | zero => intro v Jb hv hmN hfb hPb hQ hn; exact absurd hn (Nat.not_lt_zero _)
        | succ nf ih26 =>
          intro v Jb hv hmN hfb hPb hQ hn26
          have hFJ : ScF c Jb := ScF_fr (fun a b x y _ => hfb a b (by omega) (by omega) (by omega)) hF
          have hTJ : ScT c Jb := ScT_fr (fun a b x y => hfb a b (by omega) (by omega) (by omega)) hT
          have h8 : Jb 8 m = I 8 m := hfb 8 m (by omega) (by omega) (by omega)
          have hmb := (hM.1 m hmN).1
          have L87 : ∀ (pl : Int), (v < 4) → (pl = plC c (I 8 m) v) → mk_A p_ l e_ rm_Score_placeVoices s_ m_ as_ bl_ me_ co_ Q_ 6 D cmcl (cm_sh cs ad) 48 48 ad Jb [(0, .ref (ad 6)), (1, .int (zi (fsr c))), (2, .int (zi (m : Int))), (3, .int (zi (v : Int))), (4, .ref (ad (12 + 6 * v))), (5, .int (zi pl))] 87 [] := by
            intro pl hv4 hpl
            have hpn := fun z => plC_no hw hV hv4 (t := I 8 m) z
            have hpo := fun z => plC_on hw hV hv4 (t := I 8 m) z
            refine mk_aloadn (nx := 88) X 0 d_Score_placeVoices_87 rfl rfl ?_
            refine mk_get (nx := 91) (v := .ref (ad 10)) X 6 (by decide) (sh_Score cs ad _) rfl in_Score 3 (by decide) wd_184 rfl rfl d_Score_placeVoices_88 rfl ?_
            refine mk_iloadn (nx := 92) X 2 d_Score_placeVoices_91 rfl rfl ?_
            refine mk_iconst (nx := 93) X d_Score_placeVoices_92 rfl ?_
            refine mk_imul (nx := 94) X d_Score_placeVoices_93 rfl ?_
            refine mk_iloadn (nx := 95) X 3 d_Score_placeVoices_94 rfl rfl ?_
            refine mk_iadd (nx := 96) X d_Score_placeVoices_95 rfl ?_
            refine mk_iload (nx := 98) X 5 d_Score_placeVoices_96 rfl rfl ?_
            refine mk_iast (nx := 99) (j := ((m * 4) + v)) X 10 0 (by decide) (sh_places cs ad) rfl (by omega) (by omega) (by decide) (by omega) d_Score_placeVoices_98 rfl ?_
            obtain ⟨J1, hJ1⟩ : ∃ W_ : Wo, W_ = up2 Jb 10 ((m * 4) + v) pl := ⟨_, rfl⟩
            refine mk_same hJ1.symm ?_
            have hJ1s : J1 10 ((m * 4) + v) = pl := hJ1 ▸ up2_ss Jb 10 ((m * 4) + v) pl
            have hJ1o : ∀ a b, (a ≠ 10 ∨ b ≠ ((m * 4) + v)) → J1 a b = Jb a b := hJ1 ▸ up2_o Jb 10 ((m * 4) + v) pl
            refine mk_iload (nx := 101) X 5 d_Score_placeVoices_99 rfl rfl ?_
            refine mk_iconst (nx := 102) X d_Score_placeVoices_101 rfl ?_
            refine mk_icmp_eq (tgt := 154) (nx := 105) X d_Score_placeVoices_102 (by omega) (by omega) (by decide) rfl (fun c102 => ?_) (fun c102 => ?_)
            · skip
              refine mk_iinc (nx := 157) X 3 [(3, .int (zi ((v : Int) + 1))), (0, .ref (ad 6)), (1, .int (zi (fsr c))), (2, .int (zi (m : Int))), (4, .ref (ad (12 + 6 * v))), (5, .int (zi pl))] d_Score_placeVoices_154 rfl (by decide) rfl rfl ?_
              refine mk_goto (tgt := 26) X d_Score_placeVoices_157 (by decide) ?_
              refine mk_lv [1, 2, 3, 0] rfl ?_
              exact ih26 (v + 1) J1 (by omega) (by omega) (by first | exact fun a b x y z => (hJ1o a b (by omega)).trans ((hJbo a b (by omega)).trans ((hJ1o a b (by omega)).trans (hfb a b x y z))) | exact fun a b x y z => (hJ1o a b (by omega)).trans (hfb a b x y z) | exact fun a b x y z => (hJ1o a b (by omega)).trans ((hJbo a b (by omega)).trans (hfa a b x y z))) (by first | exact fun q hq => pl_fr (hPb q hq) ((hJ1o 8 q (by omega)).trans ((hJbo 8 q (by omega)).trans (hJ1o 8 q (by omega)))) ((hJ1o 9 q (by omega)).trans ((hJbo 9 q (by omega)).trans (hJ1o 9 q (by omega)))) (fun u hu => (hJ1o 10 _ (by omega)).trans ((hJbo 10 _ (by omega)).trans (hJ1o 10 _ (by omega)))) ((hJ1o 11 q (by omega)).trans ((hJbo 11 q (by omega)).trans (hJ1o 11 q (by omega)))) | exact fun q hq => pl_fr (hPb q hq) (hJ1o 8 q (by omega)) (hJ1o 9 q (by omega)) (fun u hu => hJ1o 10 _ (by omega)) (hJ1o 11 q (by omega)) | exact fun q hq => pl_fr (hPa q hq) ((hJ1o 8 q (by omega)).trans (hJbo 8 q (by omega))) ((hJ1o 9 q (by omega)).trans (hJbo 9 q (by omega))) (fun u hu => (hJ1o 10 _ (by omega)).trans (hJbo 10 _ (by omega))) ((hJ1o 11 q (by omega)).trans (hJbo 11 q (by omega)))) (by first | exact pl_n hQ (by rw [h8]; exact hpn (by omega)) (by rw [hJ1, show pl = -1 by omega]) | exact pl_y h8 hv4 hQ hJb hJb hJ1 hpd (by omega) hr117 (by first | rw [if_pos (hsk.mp (by omega))] | rw [if_neg (fun z => absurd (hsk.mpr z) (by omega))]) | exact pl_0 hJb hJ1) (by omega)
            · skip
              have hP1o := hJ1o
              obtain ⟨hon, hpd, hpe, hpb, hpc⟩ := hpo (by omega)
              obtain ⟨p, rfl⟩ : ∃ p : Nat, pl = (p : Int) := ⟨pl.toNat, by omega⟩
              have hcf := ctm_f hw hS hV hv4 hon (hn v hv4) (show p < cn c by omega)
              have hsk : ctm c v p = I 8 m ↔ dSk c (I 8 m) v = 1 := by
                unfold dSk
                rw [if_pos hon, ctm_iff hw hS hV hv4 hon (hn v hv4) hmb (by omega), csk_iff, show (cpl c v (I 8 m)).toNat = p by omega]
                constructor
                · rintro ⟨z1, z2⟩
                  exact ⟨by omega, z2, by rw [show p = (cpl c v (I 8 m)).toNat by omega]; exact hpc⟩
                · rintro ⟨z1, z2, _⟩
                  exact ⟨by omega, z2⟩
              refine mk_aloadn (nx := 106) X 0 d_Score_placeVoices_105 rfl rfl ?_
              refine mk_get (nx := 109) (v := .ref (ad 9)) X 6 (by decide) (sh_Score cs ad _) rfl in_Score 2 (by decide) wd_182 rfl rfl d_Score_placeVoices_106 rfl ?_
              refine mk_iloadn (nx := 110) X 2 d_Score_placeVoices_109 rfl rfl ?_
              refine mk_dup2 (nx := 111) X d_Score_placeVoices_110 rfl rfl rfl ?_
              refine mk_iald (nx := 112) (j := m) X 9 0 (by decide) (sh_touched cs ad _) rfl (by omega) (by omega) (by decide) rfl d_Score_placeVoices_111 rfl ?_
              rw [show J1 9 m = Jb 9 m from hJ1o 9 m (Or.inl (by decide))]
              refine mk_aload (nx := 114) X 4 d_Score_placeVoices_112 rfl rfl ?_
              refine mk_iload (nx := 116) X 5 d_Score_placeVoices_114 rfl rfl ?_
              refine mk_iloadn (nx := 117) X 1 d_Score_placeVoices_116 rfl rfl ?_
              refine mk_callSi (nx := 120) (n := 3) (As := [.ref (ad (12 + 6 * v)), .int (zi (p : Int)), .int (zi (fsr c))]) (rest := [.int (zi (Jb 9 m)), .int (zi (m : Int)), .ref (ad 9)]) X (c_Score_notesAround l D cs ad zt hi c J1 hw hS hV v (by omega) (LnF_fr (fun b => hJ1o _ b (by omega)) (hFJ v (by omega)).1) (LnB_fr (fun b => ⟨hJ1o _ b (by omega), hJ1o _ b (by omega)⟩) (hFJ v (by omega)).2.1) (LnN_fr (fun b => ⟨hJ1o _ b (by omega), hJ1o _ b (by omega)⟩) (hFJ v (by omega)).2.2) p (by omega)) (g_Score_notesAround wd_467) rfl ⟨rfl, rfl⟩ (by decide +kernel) ⟨by decide, by decide⟩ rfl (Nat.le_of_ble_eq_true rfl) rfl d_Score_placeVoices_117 rfl ?_
              intro r117 J2 hJ2
              obtain ⟨rfl, hr117⟩ := hJ2
              refine mk_ior (nx := 121) X d_Score_placeVoices_120 rfl ?_
              refine mk_iast (nx := 122) (j := m) X 9 0 (by decide) (sh_touched cs ad) rfl (by omega) (by omega) (by decide) rfl d_Score_placeVoices_121 rfl ?_
              obtain ⟨J3, hJ3⟩ : ∃ W_ : Wo, W_ = up2 J1 9 m (zior (Jb 9 m) r117) := ⟨_, rfl⟩
              refine mk_same hJ3.symm ?_
              have hJ3s : J3 9 m = zior (Jb 9 m) r117 := hJ3 ▸ up2_ss J1 9 m (zior (Jb 9 m) r117)
              have hJ3o : ∀ a b, (a ≠ 9 ∨ b ≠ m) → J3 a b = J1 a b := hJ3 ▸ up2_o J1 9 m (zior (Jb 9 m) r117)
              refine mk_aloadn (nx := 123) X 0 d_Score_placeVoices_122 rfl rfl ?_
              refine mk_get (nx := 126) (v := .ref (ad 11)) X 6 (by decide) (sh_Score cs ad _) rfl in_Score 4 (by decide) wd_186 rfl rfl d_Score_placeVoices_123 rfl ?_
              refine mk_iloadn (nx := 127) X 2 d_Score_placeVoices_126 rfl rfl ?_
              refine mk_dup2 (nx := 128) X d_Score_placeVoices_127 rfl rfl rfl ?_
              refine mk_iald (nx := 129) (j := m) X 11 0 (by decide) (sh_strikes cs ad _) rfl (by omega) (by omega) (by decide) rfl d_Score_placeVoices_128 rfl ?_
              rw [show J3 11 m = J1 11 m from hJ3o 11 m (Or.inl (by decide))]
              rw [show J1 11 m = Jb 11 m from hJ1o 11 m (Or.inl (by decide))]
              rw [show Jb 11 m = bsm c (I 8 m) v from (hQ.2.1.trans (by rw [h8]))]
              refine mk_aload (nx := 131) X 4 d_Score_placeVoices_129 rfl rfl ?_
              refine mk_iload (nx := 133) X 5 d_Score_placeVoices_131 rfl rfl ?_
              refine mk_callVi (nx := 136) (n := 1) (As := [.int (zi (p : Int))]) (rest := [.int (zi (bsm c (I 8 m) v)), .int (zi (m : Int)), .ref (ad 11)]) X (12 + 6 * v) (by omega) (sh_Line cs ad (show v < 4 by omega) _) rfl (c_Line_timeOf l D cs ad zt hi c J3 hw hS hV v (by omega) (LnF_fr (fun b => (hJ3o _ b (by omega)).trans (hP1o _ b (by omega))) (hFJ v (by omega)).1) (LnB_fr (fun b => ⟨(hJ3o _ b (by omega)).trans (hP1o _ b (by omega)), (hJ3o _ b (by omega)).trans (hP1o _ b (by omega))⟩) (hFJ v (by omega)).2.1) p (by omega)) (g_Line_timeOf wd_453) rfl ⟨rfl, rfl⟩ (by decide +kernel) ⟨by decide, by decide⟩ rfl (Nat.le_of_ble_eq_true rfl) rfl d_Score_placeVoices_133 rfl ?_
              intro r133 J4 hJ4
              obtain ⟨rfl, rfl⟩ := hJ4
              refine mk_aloadn (nx := 137) X 0 d_Score_placeVoices_136 rfl rfl ?_
              refine mk_get (nx := 140) (v := .ref (ad 8)) X 6 (by decide) (sh_Score cs ad _) rfl in_Score 1 (by decide) wd_180 rfl rfl d_Score_placeVoices_137 rfl ?_
              refine mk_iloadn (nx := 141) X 2 d_Score_placeVoices_140 rfl rfl ?_
              refine mk_iald (nx := 142) (j := m) X 8 0 (by decide) (sh_moments cs ad _) rfl (by omega) (by omega) (by decide) rfl d_Score_placeVoices_141 rfl ?_
              rw [show J3 8 m = J1 8 m from hJ3o 8 m (Or.inl (by decide))]
              rw [show J1 8 m = Jb 8 m from hJ1o 8 m (Or.inl (by decide))]
              rw [show Jb 8 m = I 8 m from h8]
              refine mk_icmp_ne (tgt := 151) (nx := 145) X d_Score_placeVoices_142 (by omega) (by omega) (by decide) rfl (fun c142 => ?_) (fun c142 => ?_)
              · skip
                refine mk_iconst (nx := 152) X d_Score_placeVoices_151 rfl ?_
                refine mk_ior (nx := 153) X d_Score_placeVoices_152 rfl ?_
                refine mk_iast (nx := 154) (j := m) X 11 0 (by decide) (sh_strikes cs ad) rfl (by omega) (by omega) (by decide) rfl d_Score_placeVoices_153 rfl ?_
                obtain ⟨J5, hJ5⟩ : ∃ W_ : Wo, W_ = up2 J3 11 m (zior (bsm c (I 8 m) v) 0) := ⟨_, rfl⟩
                refine mk_same hJ5.symm ?_
                have hJ5s : J5 11 m = zior (bsm c (I 8 m) v) 0 := hJ5 ▸ up2_ss J3 11 m (zior (bsm c (I 8 m) v) 0)
                have hJ5o : ∀ a b, (a ≠ 11 ∨ b ≠ m) → J5 a b = J3 a b := hJ5 ▸ up2_o J3 11 m (zior (bsm c (I 8 m) v) 0)
                refine mk_iinc (nx := 157) X 3 [(3, .int (zi ((v : Int) + 1))), (0, .ref (ad 6)), (1, .int (zi (fsr c))), (2, .int (zi (m : Int))), (4, .ref (ad (12 + 6 * v))), (5, .int (zi (p : Int)))] d_Score_placeVoices_154 rfl (by decide) rfl rfl ?_
                refine mk_goto (tgt := 26) X d_Score_placeVoices_157 (by decide) ?_
                refine mk_lv [1, 2, 3, 0] rfl ?_
                exact ih26 (v + 1) J5 (by omega) (by omega) (by first | exact fun a b x y z => (hJ5o a b (by omega)).trans ((hJ3o a b (by omega)).trans ((hJ1o a b (by omega)).trans (hfb a b x y z))) | exact fun a b x y z => (hJ5o a b (by omega)).trans (hfb a b x y z) | exact fun a b x y z => (hJ5o a b (by omega)).trans ((hJ3o a b (by omega)).trans (hfa a b x y z))) (by first | exact fun q hq => pl_fr (hPb q hq) ((hJ5o 8 q (by omega)).trans ((hJ3o 8 q (by omega)).trans (hJ1o 8 q (by omega)))) ((hJ5o 9 q (by omega)).trans ((hJ3o 9 q (by omega)).trans (hJ1o 9 q (by omega)))) (fun u hu => (hJ5o 10 _ (by omega)).trans ((hJ3o 10 _ (by omega)).trans (hJ1o 10 _ (by omega)))) ((hJ5o 11 q (by omega)).trans ((hJ3o 11 q (by omega)).trans (hJ1o 11 q (by omega)))) | exact fun q hq => pl_fr (hPb q hq) (hJ5o 8 q (by omega)) (hJ5o 9 q (by omega)) (fun u hu => hJ5o 10 _ (by omega)) (hJ5o 11 q (by omega)) | exact fun q hq => pl_fr (hPa q hq) ((hJ5o 8 q (by omega)).trans (hJ3o 8 q (by omega))) ((hJ5o 9 q (by omega)).trans (hJ3o 9 q (by omega))) (fun u hu => (hJ5o 10 _ (by omega)).trans (hJ3o 10 _ (by omega))) ((hJ5o 11 q (by omega)).trans (hJ3o 11 q (by omega)))) (by first | exact pl_n hQ (by rw [h8]; exact hpn (by omega)) (by rw [hJ5, show pl = -1 by omega]) | exact pl_y h8 hv4 hQ hJ1 hJ3 hJ5 hpd (by omega) hr117 (by first | rw [if_pos (hsk.mp (by omega))] | rw [if_neg (fun z => absurd (hsk.mpr z) (by omega))]) | exact pl_0 hJ3 hJ5) (by omega)
              · skip
                refine mk_iconst (nx := 146) X d_Score_placeVoices_145 rfl ?_
                refine mk_iloadn (nx := 147) X 3 d_Score_placeVoices_146 rfl rfl ?_
                refine mk_ishl (nx := 148) X d_Score_placeVoices_147 rfl ?_
                refine mk_goto (tgt := 152) X d_Score_placeVoices_148 (by decide) ?_
                refine mk_ior (nx := 153) X d_Score_placeVoices_152 rfl ?_
                refine mk_iast (nx := 154) (j := m) X 11 0 (by decide) (sh_strikes cs ad) rfl (by omega) (by omega) (by decide) rfl d_Score_placeVoices_153 rfl ?_
                obtain ⟨J6, hJ6⟩ : ∃ W_ : Wo, W_ = up2 J3 11 m (zior (bsm c (I 8 m) v) (zishl 1 (v : Int))) := ⟨_, rfl⟩
                refine mk_same hJ6.symm ?_
                have hJ6s : J6 11 m = zior (bsm c (I 8 m) v) (zishl 1 (v : Int)) := hJ6 ▸ up2_ss J3 11 m (zior (bsm c (I 8 m) v) (zishl 1 (v : Int)))
                have hJ6o : ∀ a b, (a ≠ 11 ∨ b ≠ m) → J6 a b = J3 a b := hJ6 ▸ up2_o J3 11 m (zior (bsm c (I 8 m) v) (zishl 1 (v : Int)))
                refine mk_iinc (nx := 157) X 3 [(3, .int (zi ((v : Int) + 1))), (0, .ref (ad 6)), (1, .int (zi (fsr c))), (2, .int (zi (m : Int))), (4, .ref (ad (12 + 6 * v))), (5, .int (zi (p : Int)))] d_Score_placeVoices_154 rfl (by decide) rfl rfl ?_
                refine mk_goto (tgt := 26) X d_Score_placeVoices_157 (by decide) ?_
                refine mk_lv [1, 2, 3, 0] rfl ?_
                exact ih26 (v + 1) J6 (by omega) (by omega) (by first | exact fun a b x y z => (hJ6o a b (by omega)).trans ((hJ3o a b (by omega)).trans ((hJ1o a b (by omega)).trans (hfb a b x y z))) | exact fun a b x y z => (hJ6o a b (by omega)).trans (hfb a b x y z) | exact fun a b x y z => (hJ6o a b (by omega)).trans ((hJ3o a b (by omega)).trans (hfa a b x y z))) (by first | exact fun q hq => pl_fr (hPb q hq) ((hJ6o 8 q (by omega)).trans ((hJ3o 8 q (by omega)).trans (hJ1o 8 q (by omega)))) ((hJ6o 9 q (by omega)).trans ((hJ3o 9 q (by omega)).trans (hJ1o 9 q (by omega)))) (fun u hu => (hJ6o 10 _ (by omega)).trans ((hJ3o 10 _ (by omega)).trans (hJ1o 10 _ (by omega)))) ((hJ6o 11 q (by omega)).trans ((hJ3o 11 q (by omega)).trans (hJ1o 11 q (by omega)))) | exact fun q hq => pl_fr (hPb q hq) (hJ6o 8 q (by omega)) (hJ6o 9 q (by omega)) (fun u hu => hJ6o 10 _ (by omega)) (hJ6o 11 q (by omega)) | exact fun q hq => pl_fr (hPa q hq) ((hJ6o 8 q (by omega)).trans (hJ3o 8 q (by omega))) ((hJ6o 9 q (by omega)).trans (hJ3o 9 q (by omega))) (fun u hu => (hJ6o 10 _ (by omega)).trans (hJ3o 10 _ (by omega))) ((hJ6o 11 q (by omega)).trans (hJ3o 11 q (by omega)))) (by first | exact pl_n hQ (by rw [h8]; exact hpn (by omega)) (by rw [hJ6, show pl = -1 by omega]) | exact pl_y h8 hv4 hQ hJ1 hJ3 hJ6 hpd (by omega) hr117 (by first | rw [if_pos (hsk.mp (by omega))] | rw [if_neg (fun z => absurd (hsk.mpr z) (by omega))]) | exact pl_0 hJ3 hJ6) (by omega)
          have L62 : ∀ (p0 : Int), (v < 4) → ((c (3 + v) 0 = 1 ∧ p0 = cpl c v (I 8 m)) ∨ (¬ c (3 + v) 0 = 1 ∧ p0 = -1)) → mk_A p_ l e_ rm_Score_placeVoices s_ m_ as_ bl_ me_ co_ Q_ 6 D cmcl (cm_sh cs ad) 48 48 ad Jb [(0, .ref (ad 6)), (1, .int (zi (fsr c))), (2, .int (zi (m : Int))), (3, .int (zi (v : Int))), (4, .ref (ad (12 + 6 * v)))] 62 [.int (zi p0)] := by
            intro p0 hv4 hp0
            have hplb := cpl_b hw hV hv4 (I 8 m)
            have hv5 := hV.1 v hv4
            refine mk_istore (nx := 64) X [(5, .int (zi p0)), (0, .ref (ad 6)), (1, .int (zi (fsr c))), (2, .int (zi (m : Int))), (3, .int (zi (v : Int))), (4, .ref (ad (12 + 6 * v)))] d_Score_placeVoices_62 (by decide) rfl rfl ?_
            have hcb : ∀ q, q < cn c → -200 ≤ clp c v q ∧ clp c v q ≤ 1001 := fun q hq => clp_b hw hV hv4 hq
            refine mk_iload (nx := 66) X 0 d_Score_placeVoices_64 rfl rfl ?_
            refine mk_iconst (nx := 67) X d_Score_placeVoices_66 rfl ?_
            refine mk_icmp_eq (tgt := 87) (nx := 70) X d_Score_placeVoices_67 (by omega) (by omega) (by decide) rfl (fun c67 => ?_) (fun c67 => ?_)
            · skip
              refine mk_lv [1, 2, 3, 4, 5, 0] rfl ?_
              exact L87 p0 (by omega) (by first | exact pl_j1 hp0 (by omega) | exact pl_j2 hp0 (by omega) (by omega) | exact pl_j3 hp0 (by omega) (by omega))
            · skip
              refine mk_aload (nx := 72) X 5 d_Score_placeVoices_70 rfl rfl ?_
              refine mk_get (nx := 75) (v := .ref (ad (15 + 6 * v))) X (12 + 6 * v) (by omega) (sh_Line cs ad (show v < 4 by omega) _) rfl in_Line 2 (by decide) wd_130 rfl rfl d_Score_placeVoices_72 rfl ?_
              refine mk_iload (nx := 77) X 0 d_Score_placeVoices_75 rfl rfl ?_
              refine mk_iald (nx := 78) (j := p0.toNat) X (15 + 6 * v) 0 (by omega) (sh_Lpit cs ad (show v < 4 by omega) _) rfl (by omega) (by omega) (by decide) rfl d_Score_placeVoices_77 rfl ?_
              rw [show Jb (15 + 6 * v) p0.toNat = clp c v p0.toNat from (hTJ v (by omega) (by omega) p0.toNat (by omega))]
              refine mk_sipush (nx := 81) X d_Score_placeVoices_78 (by decide) rfl ?_
              refine mk_icmp_ne (tgt := 87) (nx := 84) X d_Score_placeVoices_81 (by have := hcb p0.toNat (by omega); omega) (by have := hcb p0.toNat (by omega); omega) (by decide) rfl (fun c81 => ?_) (fun c81 => ?_)
              · skip
                refine mk_lv [1, 2, 3, 4, 5, 0] rfl ?_
                exact L87 p0 (by omega) (by first | exact pl_j1 hp0 (by omega) | exact pl_j2 hp0 (by omega) (by omega) | exact pl_j3 hp0 (by omega) (by omega))
              · skip
                refine mk_iconst (nx := 85) X d_Score_placeVoices_84 rfl ?_
                refine mk_istore (nx := 87) X [(5, .int (zi (-1))), (0, .ref (ad 6)), (1, .int (zi (fsr c))), (2, .int (zi (m : Int))), (3, .int (zi (v : Int))), (4, .ref (ad (12 + 6 * v)))] d_Score_placeVoices_85 (by decide) rfl rfl ?_
                refine mk_lv [1, 2, 3, 4, 5, 0] rfl ?_
                exact L87 (-1) (by omega) (by first | exact pl_j1 hp0 (by omega) | exact pl_j2 hp0 (by omega) (by omega) | exact pl_j3 hp0 (by omega) (by omega))
          refine mk_iloadn (nx := 27) X 3 d_Score_placeVoices_26 rfl rfl ?_
          refine mk_iconst (nx := 28) X d_Score_placeVoices_27 rfl ?_
          refine mk_icmp_ge (tgt := 160) (nx := 31) X d_Score_placeVoices_28 (by omega) (by omega) (by decide) rfl (fun c28 => ?_) (fun c28 => ?_)
          · skip
            refine mk_iinc (nx := 163) X 2 [(2, .int (zi ((m : Int) + 1))), (0, .ref (ad 6)), (1, .int (zi (fsr c))), (3, .int (zi (v : Int)))] d_Score_placeVoices_160 rfl (by decide) rfl rfl ?_
            refine mk_goto (tgt := 2) X d_Score_placeVoices_163 (by decide) ?_
            refine mk_lv [1, 2, 0] rfl ?_
            exact ih2 (m + 1) Jb (by omega) (by first | exact fun _ _ _ _ _ => rfl | exact hfb) (by first | exact lt_0 | exact lt_s hPb (by have e : v = 4 := (by omega); rw [e] at hQ; exact hQ)) (by omega)
          · skip
            have hv4 : v < 4 := by omega
            have hv5 := hV.1 v hv4
            have hplb := cpl_b hw hV hv4 (I 8 m)
            refine mk_aloadn (nx := 32) X 0 d_Score_placeVoices_31 rfl rfl ?_
            refine mk_get (nx := 35) (v := .ref (ad 7)) X 6 (by decide) (sh_Score cs ad _) rfl in_Score 0 (by decide) wd_177 rfl rfl d_Score_placeVoices_32 rfl ?_
            refine mk_iloadn (nx := 36) X 3 d_Score_placeVoices_35 rfl rfl ?_
            refine mk_aald (nx := 37) (j := v) X 7 3 (by decide) (sh_lines cs ad _) rfl (by omega) (by omega) (by decide) rfl rfl d_Score_placeVoices_36 rfl ?_
            refine mk_astore (nx := 39) X [(4, .ref (ad (12 + 6 * v))), (0, .ref (ad 6)), (1, .int (zi (fsr c))), (2, .int (zi (m : Int))), (3, .int (zi (v : Int)))] d_Score_placeVoices_37 (by decide) rfl rfl ?_
            refine mk_aload (nx := 41) X 0 d_Score_placeVoices_39 rfl rfl ?_
            refine mk_get (nx := 44) (v := .int (zi (Jb (12 + 6 * v) 10))) X (12 + 6 * v) (by omega) (sh_Line cs ad (show v < 4 by omega) _) rfl in_Line 10 (by decide) wd_147 rfl rfl d_Score_placeVoices_41 rfl ?_
            rw [show Jb (12 + 6 * v) 10 = c (3 + v) 0 from (hFJ v (by omega)).1.2.2.2.2.2.1]
            refine mk_if_eq (tgt := 61) (nx := 47) X d_Score_placeVoices_44 (by omega) (by decide) rfl (fun c44 => ?_) (fun c44 => ?_)
            · skip
              refine mk_iconst (nx := 62) X d_Score_placeVoices_61 rfl ?_
              refine mk_lv [1, 2, 3, 4, 0] rfl ?_
              exact L62 (-1) (by omega) (by omega)
            · skip
              refine mk_aload (nx := 49) X 0 d_Score_placeVoices_47 rfl rfl ?_
              refine mk_aloadn (nx := 50) X 1 d_Score_placeVoices_49 rfl rfl ?_
              refine mk_get (nx := 53) (v := .ref (ad 8)) X 6 (by decide) (sh_Score cs ad _) rfl in_Score 1 (by decide) wd_180 rfl rfl d_Score_placeVoices_50 rfl ?_
              refine mk_iloadn (nx := 54) X 3 d_Score_placeVoices_53 rfl rfl ?_
              refine mk_iald (nx := 55) (j := m) X 8 0 (by decide) (sh_moments cs ad _) rfl (by omega) (by omega) (by decide) rfl d_Score_placeVoices_54 rfl ?_
              rw [show Jb 8 m = I 8 m from h8]
              refine mk_callVi (nx := 58) (n := 1) (As := [.int (zi (I 8 m))]) (rest := []) X (12 + 6 * v) (by omega) (sh_Line cs ad (show v < 4 by omega) _) rfl (c_Line_placeAt l D cs ad zt hi c Jb hw hS hV v (by omega) (hFJ v (by omega)).1 (hFJ v (by omega)).2.1 (I 8 m) (by omega)) (g_Line_placeAt wd_466) rfl ⟨rfl, rfl⟩ (by decide +kernel) ⟨by decide, by decide⟩ rfl (Nat.le_of_ble_eq_true rfl) rfl d_Score_placeVoices_55 rfl ?_
              intro r55 J7 hJ7
              obtain ⟨rfl, rfl⟩ := hJ7
              refine mk_goto (tgt := 62) X d_Score_placeVoices_58 (by decide) ?_
              refine mk_lv [1, 2, 3, 4, 0] rfl ?_
              exact L62 (cpl c v (I 8 m)) (by omega) (by omega)
      refine mk_iloadn (nx := 3) X 2 d_Score_placeVoices_2 rfl rfl ?_
      refine mk_aloadn (nx := 4) X 0 d_Score_placeVoices_3 rfl rfl ?_
      refine mk_get (nx := 7) (v := .int (zi (Ja 6 5))) X 6 (by decide) (sh_Score cs ad _) rfl in_Score 5 (by decide) wd_189 rfl rfl d_Score_placeVoices_4 rfl ?_
      rw [show Ja 6 5 = I 6 5 from (hfa 6 5 (by omega) (by omega) (by omega))]
      refine mk_icmp_ge (tgt := 166) (nx := 10) X d_Score_placeVoices_7 (by omega) (by omega) (by decide) rfl (fun c7 => ?_) (fun c7 => ?_)
      · skip
        exact hret _ _ _ d_Score_placeVoices_166 (by have hP2 : nJ Ja = nJ I := (by unfold nJ; rw [hfa 6 5 (by omega) (by omega) (by omega)]); exact ⟨fun q hq => hPa q (by omega), hfa⟩)
      · skip
        refine mk_aloadn (nx := 11) X 0 d_Score_placeVoices_10 rfl rfl ?_
        refine mk_get (nx := 14) (v := .ref (ad 9)) X 6 (by decide) (sh_Score cs ad _) rfl in_Score 2 (by decide) wd_182 rfl rfl d_Score_placeVoices_11 rfl ?_
        refine mk_iloadn (nx := 15) X 2 d_Score_placeVoices_14 rfl rfl ?_
        refine mk_iconst (nx := 16) X d_Score_placeVoices_15 rfl ?_
        refine mk_iast (nx := 17) (j := m) X 9 0 (by decide) (sh_touched cs ad) rfl (by omega) (by omega) (by decide) rfl d_Score_placeVoices_16 rfl ?_
        obtain ⟨J8, hJ8⟩ : ∃ W_ : Wo, W_ = up2 Ja 9 m 0 := ⟨_, rfl⟩
        refine mk_same hJ8.symm ?_
        have hJ8s : J8 9 m = 0 := hJ8 ▸ up2_ss Ja 9 m 0
        have hJ8o : ∀ a b, (a ≠ 9 ∨ b ≠ m) → J8 a b = Ja a b := hJ8 ▸ up2_o Ja 9 m 0
        refine mk_aloadn (nx := 18) X 0 d_Score_placeVoices_17 rfl rfl ?_
        refine mk_get (nx := 21) (v := .ref (ad 11)) X 6 (by decide) (sh_Score cs ad _) rfl in_Score 4 (by decide) wd_186 rfl rfl d_Score_placeVoices_18 rfl ?_
        refine mk_iloadn (nx := 22) X 2 d_Score_placeVoices_21 rfl rfl ?_
        refine mk_iconst (nx := 23) X d_Score_placeVoices_22 rfl ?_
        refine mk_iast (nx := 24) (j := m) X 11 0 (by decide) (sh_strikes cs ad) rfl (by omega) (by omega) (by decide) rfl d_Score_placeVoices_23 rfl ?_
        obtain ⟨J9, hJ9⟩ : ∃ W_ : Wo, W_ = up2 J8 11 m 0 := ⟨_, rfl⟩
        refine mk_same hJ9.symm ?_
        have hJ9s : J9 11 m = 0 := hJ9 ▸ up2_ss J8 11 m 0
        have hJ9o : ∀ a b, (a ≠ 11 ∨ b ≠ m) → J9 a b = J8 a b := hJ9 ▸ up2_o J8 11 m 0
        refine mk_iconst (nx := 25) X d_Score_placeVoices_24 rfl ?_
        refine mk_istoren (nx := 26) X [(3, .int (zi 0)), (0, .ref (ad 6)), (1, .int (zi (fsr c))), (2, .int (zi (m : Int)))] d_Score_placeVoices_25 (by decide) rfl rfl ?_
        refine mk_lv [1, 2, 3, 0] rfl ?_
        exact L26 _ 0 J9 (by omega) (by omega) (by first | exact fun a b x y z => (hJ9o a b (by omega)).trans ((hJ8o a b (by omega)).trans ((hJao a b (by omega)).trans (hfb a b x y z))) | exact fun a b x y z => (hJ9o a b (by omega)).trans (hfb a b x y z) | exact fun a b x y z => (hJ9o a b (by omega)).trans ((hJ8o a b (by omega)).trans (hfa a b x y z))) (by first | exact fun q hq => pl_fr (hPb q hq) ((hJ9o 8 q (by omega)).trans ((hJ8o 8 q (by omega)).trans (hJao 8 q (by omega)))) ((hJ9o 9 q (by omega)).trans ((hJ8o 9 q (by omega)).trans (hJao 9 q (by omega)))) (fun u hu => (hJ9o 10 _ (by omega)).trans ((hJ8o 10 _ (by omega)).trans (hJao 10 _ (by omega)))) ((hJ9o 11 q (by omega)).trans ((hJ8o 11 q (by omega)).trans (hJao 11 q (by omega)))) | exact fun q hq => pl_fr (hPb q hq) (hJ9o 8 q (by omega)) (hJ9o 9 q (by omega)) (fun u hu => hJ9o 10 _ (by omega)) (hJ9o 11 q (by omega)) | exact fun q hq => pl_fr (hPa q hq) ((hJ9o 8 q (by omega)).trans (hJ8o 8 q (by omega))) ((hJ9o 9 q (by omega)).trans (hJ8o 9 q (by omega))) (fun u hu => (hJ9o 10 _ (by omega)).trans (hJ8o 10 _ (by omega))) ((hJ9o 11 q (by omega)).trans (hJ8o 11 q (by omega)))) (by first | exact pl_n hQ (by rw [h8]; exact hpn (by omega)) (by rw [hJ9, show pl = -1 by omega]) | exact pl_y h8 hv4 hQ hJa hJ8 hJ9 hpd (by omega) hr117 (by first | rw [if_pos (hsk.mp (by omega))] | rw [if_neg (fun z => absurd (hsk.mpr z) (by omega))]) | exact pl_0 hJ8 hJ9) (Nat.lt_succ_self _)
  refine mk_iconst (nx := 1) X d_Score_placeVoices_0 rfl ?_
  refine mk_istoren (nx := 2) X [(2, .int (zi 0)), (0, .ref (ad 6)), (1, .int (zi (fsr c)))] d_Score_placeVoices_1 (by decide) rfl rfl ?_
  refine mk_lv [1, 2, 0] rfl ?_
  exact L2 _ 0 I (by omega) (by first | exact fun _ _ _ _ _ => rfl | exact hfb) (by first | exact lt_0 | exact lt_s hPb (by have e : v = 4 := (by omega); rw [e] at hQ; exact hQ)) (Nat.lt_succ_self _)
