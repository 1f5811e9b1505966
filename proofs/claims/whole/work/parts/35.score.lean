-- CanonMaker$Score.tune(LCanonMaker$Subject;)V
theorem d_Score_tune_0 : decode prog_5_method_2_code 0 = .ok (.iconst 0, 1) := by decide +kernel
theorem d_Score_tune_1 : decode prog_5_method_2_code 1 = .ok (.istore_n 2, 1) := by decide +kernel
theorem d_Score_tune_2 : decode prog_5_method_2_code 2 = .ok (.iload_n 2, 1) := by decide +kernel
theorem d_Score_tune_3 : decode prog_5_method_2_code 3 = .ok (.iconst 4, 1) := by decide +kernel
theorem d_Score_tune_4 : decode prog_5_method_2_code 4 = .ok (.if_icmp .ge 31, 3) := by decide +kernel
theorem d_Score_tune_7 : decode prog_5_method_2_code 7 = .ok (.aload_n 0, 1) := by decide +kernel
theorem d_Score_tune_8 : decode prog_5_method_2_code 8 = .ok (.getfield 11, 3) := by decide +kernel
theorem d_Score_tune_11 : decode prog_5_method_2_code 11 = .ok (.iload_n 2, 1) := by decide +kernel
theorem d_Score_tune_12 : decode prog_5_method_2_code 12 = .ok (.aaload, 1) := by decide +kernel
theorem d_Score_tune_13 : decode prog_5_method_2_code 13 = .ok (.getfield 31, 3) := by decide +kernel
theorem d_Score_tune_16 : decode prog_5_method_2_code 16 = .ok (.ifCond .eq 13, 3) := by decide +kernel
theorem d_Score_tune_19 : decode prog_5_method_2_code 19 = .ok (.aload_n 0, 1) := by decide +kernel
theorem d_Score_tune_20 : decode prog_5_method_2_code 20 = .ok (.getfield 11, 3) := by decide +kernel
theorem d_Score_tune_23 : decode prog_5_method_2_code 23 = .ok (.iload_n 2, 1) := by decide +kernel
theorem d_Score_tune_24 : decode prog_5_method_2_code 24 = .ok (.aaload, 1) := by decide +kernel
theorem d_Score_tune_25 : decode prog_5_method_2_code 25 = .ok (.aload_n 1, 1) := by decide +kernel
theorem d_Score_tune_26 : decode prog_5_method_2_code 26 = .ok (.invokevirtual 35, 3) := by decide +kernel
theorem d_Score_tune_29 : decode prog_5_method_2_code 29 = .ok (.iinc 2 1, 3) := by decide +kernel
theorem d_Score_tune_32 : decode prog_5_method_2_code 32 = .ok (.goto (-30), 3) := by decide +kernel
theorem d_Score_tune_35 : decode prog_5_method_2_code 35 = .ok (.return_, 1) := by decide +kernel
abbrev rm_Score_tune : Room := { frames := 2, cells := 0, slots := 0, locals := 46 }
set_option maxHeartbeats 4000000 in
set_option maxRecDepth 100000 in
theorem c_Score_tune (l : Launch) (D : va_G) (cs : Nat → ClassId) (ad : Nat → Nat) (zt : Nat) (hi : cm_inj ad) (c I : Wo) (hw : wfN c) (hS : wfS c) (hV : wfV c) (hm : cmN c I) (hF : ScF c I) : cm_C l D cs ad zt y_Score_tune ws_Score_tune rm_Score_tune [.ref (ad 6), .ref (ad 1)] I (mk_pv (fun J => ScT c J ∧ (∀ a b, ¬ (a = 15 ∨ a = 21 ∨ a = 27 ∨ a = 33) → J a b = I a b))) := by
  refine mk_metv (own := "CanonMaker$Score") (Ts := wA) hi (Nat.le_refl _) (by decide) rfl (fun w h => List.mem_cons_of_mem _ h) rfl (Nat.le_of_ble_eq_true rfl) [(0, .ref (ad 6)), (1, .ref (ad 1))] rfl ?_
  intro p_ e_ s_ m_ as_ bl_ me_ co_ Q_ X hret
  have L2 : ∀ nf : Nat, ∀ (v : Nat) (J : Wo), (v ≤ 4) → (∀ u, u < v → c (3 + u) 0 = 1 → LnT c J u) → (∀ a b, ¬ (a = 15 ∨ a = 21 ∨ a = 27 ∨ a = 33) → J a b = I a b) → 4 - v < nf → mk_A p_ l e_ rm_Score_tune s_ m_ as_ bl_ me_ co_ Q_ 3 D cmcl (cm_sh cs ad) 48 48 ad J [(0, .ref (ad 6)), (1, .ref (ad 1)), (2, .int (zi (v : Int)))] 2 [] := by
    intro nf
    induction nf with
    | zero => intro v J hv hT hfr hn; exact absurd hn (Nat.not_lt_zero _)
    | succ nf ih2 =>
      intro v J hv hT hfr hn2
      have hFJ : ScF c J := ScF_fr (fun a b _ _ x => hfr a b x) hF
      refine mk_iloadn (nx := 3) X 2 d_Score_tune_2 rfl rfl ?_
      refine mk_iconst (nx := 4) X d_Score_tune_3 rfl ?_
      refine mk_icmp_ge (tgt := 35) (nx := 7) X d_Score_tune_4 (by omega) (by omega) (by decide) rfl (fun c4 => ?_) (fun c4 => ?_)
      · skip
        exact hret _ _ _ d_Score_tune_35 (by exact ⟨fun u hu => hT u (by omega), hfr⟩)
      · skip
        have hv5 := hV.1 v (by omega)
        refine mk_aloadn (nx := 8) X 0 d_Score_tune_7 rfl rfl ?_
        refine mk_get (nx := 11) (v := .ref (ad 7)) X 6 (by decide) (sh_Score cs ad _) rfl in_Score 0 (by decide) wd_177 rfl rfl d_Score_tune_8 rfl ?_
        refine mk_iloadn (nx := 12) X 2 d_Score_tune_11 rfl rfl ?_
        refine mk_aald (nx := 13) (j := v) X 7 3 (by decide) (sh_lines cs ad _) rfl (by omega) (by omega) (by decide) rfl rfl d_Score_tune_12 rfl ?_
        refine mk_get (nx := 16) (v := .int (zi (J (12 + 6 * v) 10))) X (12 + 6 * v) (by omega) (sh_Line cs ad (show v < 4 by omega) _) rfl in_Line 10 (by decide) wd_147 rfl rfl d_Score_tune_13 rfl ?_
        rw [show J (12 + 6 * v) 10 = c (3 + v) 0 from (hFJ v (by omega)).1.2.2.2.2.2.1]
        refine mk_if_eq (tgt := 29) (nx := 19) X d_Score_tune_16 (by omega) (by decide) rfl (fun c16 => ?_) (fun c16 => ?_)
        · skip
          refine mk_iinc (nx := 32) X 2 [(2, .int (zi ((v : Int) + 1))), (0, .ref (ad 6)), (1, .ref (ad 1))] d_Score_tune_29 rfl (by decide) rfl rfl ?_
          refine mk_goto (tgt := 2) X d_Score_tune_32 (by decide) ?_
          refine mk_lv [1, 2, 0] rfl ?_
          exact ih2 (v + 1) J (by omega) (by first | exact lt_0 | exact lt_s (fun u hu hon => LnT_fr (fun b => hJA.2 _ b (by omega)) (hT u hu hon)) (fun _ => hJA.1) | exact lt_s hT (fun hon => absurd hon (by omega))) (by first | exact fun _ _ _ => rfl | exact hfr | exact fun a b x => (hJA.2 a b (by omega)).trans (hfr a b x)) (by omega)
        · skip
          refine mk_aloadn (nx := 20) X 0 d_Score_tune_19 rfl rfl ?_
          refine mk_get (nx := 23) (v := .ref (ad 7)) X 6 (by decide) (sh_Score cs ad _) rfl in_Score 0 (by decide) wd_177 rfl rfl d_Score_tune_20 rfl ?_
          refine mk_iloadn (nx := 24) X 2 d_Score_tune_23 rfl rfl ?_
          refine mk_aald (nx := 25) (j := v) X 7 3 (by decide) (sh_lines cs ad _) rfl (by omega) (by omega) (by decide) rfl rfl d_Score_tune_24 rfl ?_
          refine mk_aloadn (nx := 26) X 1 d_Score_tune_25 rfl rfl ?_
          refine mk_callVv (nx := 29) (n := 1) (As := [.ref (ad 1)]) (rest := []) X (12 + 6 * v) (by omega) (sh_Line cs ad (show v < 4 by omega) _) rfl (c_Line_tune l D cs ad zt hi c J hw hS hV (cmN_fr (fun a b x => hfr a b (by omega)) hm) v (by omega) (hFJ v (by omega)).1 (hFJ v (by omega)).2.1) (g_Line_tune wd_448) rfl ⟨rfl, rfl⟩ (by decide +kernel) ⟨by decide, by decide⟩ rfl (Nat.le_of_ble_eq_true rfl) rfl d_Score_tune_26 rfl ?_
          intro JA hJA
          refine mk_iinc (nx := 32) X 2 [(2, .int (zi ((v : Int) + 1))), (0, .ref (ad 6)), (1, .ref (ad 1))] d_Score_tune_29 rfl (by decide) rfl rfl ?_
          refine mk_goto (tgt := 2) X d_Score_tune_32 (by decide) ?_
          refine mk_lv [1, 2, 0] rfl ?_
          exact ih2 (v + 1) JA (by omega) (by first | exact lt_0 | exact lt_s (fun u hu hon => LnT_fr (fun b => hJA.2 _ b (by omega)) (hT u hu hon)) (fun _ => hJA.1) | exact lt_s hT (fun hon => absurd hon (by omega))) (by first | exact fun _ _ _ => rfl | exact hfr | exact fun a b x => (hJA.2 a b (by omega)).trans (hfr a b x)) (by omega)
  refine mk_iconst (nx := 1) X d_Score_tune_0 rfl ?_
  refine mk_istoren (nx := 2) X [(2, .int (zi 0)), (0, .ref (ad 6)), (1, .ref (ad 1))] d_Score_tune_1 (by decide) rfl rfl ?_
  refine mk_lv [1, 2, 0] rfl ?_
  exact L2 _ 0 I (by omega) (by first | exact lt_0 | exact lt_s (fun u hu hon => LnT_fr (fun b => hJA.2 _ b (by omega)) (hT u hu hon)) (fun _ => hJA.1) | exact lt_s hT (fun hon => absurd hon (by omega))) (by first | exact fun _ _ _ => rfl | exact hfr | exact fun a b x => (hJA.2 a b (by omega)).trans (hfr a b x)) (Nat.lt_succ_self _)

-- CanonMaker$Score.keepMoment(I)V
theorem d_Score_keepMoment_0 : decode prog_5_method_4_code 0 = .ok (.aload_n 0, 1) := by decide +kernel
theorem d_Score_keepMoment_1 : decode prog_5_method_4_code 1 = .ok (.getfield 39, 3) := by decide +kernel
theorem d_Score_keepMoment_4 : decode prog_5_method_4_code 4 = .ok (.istore_n 2, 1) := by decide +kernel
theorem d_Score_keepMoment_5 : decode prog_5_method_4_code 5 = .ok (.iload_n 2, 1) := by decide +kernel
theorem d_Score_keepMoment_6 : decode prog_5_method_4_code 6 = .ok (.ifCond .le 21, 3) := by decide +kernel
theorem d_Score_keepMoment_9 : decode prog_5_method_4_code 9 = .ok (.aload_n 0, 1) := by decide +kernel
theorem d_Score_keepMoment_10 : decode prog_5_method_4_code 10 = .ok (.getfield 17, 3) := by decide +kernel
theorem d_Score_keepMoment_13 : decode prog_5_method_4_code 13 = .ok (.iload_n 2, 1) := by decide +kernel
theorem d_Score_keepMoment_14 : decode prog_5_method_4_code 14 = .ok (.iconst 1, 1) := by decide +kernel
theorem d_Score_keepMoment_15 : decode prog_5_method_4_code 15 = .ok (.isub, 1) := by decide +kernel
theorem d_Score_keepMoment_16 : decode prog_5_method_4_code 16 = .ok (.iaload, 1) := by decide +kernel
theorem d_Score_keepMoment_17 : decode prog_5_method_4_code 17 = .ok (.iload_n 1, 1) := by decide +kernel
theorem d_Score_keepMoment_18 : decode prog_5_method_4_code 18 = .ok (.if_icmp .le 9, 3) := by decide +kernel
theorem d_Score_keepMoment_21 : decode prog_5_method_4_code 21 = .ok (.iinc 2 (-1), 3) := by decide +kernel
theorem d_Score_keepMoment_24 : decode prog_5_method_4_code 24 = .ok (.goto (-19), 3) := by decide +kernel
theorem d_Score_keepMoment_27 : decode prog_5_method_4_code 27 = .ok (.iload_n 2, 1) := by decide +kernel
theorem d_Score_keepMoment_28 : decode prog_5_method_4_code 28 = .ok (.ifCond .le 19, 3) := by decide +kernel
theorem d_Score_keepMoment_31 : decode prog_5_method_4_code 31 = .ok (.aload_n 0, 1) := by decide +kernel
theorem d_Score_keepMoment_32 : decode prog_5_method_4_code 32 = .ok (.getfield 17, 3) := by decide +kernel
theorem d_Score_keepMoment_35 : decode prog_5_method_4_code 35 = .ok (.iload_n 2, 1) := by decide +kernel
theorem d_Score_keepMoment_36 : decode prog_5_method_4_code 36 = .ok (.iconst 1, 1) := by decide +kernel
theorem d_Score_keepMoment_37 : decode prog_5_method_4_code 37 = .ok (.isub, 1) := by decide +kernel
theorem d_Score_keepMoment_38 : decode prog_5_method_4_code 38 = .ok (.iaload, 1) := by decide +kernel
theorem d_Score_keepMoment_39 : decode prog_5_method_4_code 39 = .ok (.iload_n 1, 1) := by decide +kernel
theorem d_Score_keepMoment_40 : decode prog_5_method_4_code 40 = .ok (.if_icmp .ne 7, 3) := by decide +kernel
theorem d_Score_keepMoment_43 : decode prog_5_method_4_code 43 = .ok (.iconst 1, 1) := by decide +kernel
theorem d_Score_keepMoment_44 : decode prog_5_method_4_code 44 = .ok (.goto 4, 3) := by decide +kernel
theorem d_Score_keepMoment_47 : decode prog_5_method_4_code 47 = .ok (.iconst 0, 1) := by decide +kernel
theorem d_Score_keepMoment_48 : decode prog_5_method_4_code 48 = .ok (.istore_n 3, 1) := by decide +kernel
theorem d_Score_keepMoment_49 : decode prog_5_method_4_code 49 = .ok (.iload_n 3, 1) := by decide +kernel
theorem d_Score_keepMoment_50 : decode prog_5_method_4_code 50 = .ok (.ifCond .ne 12, 3) := by decide +kernel
theorem d_Score_keepMoment_53 : decode prog_5_method_4_code 53 = .ok (.aload_n 0, 1) := by decide +kernel
theorem d_Score_keepMoment_54 : decode prog_5_method_4_code 54 = .ok (.getfield 39, 3) := by decide +kernel
theorem d_Score_keepMoment_57 : decode prog_5_method_4_code 57 = .ok (.bipush 96, 2) := by decide +kernel
theorem d_Score_keepMoment_59 : decode prog_5_method_4_code 59 = .ok (.if_icmp .lt 4, 3) := by decide +kernel
theorem d_Score_keepMoment_62 : decode prog_5_method_4_code 62 = .ok (.return_, 1) := by decide +kernel
theorem d_Score_keepMoment_63 : decode prog_5_method_4_code 63 = .ok (.aload_n 0, 1) := by decide +kernel
theorem d_Score_keepMoment_64 : decode prog_5_method_4_code 64 = .ok (.getfield 39, 3) := by decide +kernel
theorem d_Score_keepMoment_67 : decode prog_5_method_4_code 67 = .ok (.istore 4, 2) := by decide +kernel
theorem d_Score_keepMoment_69 : decode prog_5_method_4_code 69 = .ok (.iload 4, 2) := by decide +kernel
theorem d_Score_keepMoment_71 : decode prog_5_method_4_code 71 = .ok (.iload_n 2, 1) := by decide +kernel
theorem d_Score_keepMoment_72 : decode prog_5_method_4_code 72 = .ok (.if_icmp .le 25, 3) := by decide +kernel
theorem d_Score_keepMoment_75 : decode prog_5_method_4_code 75 = .ok (.aload_n 0, 1) := by decide +kernel
theorem d_Score_keepMoment_76 : decode prog_5_method_4_code 76 = .ok (.getfield 17, 3) := by decide +kernel
theorem d_Score_keepMoment_79 : decode prog_5_method_4_code 79 = .ok (.iload 4, 2) := by decide +kernel
theorem d_Score_keepMoment_81 : decode prog_5_method_4_code 81 = .ok (.aload_n 0, 1) := by decide +kernel
theorem d_Score_keepMoment_82 : decode prog_5_method_4_code 82 = .ok (.getfield 17, 3) := by decide +kernel
theorem d_Score_keepMoment_85 : decode prog_5_method_4_code 85 = .ok (.iload 4, 2) := by decide +kernel
theorem d_Score_keepMoment_87 : decode prog_5_method_4_code 87 = .ok (.iconst 1, 1) := by decide +kernel
theorem d_Score_keepMoment_88 : decode prog_5_method_4_code 88 = .ok (.isub, 1) := by decide +kernel
theorem d_Score_keepMoment_89 : decode prog_5_method_4_code 89 = .ok (.iaload, 1) := by decide +kernel
theorem d_Score_keepMoment_90 : decode prog_5_method_4_code 90 = .ok (.iastore, 1) := by decide +kernel
theorem d_Score_keepMoment_91 : decode prog_5_method_4_code 91 = .ok (.iinc 4 (-1), 3) := by decide +kernel
theorem d_Score_keepMoment_94 : decode prog_5_method_4_code 94 = .ok (.goto (-25), 3) := by decide +kernel
theorem d_Score_keepMoment_97 : decode prog_5_method_4_code 97 = .ok (.aload_n 0, 1) := by decide +kernel
theorem d_Score_keepMoment_98 : decode prog_5_method_4_code 98 = .ok (.getfield 17, 3) := by decide +kernel
theorem d_Score_keepMoment_101 : decode prog_5_method_4_code 101 = .ok (.iload_n 2, 1) := by decide +kernel
theorem d_Score_keepMoment_102 : decode prog_5_method_4_code 102 = .ok (.iload_n 1, 1) := by decide +kernel
theorem d_Score_keepMoment_103 : decode prog_5_method_4_code 103 = .ok (.iastore, 1) := by decide +kernel
theorem d_Score_keepMoment_104 : decode prog_5_method_4_code 104 = .ok (.aload_n 0, 1) := by decide +kernel
theorem d_Score_keepMoment_105 : decode prog_5_method_4_code 105 = .ok (.dup, 1) := by decide +kernel
theorem d_Score_keepMoment_106 : decode prog_5_method_4_code 106 = .ok (.getfield 39, 3) := by decide +kernel
theorem d_Score_keepMoment_109 : decode prog_5_method_4_code 109 = .ok (.iconst 1, 1) := by decide +kernel
theorem d_Score_keepMoment_110 : decode prog_5_method_4_code 110 = .ok (.iadd, 1) := by decide +kernel
theorem d_Score_keepMoment_111 : decode prog_5_method_4_code 111 = .ok (.putfield 39, 3) := by decide +kernel
theorem d_Score_keepMoment_114 : decode prog_5_method_4_code 114 = .ok (.return_, 1) := by decide +kernel
abbrev rm_Score_keepMoment : Room := { frames := 0, cells := 0, slots := 0, locals := 0 }
set_option maxHeartbeats 4000000 in
set_option maxRecDepth 100000 in
theorem c_Score_keepMoment (l : Launch) (D : va_G) (cs : Nat → ClassId) (ad : Nat → Nat) (zt : Nat) (hi : cm_inj ad) (I : Wo) (hM : MSt I) (hc : I 6 5 < 96) (t : Int) (ht : 0 ≤ t ∧ t ≤ 100000) : cm_C l D cs ad zt y_Score_keepMoment ws_Score_keepMoment rm_Score_keepMoment [.ref (ad 6), .int (zi t)] I (mk_pv (fun J => Kmp I J t)) := by
  refine mk_metv (own := "CanonMaker$Score") (Ts := wA) hi (Nat.le_refl _) (by decide) rfl (fun w h => List.mem_cons_of_mem _ h) rfl (Nat.le_of_ble_eq_true rfl) [(0, .ref (ad 6)), (1, .int (zi t))] rfl ?_
  intro p_ e_ s_ m_ as_ bl_ me_ co_ Q_ X hret
  have hc0 := hM.1
  have L27 : ∀ (s : Int), (0 ≤ s ∧ s ≤ I 6 5) → (∀ j : Nat, s ≤ (j : Int) → j < nJ I → t < I 8 j) → (s = 0 ∨ (0 < s ∧ I 8 (s - 1).toNat ≤ t)) → mk_A p_ l e_ rm_Score_keepMoment s_ m_ as_ bl_ me_ co_ Q_ 5 D cmcl (cm_sh cs ad) 48 48 ad I [(0, .ref (ad 6)), (1, .int (zi t)), (2, .int (zi s))] 27 [] := by
    intro s hs hgt hle
    have hq : 0 < s → 0 ≤ I 8 (s - 1).toNat ∧ I 8 (s - 1).toNat ≤ 100000 := fun z => hM.2.2 _ (by unfold nJ; omega)
    have L69 : ∀ nf : Nat, ∀ (m : Int) (Ja : Wo), (s ≤ m ∧ m ≤ I 6 5) → (s = 0 ∨ I 8 (s - 1).toNat < t) → (∀ j : Nat, (j : Int) ≤ m → Ja 8 j = I 8 j) → (∀ j : Nat, m < (j : Int) → (j : Int) ≤ I 6 5 → Ja 8 j = I 8 (j - 1)) → (∀ a b, ¬ a = 8 → Ja a b = I a b) → m.toNat < nf → mk_A p_ l e_ rm_Score_keepMoment s_ m_ as_ bl_ me_ co_ Q_ 5 D cmcl (cm_sh cs ad) 48 48 ad Ja [(0, .ref (ad 6)), (1, .int (zi t)), (2, .int (zi s)), (4, .int (zi m))] 69 [] := by
      intro nf
      induction nf with
      | zero => intro m Ja hm hlt hlow hhi hf hn; exact absurd hn (Nat.not_lt_zero _)
      | succ nf ih69 =>
        intro m Ja hm hlt hlow hhi hf hn69
        refine mk_iload (nx := 71) X 3 d_Score_keepMoment_69 rfl rfl ?_
        refine mk_iloadn (nx := 72) X 2 d_Score_keepMoment_71 rfl rfl ?_
        refine mk_icmp_le (tgt := 97) (nx := 75) X d_Score_keepMoment_72 (by omega) (by omega) (by decide) rfl (fun c72 => ?_) (fun c72 => ?_)
        · skip
          refine mk_aloadn (nx := 98) X 0 d_Score_keepMoment_97 rfl rfl ?_
          refine mk_get (nx := 101) (v := .ref (ad 8)) X 6 (by decide) (sh_Score cs ad _) rfl in_Score 1 (by decide) wd_180 rfl rfl d_Score_keepMoment_98 rfl ?_
          refine mk_iloadn (nx := 102) X 2 d_Score_keepMoment_101 rfl rfl ?_
          refine mk_iloadn (nx := 103) X 1 d_Score_keepMoment_102 rfl rfl ?_
          refine mk_iast (nx := 104) (j := s.toNat) X 8 0 (by decide) (sh_moments cs ad) rfl (by omega) (by omega) (by decide) rfl d_Score_keepMoment_103 rfl ?_
          obtain ⟨J1, hJ1⟩ : ∃ W_ : Wo, W_ = up2 Ja 8 s.toNat t := ⟨_, rfl⟩
          refine mk_same hJ1.symm ?_
          have hJ1s : J1 8 s.toNat = t := hJ1 ▸ up2_ss Ja 8 s.toNat t
          have hJ1o : ∀ a b, (a ≠ 8 ∨ b ≠ s.toNat) → J1 a b = Ja a b := hJ1 ▸ up2_o Ja 8 s.toNat t
          refine mk_aloadn (nx := 105) X 0 d_Score_keepMoment_104 rfl rfl ?_
          refine mk_dup (nx := 106) X d_Score_keepMoment_105 rfl rfl ?_
          refine mk_get (nx := 109) (v := .int (zi (J1 6 5))) X 6 (by decide) (sh_Score cs ad _) rfl in_Score 5 (by decide) wd_189 rfl rfl d_Score_keepMoment_106 rfl ?_
          rw [show J1 6 5 = Ja 6 5 from hJ1o 6 5 (Or.inl (by decide))]
          rw [show Ja 6 5 = I 6 5 from (hf 6 5 (by omega))]
          refine mk_iconst (nx := 110) X d_Score_keepMoment_109 rfl ?_
          refine mk_iadd (nx := 111) X d_Score_keepMoment_110 rfl ?_
          refine mk_putf (nx := 114) (ty := .int) X t_Score t_Score_ok n_Score 6 (by decide) (sh_Score cs ad _) rfl in_Score 5 (by decide) wd_189 rfl rfl (by decide +kernel) rfl rfl (Nat.le_of_ble_eq_true rfl) ((sh_Score cs ad _).trans rfl) d_Score_keepMoment_111 rfl ?_
          obtain ⟨J2, hJ2⟩ : ∃ W_ : Wo, W_ = up2 J1 6 5 ((I 6 5) + 1) := ⟨_, rfl⟩
          refine mk_same hJ2.symm ?_
          have hJ2s : J2 6 5 = (I 6 5) + 1 := hJ2 ▸ up2_ss J1 6 5 ((I 6 5) + 1)
          have hJ2o : ∀ a b, (a ≠ 6 ∨ b ≠ 5) → J2 a b = J1 a b := hJ2 ▸ up2_o J1 6 5 ((I 6 5) + 1)
          exact hret _ _ _ d_Score_keepMoment_114 (by exact km_ins hM ht hs hgt hlt (fun j x => hlow j (by omega)) (fun j x y => hhi j (by omega) y) hf (by rw [hJ1]) hJ2)
        · skip
          refine mk_aloadn (nx := 76) X 0 d_Score_keepMoment_75 rfl rfl ?_
          refine mk_get (nx := 79) (v := .ref (ad 8)) X 6 (by decide) (sh_Score cs ad _) rfl in_Score 1 (by decide) wd_180 rfl rfl d_Score_keepMoment_76 rfl ?_
          refine mk_iload (nx := 81) X 3 d_Score_keepMoment_79 rfl rfl ?_
          refine mk_aloadn (nx := 82) X 0 d_Score_keepMoment_81 rfl rfl ?_
          refine mk_get (nx := 85) (v := .ref (ad 8)) X 6 (by decide) (sh_Score cs ad _) rfl in_Score 1 (by decide) wd_180 rfl rfl d_Score_keepMoment_82 rfl ?_
          refine mk_iload (nx := 87) X 3 d_Score_keepMoment_85 rfl rfl ?_
          refine mk_iconst (nx := 88) X d_Score_keepMoment_87 rfl ?_
          refine mk_isub (nx := 89) X d_Score_keepMoment_88 rfl ?_
          refine mk_iald (nx := 90) (j := (m - 1).toNat) X 8 0 (by decide) (sh_moments cs ad _) rfl (by omega) (by omega) (by decide) rfl d_Score_keepMoment_89 rfl ?_
          rw [show Ja 8 ((m - 1).toNat) = I 8 ((m - 1).toNat) from (hlow _ (by omega))]
          refine mk_iast (nx := 91) (j := m.toNat) X 8 0 (by decide) (sh_moments cs ad) rfl (by omega) (by omega) (by decide) rfl d_Score_keepMoment_90 rfl ?_
          obtain ⟨J3, hJ3⟩ : ∃ W_ : Wo, W_ = up2 Ja 8 m.toNat (I 8 ((m - 1).toNat)) := ⟨_, rfl⟩
          refine mk_same hJ3.symm ?_
          have hJ3s : J3 8 m.toNat = I 8 ((m - 1).toNat) := hJ3 ▸ up2_ss Ja 8 m.toNat (I 8 ((m - 1).toNat))
          have hJ3o : ∀ a b, (a ≠ 8 ∨ b ≠ m.toNat) → J3 a b = Ja a b := hJ3 ▸ up2_o Ja 8 m.toNat (I 8 ((m - 1).toNat))
          refine mk_iinc (nx := 94) X 3 [(4, .int (zi (m + (-1)))), (0, .ref (ad 6)), (1, .int (zi t)), (2, .int (zi s))] d_Score_keepMoment_91 rfl (by decide) rfl rfl ?_
          refine mk_goto (tgt := 69) X d_Score_keepMoment_94 (by decide) ?_
          refine mk_lv [1, 2, 3, 0] rfl ?_
          exact ih69 (m + (-1)) J3 (by omega) (by first | exact hlt | omega) (by first | exact fun _ _ => rfl | exact fun j x => (hJ3o 8 j (by omega)).trans (hlow j (by omega))) (by first | exact fun j x y => absurd x (by omega) | exact km_hi (by omega) hhi hJ3) (by first | exact fun _ _ _ => rfl | exact fun a b x => (hJ3o a b (by omega)).trans (hf a b x)) (by omega)
    refine mk_iloadn (nx := 28) X 2 d_Score_keepMoment_27 rfl rfl ?_
    refine mk_if_le (tgt := 47) (nx := 31) X d_Score_keepMoment_28 (by omega) (by decide) rfl (fun c28 => ?_) (fun c28 => ?_)
    · skip
      refine mk_iconst (nx := 48) X d_Score_keepMoment_47 rfl ?_
      refine mk_istoren (nx := 49) X [(3, .int (zi 0)), (0, .ref (ad 6)), (1, .int (zi t)), (2, .int (zi s))] d_Score_keepMoment_48 (by decide) rfl rfl ?_
      refine mk_iloadn (nx := 50) X 0 d_Score_keepMoment_49 rfl rfl ?_
      refine mk_if_ne (tgt := 62) (nx := 53) X d_Score_keepMoment_50 (by omega) (by decide) rfl (fun c50 => ?_) (fun c50 => ?_)
      · skip
        exact hret _ _ _ d_Score_keepMoment_62 (by first | (exfalso; omega) | exact km_old (s := s) hM (by omega) (by omega))
      · skip
        refine mk_aloadn (nx := 54) X 1 d_Score_keepMoment_53 rfl rfl ?_
        refine mk_get (nx := 57) (v := .int (zi (I 6 5))) X 6 (by decide) (sh_Score cs ad _) rfl in_Score 5 (by decide) wd_189 rfl rfl d_Score_keepMoment_54 rfl ?_
        refine mk_bipush (nx := 59) X d_Score_keepMoment_57 (by decide) rfl ?_
        refine mk_icmp_lt (tgt := 63) (nx := 62) X d_Score_keepMoment_59 (by omega) (by omega) (by decide) rfl (fun c59 => ?_) (fun c59 => ?_)
        · skip
          refine mk_aloadn (nx := 64) X 1 d_Score_keepMoment_63 rfl rfl ?_
          refine mk_get (nx := 67) (v := .int (zi (I 6 5))) X 6 (by decide) (sh_Score cs ad _) rfl in_Score 5 (by decide) wd_189 rfl rfl d_Score_keepMoment_64 rfl ?_
          refine mk_istore (nx := 69) X [(4, .int (zi (I 6 5))), (3, .int (zi 0)), (0, .ref (ad 6)), (1, .int (zi t)), (2, .int (zi s))] d_Score_keepMoment_67 (by decide) rfl rfl ?_
          refine mk_lv [2, 3, 4, 0] rfl ?_
          exact L69 _ (I 6 5) I (by omega) (by first | exact hlt | omega) (by first | exact fun _ _ => rfl | exact fun j x => (hIo 8 j (by omega)).trans (hlow j (by omega))) (by first | exact fun j x y => absurd x (by omega) | exact km_hi (by omega) hhi hI) (by first | exact fun _ _ _ => rfl | exact fun a b x => (hIo a b (by omega)).trans (hf a b x)) (Nat.lt_succ_self _)
        · skip
          exact hret _ _ _ d_Score_keepMoment_62 (by first | (exfalso; omega) | exact km_old (s := s) hM (by omega) (by omega))
    · skip
      refine mk_aloadn (nx := 32) X 0 d_Score_keepMoment_31 rfl rfl ?_
      refine mk_get (nx := 35) (v := .ref (ad 8)) X 6 (by decide) (sh_Score cs ad _) rfl in_Score 1 (by decide) wd_180 rfl rfl d_Score_keepMoment_32 rfl ?_
      refine mk_iloadn (nx := 36) X 2 d_Score_keepMoment_35 rfl rfl ?_
      refine mk_iconst (nx := 37) X d_Score_keepMoment_36 rfl ?_
      refine mk_isub (nx := 38) X d_Score_keepMoment_37 rfl ?_
      refine mk_iald (nx := 39) (j := (s - 1).toNat) X 8 0 (by decide) (sh_moments cs ad _) rfl (by omega) (by omega) (by decide) rfl d_Score_keepMoment_38 rfl ?_
      refine mk_iloadn (nx := 40) X 1 d_Score_keepMoment_39 rfl rfl ?_
      refine mk_icmp_ne (tgt := 47) (nx := 43) X d_Score_keepMoment_40 (by omega) (by omega) (by decide) rfl (fun c40 => ?_) (fun c40 => ?_)
      · skip
        refine mk_iconst (nx := 48) X d_Score_keepMoment_47 rfl ?_
        refine mk_istoren (nx := 49) X [(3, .int (zi 0)), (0, .ref (ad 6)), (1, .int (zi t)), (2, .int (zi s))] d_Score_keepMoment_48 (by decide) rfl rfl ?_
        refine mk_iloadn (nx := 50) X 0 d_Score_keepMoment_49 rfl rfl ?_
        refine mk_if_ne (tgt := 62) (nx := 53) X d_Score_keepMoment_50 (by omega) (by decide) rfl (fun c50 => ?_) (fun c50 => ?_)
        · skip
          exact hret _ _ _ d_Score_keepMoment_62 (by first | (exfalso; omega) | exact km_old (s := s) hM (by omega) (by omega))
        · skip
          refine mk_aloadn (nx := 54) X 1 d_Score_keepMoment_53 rfl rfl ?_
          refine mk_get (nx := 57) (v := .int (zi (I 6 5))) X 6 (by decide) (sh_Score cs ad _) rfl in_Score 5 (by decide) wd_189 rfl rfl d_Score_keepMoment_54 rfl ?_
          refine mk_bipush (nx := 59) X d_Score_keepMoment_57 (by decide) rfl ?_
          refine mk_icmp_lt (tgt := 63) (nx := 62) X d_Score_keepMoment_59 (by omega) (by omega) (by decide) rfl (fun c59 => ?_) (fun c59 => ?_)
          · skip
            refine mk_aloadn (nx := 64) X 1 d_Score_keepMoment_63 rfl rfl ?_
            refine mk_get (nx := 67) (v := .int (zi (I 6 5))) X 6 (by decide) (sh_Score cs ad _) rfl in_Score 5 (by decide) wd_189 rfl rfl d_Score_keepMoment_64 rfl ?_
            refine mk_istore (nx := 69) X [(4, .int (zi (I 6 5))), (3, .int (zi 0)), (0, .ref (ad 6)), (1, .int (zi t)), (2, .int (zi s))] d_Score_keepMoment_67 (by decide) rfl rfl ?_
            refine mk_lv [2, 3, 4, 0] rfl ?_
            exact L69 _ (I 6 5) I (by omega) (by first | exact hlt | omega) (by first | exact fun _ _ => rfl | exact fun j x => (hIo 8 j (by omega)).trans (hlow j (by omega))) (by first | exact fun j x y => absurd x (by omega) | exact km_hi (by omega) hhi hI) (by first | exact fun _ _ _ => rfl | exact fun a b x => (hIo a b (by omega)).trans (hf a b x)) (Nat.lt_succ_self _)
          · skip
            exact hret _ _ _ d_Score_keepMoment_62 (by first | (exfalso; omega) | exact km_old (s := s) hM (by omega) (by omega))
      · skip
        refine mk_iconst (nx := 44) X d_Score_keepMoment_43 rfl ?_
        refine mk_goto (tgt := 48) X d_Score_keepMoment_44 (by decide) ?_
        refine mk_istoren (nx := 49) X [(3, .int (zi 1)), (0, .ref (ad 6)), (1, .int (zi t)), (2, .int (zi s))] d_Score_keepMoment_48 (by decide) rfl rfl ?_
        refine mk_iloadn (nx := 50) X 0 d_Score_keepMoment_49 rfl rfl ?_
        refine mk_if_ne (tgt := 62) (nx := 53) X d_Score_keepMoment_50 (by omega) (by decide) rfl (fun c50 => ?_) (fun c50 => ?_)
        · skip
          exact hret _ _ _ d_Score_keepMoment_62 (by first | (exfalso; omega) | exact km_old (s := s) hM (by omega) (by omega))
        · skip
          refine mk_aloadn (nx := 54) X 1 d_Score_keepMoment_53 rfl rfl ?_
          refine mk_get (nx := 57) (v := .int (zi (I 6 5))) X 6 (by decide) (sh_Score cs ad _) rfl in_Score 5 (by decide) wd_189 rfl rfl d_Score_keepMoment_54 rfl ?_
          refine mk_bipush (nx := 59) X d_Score_keepMoment_57 (by decide) rfl ?_
          refine mk_icmp_lt (tgt := 63) (nx := 62) X d_Score_keepMoment_59 (by omega) (by omega) (by decide) rfl (fun c59 => ?_) (fun c59 => ?_)
          · skip
            refine mk_aloadn (nx := 64) X 1 d_Score_keepMoment_63 rfl rfl ?_
            refine mk_get (nx := 67) (v := .int (zi (I 6 5))) X 6 (by decide) (sh_Score cs ad _) rfl in_Score 5 (by decide) wd_189 rfl rfl d_Score_keepMoment_64 rfl ?_
            refine mk_istore (nx := 69) X [(4, .int (zi (I 6 5))), (3, .int (zi 1)), (0, .ref (ad 6)), (1, .int (zi t)), (2, .int (zi s))] d_Score_keepMoment_67 (by decide) rfl rfl ?_
            refine mk_lv [2, 3, 4, 0] rfl ?_
            exact L69 _ (I 6 5) I (by omega) (by first | exact hlt | omega) (by first | exact fun _ _ => rfl | exact fun j x => (hIo 8 j (by omega)).trans (hlow j (by omega))) (by first | exact fun j x y => absurd x (by omega) | exact km_hi (by omega) hhi hI) (by first | exact fun _ _ _ => rfl | exact fun a b x => (hIo a b (by omega)).trans (hf a b x)) (Nat.lt_succ_self _)
          · skip
            exact hret _ _ _ d_Score_keepMoment_62 (by first | (exfalso; omega) | exact km_old (s := s) hM (by omega) (by omega))
  have L5 : ∀ nf : Nat, ∀ (s : Int), (0 ≤ s ∧ s ≤ I 6 5) → (∀ j : Nat, s ≤ (j : Int) → j < nJ I → t < I 8 j) → s.toNat < nf → mk_A p_ l e_ rm_Score_keepMoment s_ m_ as_ bl_ me_ co_ Q_ 5 D cmcl (cm_sh cs ad) 48 48 ad I [(0, .ref (ad 6)), (1, .int (zi t)), (2, .int (zi s))] 5 [] := by
    intro nf
    induction nf with
    | zero => intro s hs hgt hn; exact absurd hn (Nat.not_lt_zero _)
    | succ nf ih5 =>
      intro s hs hgt hn5
      have hq : 0 < s → 0 ≤ I 8 (s - 1).toNat ∧ I 8 (s - 1).toNat ≤ 100000 := fun z => hM.2.2 _ (by unfold nJ; omega)
      refine mk_iloadn (nx := 6) X 2 d_Score_keepMoment_5 rfl rfl ?_
      refine mk_if_le (tgt := 27) (nx := 9) X d_Score_keepMoment_6 (by omega) (by decide) rfl (fun c6 => ?_) (fun c6 => ?_)
      · skip
        refine mk_lv [0, 1, 2] rfl ?_
        exact L27 s (by omega) (by exact hgt) (by omega)
      · skip
        refine mk_aloadn (nx := 10) X 0 d_Score_keepMoment_9 rfl rfl ?_
        refine mk_get (nx := 13) (v := .ref (ad 8)) X 6 (by decide) (sh_Score cs ad _) rfl in_Score 1 (by decide) wd_180 rfl rfl d_Score_keepMoment_10 rfl ?_
        refine mk_iloadn (nx := 14) X 2 d_Score_keepMoment_13 rfl rfl ?_
        refine mk_iconst (nx := 15) X d_Score_keepMoment_14 rfl ?_
        refine mk_isub (nx := 16) X d_Score_keepMoment_15 rfl ?_
        refine mk_iald (nx := 17) (j := (s - 1).toNat) X 8 0 (by decide) (sh_moments cs ad _) rfl (by omega) (by omega) (by decide) rfl d_Score_keepMoment_16 rfl ?_
        refine mk_iloadn (nx := 18) X 1 d_Score_keepMoment_17 rfl rfl ?_
        refine mk_icmp_le (tgt := 27) (nx := 21) X d_Score_keepMoment_18 (by omega) (by omega) (by decide) rfl (fun c18 => ?_) (fun c18 => ?_)
        · skip
          refine mk_lv [0, 1, 2] rfl ?_
          exact L27 s (by omega) (by exact hgt) (by omega)
        · skip
          refine mk_iinc (nx := 24) X 2 [(2, .int (zi (s + (-1)))), (0, .ref (ad 6)), (1, .int (zi t))] d_Score_keepMoment_21 rfl (by decide) rfl rfl ?_
          refine mk_goto (tgt := 5) X d_Score_keepMoment_24 (by decide) ?_
          refine mk_lv [1, 2, 0] rfl ?_
          exact ih5 (s + (-1)) (by omega) (by first | exact fun j x y => absurd y (by unfold nJ; omega) | exact km_gt (by omega) hgt (by omega)) (by omega)
  refine mk_aloadn (nx := 1) X 0 d_Score_keepMoment_0 rfl rfl ?_
  refine mk_get (nx := 4) (v := .int (zi (I 6 5))) X 6 (by decide) (sh_Score cs ad _) rfl in_Score 5 (by decide) wd_189 rfl rfl d_Score_keepMoment_1 rfl ?_
  refine mk_istoren (nx := 5) X [(2, .int (zi (I 6 5))), (0, .ref (ad 6)), (1, .int (zi t))] d_Score_keepMoment_4 (by decide) rfl rfl ?_
  refine mk_lv [1, 2, 0] rfl ?_
  exact L5 _ (I 6 5) (by omega) (by first | exact fun j x y => absurd y (by unfold nJ; omega) | exact km_gt (by omega) hgt (by omega)) (Nat.lt_succ_self _)

-- CanonMaker$Score.gatherMoments()V
theorem d_Score_gatherMoments_0 : decode prog_5_method_3_code 0 = .ok (.aload_n 0, 1) := by decide +kernel
theorem d_Score_gatherMoments_1 : decode prog_5_method_3_code 1 = .ok (.iconst 0, 1) := by decide +kernel
theorem d_Score_gatherMoments_2 : decode prog_5_method_3_code 2 = .ok (.putfield 39, 3) := by decide +kernel
theorem d_Score_gatherMoments_5 : decode prog_5_method_3_code 5 = .ok (.iconst 0, 1) := by decide +kernel
theorem d_Score_gatherMoments_6 : decode prog_5_method_3_code 6 = .ok (.istore_n 1, 1) := by decide +kernel
theorem d_Score_gatherMoments_7 : decode prog_5_method_3_code 7 = .ok (.iload_n 1, 1) := by decide +kernel
theorem d_Score_gatherMoments_8 : decode prog_5_method_3_code 8 = .ok (.iconst 4, 1) := by decide +kernel
theorem d_Score_gatherMoments_9 : decode prog_5_method_3_code 9 = .ok (.if_icmp .ge 60, 3) := by decide +kernel
theorem d_Score_gatherMoments_12 : decode prog_5_method_3_code 12 = .ok (.aload_n 0, 1) := by decide +kernel
theorem d_Score_gatherMoments_13 : decode prog_5_method_3_code 13 = .ok (.getfield 11, 3) := by decide +kernel
theorem d_Score_gatherMoments_16 : decode prog_5_method_3_code 16 = .ok (.iload_n 1, 1) := by decide +kernel
theorem d_Score_gatherMoments_17 : decode prog_5_method_3_code 17 = .ok (.aaload, 1) := by decide +kernel
theorem d_Score_gatherMoments_18 : decode prog_5_method_3_code 18 = .ok (.astore_n 2, 1) := by decide +kernel
theorem d_Score_gatherMoments_19 : decode prog_5_method_3_code 19 = .ok (.iconst 0, 1) := by decide +kernel
theorem d_Score_gatherMoments_20 : decode prog_5_method_3_code 20 = .ok (.istore_n 3, 1) := by decide +kernel
theorem d_Score_gatherMoments_21 : decode prog_5_method_3_code 21 = .ok (.aload_n 2, 1) := by decide +kernel
theorem d_Score_gatherMoments_22 : decode prog_5_method_3_code 22 = .ok (.getfield 31, 3) := by decide +kernel
theorem d_Score_gatherMoments_25 : decode prog_5_method_3_code 25 = .ok (.ifCond .eq 38, 3) := by decide +kernel
theorem d_Score_gatherMoments_28 : decode prog_5_method_3_code 28 = .ok (.iload_n 3, 1) := by decide +kernel
theorem d_Score_gatherMoments_29 : decode prog_5_method_3_code 29 = .ok (.aload_n 2, 1) := by decide +kernel
theorem d_Score_gatherMoments_30 : decode prog_5_method_3_code 30 = .ok (.getfield 43, 3) := by decide +kernel
theorem d_Score_gatherMoments_33 : decode prog_5_method_3_code 33 = .ok (.if_icmp .ge 30, 3) := by decide +kernel
theorem d_Score_gatherMoments_36 : decode prog_5_method_3_code 36 = .ok (.aload_n 2, 1) := by decide +kernel
theorem d_Score_gatherMoments_37 : decode prog_5_method_3_code 37 = .ok (.getfield 44, 3) := by decide +kernel
theorem d_Score_gatherMoments_40 : decode prog_5_method_3_code 40 = .ok (.iload_n 3, 1) := by decide +kernel
theorem d_Score_gatherMoments_41 : decode prog_5_method_3_code 41 = .ok (.iaload, 1) := by decide +kernel
theorem d_Score_gatherMoments_42 : decode prog_5_method_3_code 42 = .ok (.sipush 1000, 3) := by decide +kernel
theorem d_Score_gatherMoments_45 : decode prog_5_method_3_code 45 = .ok (.if_icmp .eq 12, 3) := by decide +kernel
theorem d_Score_gatherMoments_48 : decode prog_5_method_3_code 48 = .ok (.aload_n 0, 1) := by decide +kernel
theorem d_Score_gatherMoments_49 : decode prog_5_method_3_code 49 = .ok (.aload_n 2, 1) := by decide +kernel
theorem d_Score_gatherMoments_50 : decode prog_5_method_3_code 50 = .ok (.iload_n 3, 1) := by decide +kernel
theorem d_Score_gatherMoments_51 : decode prog_5_method_3_code 51 = .ok (.invokevirtual 47, 3) := by decide +kernel
theorem d_Score_gatherMoments_54 : decode prog_5_method_3_code 54 = .ok (.invokevirtual 51, 3) := by decide +kernel
theorem d_Score_gatherMoments_57 : decode prog_5_method_3_code 57 = .ok (.iinc 3 1, 3) := by decide +kernel
theorem d_Score_gatherMoments_60 : decode prog_5_method_3_code 60 = .ok (.goto (-39), 3) := by decide +kernel
theorem d_Score_gatherMoments_63 : decode prog_5_method_3_code 63 = .ok (.iinc 1 1, 3) := by decide +kernel
theorem d_Score_gatherMoments_66 : decode prog_5_method_3_code 66 = .ok (.goto (-59), 3) := by decide +kernel
theorem d_Score_gatherMoments_69 : decode prog_5_method_3_code 69 = .ok (.return_, 1) := by decide +kernel
abbrev rm_Score_gatherMoments : Room := { frames := 2, cells := 0, slots := 0, locals := 44 }
set_option maxHeartbeats 4000000 in
set_option maxRecDepth 100000 in
theorem c_Score_gatherMoments (l : Launch) (D : va_G) (cs : Nat → ClassId) (ad : Nat → Nat) (zt : Nat) (hi : cm_inj ad) (c I : Wo) (hw : wfN c) (hS : wfS c) (hV : wfV c) (hF : ScF c I) (hT : ScT c I) (hn : NTL c) : cm_C l D cs ad zt y_Score_gatherMoments ws_Score_gatherMoments rm_Score_gatherMoments [.ref (ad 6)] I (mk_pv (fun J => MomA c J (nJ J) ∧ (0 ≤ J 6 5 ∧ J 6 5 ≤ 96) ∧ (∀ a b, ¬ a = 8 → ¬ (a = 6 ∧ b = 5) → J a b = I a b))) := by
  refine mk_metv (own := "CanonMaker$Score") (Ts := wA) hi (Nat.le_refl _) (by decide) rfl (fun w h => List.mem_cons_of_mem _ h) rfl (Nat.le_of_ble_eq_true rfl) [(0, .ref (ad 6))] rfl ?_
  intro p_ e_ s_ m_ as_ bl_ me_ co_ Q_ X hret
  have hcn := cn_e hw
  have heb := an_end_b hw hS hV
  have L7 : ∀ nf : Nat, ∀ (v : Nat) (Jc : Wo), (v ≤ 4) → (GmI c I Jc v 0) → 4 - v < nf → mk_A p_ l e_ rm_Score_gatherMoments s_ m_ as_ bl_ me_ co_ Q_ 4 D cmcl (cm_sh cs ad) 48 48 ad Jc [(0, .ref (ad 6)), (1, .int (zi (v : Int)))] 7 [] := by
    intro nf
    induction nf with
    | zero => intro v Jc hv hG hn; exact absurd hn (Nat.not_lt_zero _)
    | succ nf ih7 =>
      intro v Jc hv hG hn7
      have L21 : ∀ nf : Nat, ∀ (p : Nat) (Jb : Wo), (p ≤ cn c) → (v < 4) → (GmI c I Jb v p) → 24 - p < nf → mk_A p_ l e_ rm_Score_gatherMoments s_ m_ as_ bl_ me_ co_ Q_ 4 D cmcl (cm_sh cs ad) 48 48 ad Jb [(0, .ref (ad 6)), (1, .int (zi (v : Int))), (2, .ref (ad (12 + 6 * v))), (3, .int (zi (p : Int)))] 21 [] := by
        intro nf
        induction nf with
        | zero => intro p Jb hp hv4 hG hn; exact absurd hn (Nat.not_lt_zero _)
        | succ nf ih21 =>
          intro p Jb hp hv4 hG hn21
          have hFJ : ScF c Jb := ScF_fr (fun a b x y _ => hG.2.2.2 a b (by omega) (by omega)) hF
          have hTJ : ScT c Jb := ScT_fr (fun a b x y => hG.2.2.2 a b (by omega) (by omega)) hT
          have hv5 := hV.1 v (by omega)
          refine mk_aloadn (nx := 22) X 2 d_Score_gatherMoments_21 rfl rfl ?_
          refine mk_get (nx := 25) (v := .int (zi (Jb (12 + 6 * v) 10))) X (12 + 6 * v) (by omega) (sh_Line cs ad (show v < 4 by omega) _) rfl in_Line 10 (by decide) wd_147 rfl rfl d_Score_gatherMoments_22 rfl ?_
          rw [show Jb (12 + 6 * v) 10 = c (3 + v) 0 from (hFJ v (by omega)).1.2.2.2.2.2.1]
          refine mk_if_eq (tgt := 63) (nx := 28) X d_Score_gatherMoments_25 (by omega) (by decide) rfl (fun c25 => ?_) (fun c25 => ?_)
          · skip
            refine mk_iinc (nx := 66) X 1 [(1, .int (zi ((v : Int) + 1))), (0, .ref (ad 6)), (2, .ref (ad (12 + 6 * v))), (3, .int (zi (p : Int)))] d_Score_gatherMoments_63 rfl (by decide) rfl rfl ?_
            refine mk_goto (tgt := 7) X d_Score_gatherMoments_66 (by decide) ?_
            refine mk_lv [1, 0] rfl ?_
            exact ih7 (v + 1) Jb (by omega) (by first | exact gm_0 hJb | exact gm_e hG hcn.2 hp (by omega)) (by omega)
          · skip
            refine mk_iloadn (nx := 29) X 3 d_Score_gatherMoments_28 rfl rfl ?_
            refine mk_aloadn (nx := 30) X 2 d_Score_gatherMoments_29 rfl rfl ?_
            refine mk_get (nx := 33) (v := .int (zi (Jb (12 + 6 * v) 5))) X (12 + 6 * v) (by omega) (sh_Line cs ad (show v < 4 by omega) _) rfl in_Line 5 (by decide) wd_140 rfl rfl d_Score_gatherMoments_30 rfl ?_
            rw [show Jb (12 + 6 * v) 5 = c 0 0 from (hFJ v (by omega)).1.1]
            refine mk_icmp_ge (tgt := 63) (nx := 36) X d_Score_gatherMoments_33 (by omega) (by omega) (by decide) rfl (fun c33 => ?_) (fun c33 => ?_)
            · skip
              refine mk_iinc (nx := 66) X 1 [(1, .int (zi ((v : Int) + 1))), (0, .ref (ad 6)), (2, .ref (ad (12 + 6 * v))), (3, .int (zi (p : Int)))] d_Score_gatherMoments_63 rfl (by decide) rfl rfl ?_
              refine mk_goto (tgt := 7) X d_Score_gatherMoments_66 (by decide) ?_
              refine mk_lv [1, 0] rfl ?_
              exact ih7 (v + 1) Jb (by omega) (by first | exact gm_0 hJb | exact gm_e hG hcn.2 hp (by omega)) (by omega)
            · skip
              have hcb := clp_b hw hV hv4 (show p < cn c by omega)
              have hcf := ctm_f hw hS hV hv4 (show c (3 + v) 0 = 1 by omega) (hn v hv4) (show p < cn c by omega)
              refine mk_aloadn (nx := 37) X 2 d_Score_gatherMoments_36 rfl rfl ?_
              refine mk_get (nx := 40) (v := .ref (ad (15 + 6 * v))) X (12 + 6 * v) (by omega) (sh_Line cs ad (show v < 4 by omega) _) rfl in_Line 2 (by decide) wd_130 rfl rfl d_Score_gatherMoments_37 rfl ?_
              refine mk_iloadn (nx := 41) X 3 d_Score_gatherMoments_40 rfl rfl ?_
              refine mk_iald (nx := 42) (j := p) X (15 + 6 * v) 0 (by omega) (sh_Lpit cs ad (show v < 4 by omega) _) rfl (by omega) (by omega) (by decide) rfl d_Score_gatherMoments_41 rfl ?_
              rw [show Jb (15 + 6 * v) p = clp c v p from (hTJ v (by omega) (by omega) p (by omega))]
              refine mk_sipush (nx := 45) X d_Score_gatherMoments_42 (by decide) rfl ?_
              refine mk_icmp_eq (tgt := 57) (nx := 48) X d_Score_gatherMoments_45 (by omega) (by omega) (by decide) rfl (fun c45 => ?_) (fun c45 => ?_)
              · skip
                refine mk_iinc (nx := 60) X 3 [(3, .int (zi ((p : Int) + 1))), (0, .ref (ad 6)), (1, .int (zi (v : Int))), (2, .ref (ad (12 + 6 * v)))] d_Score_gatherMoments_57 rfl (by decide) rfl rfl ?_
                refine mk_goto (tgt := 21) X d_Score_gatherMoments_60 (by decide) ?_
                refine mk_lv [1, 2, 3, 0] rfl ?_
                exact ih21 (p + 1) Jb (by omega) (by omega) (by first | exact hG | exact gm_n hG (by omega) | exact gm_y hG (by omega) (by omega) (by omega) (by omega) hJA) (by omega)
              · skip
                refine mk_aloadn (nx := 49) X 0 d_Score_gatherMoments_48 rfl rfl ?_
                refine mk_aloadn (nx := 50) X 2 d_Score_gatherMoments_49 rfl rfl ?_
                refine mk_iloadn (nx := 51) X 3 d_Score_gatherMoments_50 rfl rfl ?_
                refine mk_callVi (nx := 54) (n := 1) (As := [.int (zi (p : Int))]) (rest := [.ref (ad 6)]) X (12 + 6 * v) (by omega) (sh_Line cs ad (show v < 4 by omega) _) rfl (c_Line_timeOf l D cs ad zt hi c Jb hw hS hV v (by omega) (hFJ v (by omega)).1 (hFJ v (by omega)).2.1 p (by omega)) (g_Line_timeOf wd_453) rfl ⟨rfl, rfl⟩ (by decide +kernel) ⟨by decide, by decide⟩ rfl (Nat.le_of_ble_eq_true rfl) rfl d_Score_gatherMoments_51 rfl ?_
                intro r51 J1 hJ1
                obtain ⟨rfl, rfl⟩ := hJ1
                refine mk_callVv (nx := 57) (n := 1) (As := [.int (zi (ctm c v p))]) (rest := []) X 6 (by decide) (sh_Score cs ad _) rfl (c_Score_keepMoment l D cs ad zt hi Jb hG.1 (by have := hG.2.2.1; omega) (ctm c v p) (by omega)) (g_Score_keepMoment wd_457) rfl ⟨rfl, rfl⟩ (by decide +kernel) ⟨by decide, by decide⟩ rfl (Nat.le_of_ble_eq_true rfl) rfl d_Score_gatherMoments_54 rfl ?_
                intro JA hJA
                refine mk_iinc (nx := 60) X 3 [(3, .int (zi ((p : Int) + 1))), (0, .ref (ad 6)), (1, .int (zi (v : Int))), (2, .ref (ad (12 + 6 * v)))] d_Score_gatherMoments_57 rfl (by decide) rfl rfl ?_
                refine mk_goto (tgt := 21) X d_Score_gatherMoments_60 (by decide) ?_
                refine mk_lv [1, 2, 3, 0] rfl ?_
                exact ih21 (p + 1) JA (by omega) (by omega) (by first | exact hG | exact gm_n hG (by omega) | exact gm_y hG (by omega) (by omega) (by omega) (by omega) hJA) (by omega)
      refine mk_iloadn (nx := 8) X 1 d_Score_gatherMoments_7 rfl rfl ?_
      refine mk_iconst (nx := 9) X d_Score_gatherMoments_8 rfl ?_
      refine mk_icmp_ge (tgt := 69) (nx := 12) X d_Score_gatherMoments_9 (by omega) (by omega) (by decide) rfl (fun c9 => ?_) (fun c9 => ?_)
      · skip
        exact hret _ _ _ d_Score_gatherMoments_69 (by have hv2 : v = 4 := (by omega); subst hv2; exact ⟨(gm_end hw hS hV hn hG).1, (gm_end hw hS hV hn hG).2, hG.2.2.2⟩)
      · skip
        refine mk_aloadn (nx := 13) X 0 d_Score_gatherMoments_12 rfl rfl ?_
        refine mk_get (nx := 16) (v := .ref (ad 7)) X 6 (by decide) (sh_Score cs ad _) rfl in_Score 0 (by decide) wd_177 rfl rfl d_Score_gatherMoments_13 rfl ?_
        refine mk_iloadn (nx := 17) X 1 d_Score_gatherMoments_16 rfl rfl ?_
        refine mk_aald (nx := 18) (j := v) X 7 3 (by decide) (sh_lines cs ad _) rfl (by omega) (by omega) (by decide) rfl rfl d_Score_gatherMoments_17 rfl ?_
        refine mk_astoren (nx := 19) X [(2, .ref (ad (12 + 6 * v))), (0, .ref (ad 6)), (1, .int (zi (v : Int)))] d_Score_gatherMoments_18 (by decide) rfl rfl ?_
        refine mk_iconst (nx := 20) X d_Score_gatherMoments_19 rfl ?_
        refine mk_istoren (nx := 21) X [(3, .int (zi 0)), (2, .ref (ad (12 + 6 * v))), (0, .ref (ad 6)), (1, .int (zi (v : Int)))] d_Score_gatherMoments_20 (by decide) rfl rfl ?_
        refine mk_lv [2, 3, 1, 0] rfl ?_
        exact L21 _ 0 Jc (by omega) (by omega) (by first | exact hG | exact gm_n hG (by omega) | exact gm_y hG (by omega) (by omega) (by omega) (by omega) hJA) (Nat.lt_succ_self _)
  refine mk_aloadn (nx := 1) X 0 d_Score_gatherMoments_0 rfl rfl ?_
  refine mk_iconst (nx := 2) X d_Score_gatherMoments_1 rfl ?_
  refine mk_putf (nx := 5) (ty := .int) X t_Score t_Score_ok n_Score 6 (by decide) (sh_Score cs ad _) rfl in_Score 5 (by decide) wd_189 rfl rfl (by decide +kernel) rfl rfl (Nat.le_of_ble_eq_true rfl) ((sh_Score cs ad _).trans rfl) d_Score_gatherMoments_2 rfl ?_
  obtain ⟨J2, hJ2⟩ : ∃ W_ : Wo, W_ = up2 I 6 5 0 := ⟨_, rfl⟩
  refine mk_same hJ2.symm ?_
  have hJ2s : J2 6 5 = 0 := hJ2 ▸ up2_ss I 6 5 0
  have hJ2o : ∀ a b, (a ≠ 6 ∨ b ≠ 5) → J2 a b = I a b := hJ2 ▸ up2_o I 6 5 0
  refine mk_iconst (nx := 6) X d_Score_gatherMoments_5 rfl ?_
  refine mk_istoren (nx := 7) X [(1, .int (zi 0)), (0, .ref (ad 6))] d_Score_gatherMoments_6 (by decide) rfl rfl ?_
  refine mk_lv [1, 0] rfl ?_
  exact L7 _ 0 J2 (by omega) (by first | exact gm_0 hJ2 | exact gm_e hG hcn.2 hp (by omega)) (Nat.lt_succ_self _)

-- CanonMaker$Score.notesAround(LCanonMaker$Line;II)I
theorem d_Score_notesAround_0 : decode prog_5_method_6_code 0 = .ok (.iconst 1, 1) := by decide +kernel
theorem d_Score_notesAround_1 : decode prog_5_method_6_code 1 = .ok (.aload_n 0, 1) := by decide +kernel
theorem d_Score_notesAround_2 : decode prog_5_method_6_code 2 = .ok (.getfield 62, 3) := by decide +kernel
theorem d_Score_notesAround_5 : decode prog_5_method_6_code 5 = .ok (.iload_n 1, 1) := by decide +kernel
theorem d_Score_notesAround_6 : decode prog_5_method_6_code 6 = .ok (.iaload, 1) := by decide +kernel
theorem d_Score_notesAround_7 : decode prog_5_method_6_code 7 = .ok (.ishl, 1) := by decide +kernel
theorem d_Score_notesAround_8 : decode prog_5_method_6_code 8 = .ok (.istore_n 3, 1) := by decide +kernel
theorem d_Score_notesAround_9 : decode prog_5_method_6_code 9 = .ok (.aload_n 0, 1) := by decide +kernel
theorem d_Score_notesAround_10 : decode prog_5_method_6_code 10 = .ok (.getfield 65, 3) := by decide +kernel
theorem d_Score_notesAround_13 : decode prog_5_method_6_code 13 = .ok (.iload_n 1, 1) := by decide +kernel
theorem d_Score_notesAround_14 : decode prog_5_method_6_code 14 = .ok (.iaload, 1) := by decide +kernel
theorem d_Score_notesAround_15 : decode prog_5_method_6_code 15 = .ok (.iconst (-1), 1) := by decide +kernel
theorem d_Score_notesAround_16 : decode prog_5_method_6_code 16 = .ok (.if_icmp .eq 19, 3) := by decide +kernel
theorem d_Score_notesAround_19 : decode prog_5_method_6_code 19 = .ok (.iload_n 3, 1) := by decide +kernel
theorem d_Score_notesAround_20 : decode prog_5_method_6_code 20 = .ok (.iconst 1, 1) := by decide +kernel
theorem d_Score_notesAround_21 : decode prog_5_method_6_code 21 = .ok (.aload_n 0, 1) := by decide +kernel
theorem d_Score_notesAround_22 : decode prog_5_method_6_code 22 = .ok (.getfield 62, 3) := by decide +kernel
theorem d_Score_notesAround_25 : decode prog_5_method_6_code 25 = .ok (.aload_n 0, 1) := by decide +kernel
theorem d_Score_notesAround_26 : decode prog_5_method_6_code 26 = .ok (.getfield 65, 3) := by decide +kernel
theorem d_Score_notesAround_29 : decode prog_5_method_6_code 29 = .ok (.iload_n 1, 1) := by decide +kernel
theorem d_Score_notesAround_30 : decode prog_5_method_6_code 30 = .ok (.iaload, 1) := by decide +kernel
theorem d_Score_notesAround_31 : decode prog_5_method_6_code 31 = .ok (.iaload, 1) := by decide +kernel
theorem d_Score_notesAround_32 : decode prog_5_method_6_code 32 = .ok (.ishl, 1) := by decide +kernel
theorem d_Score_notesAround_33 : decode prog_5_method_6_code 33 = .ok (.ior, 1) := by decide +kernel
theorem d_Score_notesAround_34 : decode prog_5_method_6_code 34 = .ok (.istore_n 3, 1) := by decide +kernel
theorem d_Score_notesAround_35 : decode prog_5_method_6_code 35 = .ok (.aload_n 0, 1) := by decide +kernel
theorem d_Score_notesAround_36 : decode prog_5_method_6_code 36 = .ok (.getfield 68, 3) := by decide +kernel
theorem d_Score_notesAround_39 : decode prog_5_method_6_code 39 = .ok (.iload_n 1, 1) := by decide +kernel
theorem d_Score_notesAround_40 : decode prog_5_method_6_code 40 = .ok (.iaload, 1) := by decide +kernel
theorem d_Score_notesAround_41 : decode prog_5_method_6_code 41 = .ok (.iconst (-1), 1) := by decide +kernel
theorem d_Score_notesAround_42 : decode prog_5_method_6_code 42 = .ok (.if_icmp .eq 19, 3) := by decide +kernel
theorem d_Score_notesAround_45 : decode prog_5_method_6_code 45 = .ok (.iload_n 3, 1) := by decide +kernel
theorem d_Score_notesAround_46 : decode prog_5_method_6_code 46 = .ok (.iconst 1, 1) := by decide +kernel
theorem d_Score_notesAround_47 : decode prog_5_method_6_code 47 = .ok (.aload_n 0, 1) := by decide +kernel
theorem d_Score_notesAround_48 : decode prog_5_method_6_code 48 = .ok (.getfield 62, 3) := by decide +kernel
theorem d_Score_notesAround_51 : decode prog_5_method_6_code 51 = .ok (.aload_n 0, 1) := by decide +kernel
theorem d_Score_notesAround_52 : decode prog_5_method_6_code 52 = .ok (.getfield 68, 3) := by decide +kernel
theorem d_Score_notesAround_55 : decode prog_5_method_6_code 55 = .ok (.iload_n 1, 1) := by decide +kernel
theorem d_Score_notesAround_56 : decode prog_5_method_6_code 56 = .ok (.iaload, 1) := by decide +kernel
theorem d_Score_notesAround_57 : decode prog_5_method_6_code 57 = .ok (.iaload, 1) := by decide +kernel
theorem d_Score_notesAround_58 : decode prog_5_method_6_code 58 = .ok (.ishl, 1) := by decide +kernel
theorem d_Score_notesAround_59 : decode prog_5_method_6_code 59 = .ok (.ior, 1) := by decide +kernel
theorem d_Score_notesAround_60 : decode prog_5_method_6_code 60 = .ok (.istore_n 3, 1) := by decide +kernel
theorem d_Score_notesAround_61 : decode prog_5_method_6_code 61 = .ok (.aload_n 0, 1) := by decide +kernel
theorem d_Score_notesAround_62 : decode prog_5_method_6_code 62 = .ok (.getfield 71, 3) := by decide +kernel
theorem d_Score_notesAround_65 : decode prog_5_method_6_code 65 = .ok (.ifCond .eq 14, 3) := by decide +kernel
theorem d_Score_notesAround_68 : decode prog_5_method_6_code 68 = .ok (.iload_n 2, 1) := by decide +kernel
theorem d_Score_notesAround_69 : decode prog_5_method_6_code 69 = .ok (.iconst (-1), 1) := by decide +kernel
theorem d_Score_notesAround_70 : decode prog_5_method_6_code 70 = .ok (.if_icmp .eq 9, 3) := by decide +kernel
theorem d_Score_notesAround_73 : decode prog_5_method_6_code 73 = .ok (.iload_n 3, 1) := by decide +kernel
theorem d_Score_notesAround_74 : decode prog_5_method_6_code 74 = .ok (.iconst 1, 1) := by decide +kernel
theorem d_Score_notesAround_75 : decode prog_5_method_6_code 75 = .ok (.iload_n 2, 1) := by decide +kernel
theorem d_Score_notesAround_76 : decode prog_5_method_6_code 76 = .ok (.ishl, 1) := by decide +kernel
theorem d_Score_notesAround_77 : decode prog_5_method_6_code 77 = .ok (.ior, 1) := by decide +kernel
theorem d_Score_notesAround_78 : decode prog_5_method_6_code 78 = .ok (.istore_n 3, 1) := by decide +kernel
theorem d_Score_notesAround_79 : decode prog_5_method_6_code 79 = .ok (.iload_n 3, 1) := by decide +kernel
theorem d_Score_notesAround_80 : decode prog_5_method_6_code 80 = .ok (.ireturn, 1) := by decide +kernel
abbrev rm_Score_notesAround : Room := { frames := 0, cells := 0, slots := 0, locals := 0 }
set_option maxHeartbeats 4000000 in
set_option maxRecDepth 100000 in
theorem c_Score_notesAround (l : Launch) (D : va_G) (cs : Nat → ClassId) (ad : Nat → Nat) (zt : Nat) (hi : cm_inj ad) (c I : Wo) (hw : wfN c) (hS : wfS c) (hV : wfV c) (v : Nat) (hv : v < 4) (hF : LnF c I v) (hB : LnB c I v) (hN : LnN c I v) (p : Nat) (hp : p < cn c) : cm_C l D cs ad zt y_Score_notesAround ws_Score_notesAround rm_Score_notesAround [.ref (ad (12 + 6 * v)), .int (zi (p : Int)), .int (zi (fsr c))] I (mk_pi (fun r J => I = J ∧ (∀ n, n < 24 → ndd c v p n → tbit r n = true))) := by
  refine mk_meti (own := "CanonMaker$Score") (Ts := wA) hi (Nat.le_refl _) (by decide) rfl (fun w h => List.mem_cons_of_mem _ h) rfl (Nat.le_of_ble_eq_true rfl) [(0, .ref (ad (12 + 6 * v))), (1, .int (zi (p : Int))), (2, .int (zi (fsr c)))] rfl ?_
  intro p_ e_ s_ m_ as_ bl_ me_ co_ Q_ X hret
  have hcn := cn_e hw
  have hb1 := cbef_b (c := c) (v := v) hp
  have hb2 := cbeh_b (c := c) (v := v) hp
  have hfs := fsr_cases c
  have L79 : ∀ (x : Int), (∀ n, n < 24 → n = cnt c v p → tbit x n = true) → (∀ n, n < 24 → ¬ cbef c v p = -1 → n = cnt c v (cbef c v p).toNat → tbit x n = true) → (∀ n, n < 24 → ¬ cbeh c v p = -1 → n = cnt c v (cbeh c v p).toNat → tbit x n = true) → (∀ n : Nat, n < 24 → ¬ ziand (c (3 + v) 3) 1 = 0 → ¬ fsr c = -1 → (n : Int) = fsr c → tbit x n = true) → mk_A p_ l e_ rm_Score_notesAround s_ m_ as_ bl_ me_ co_ Q_ 4 D cmcl (cm_sh cs ad) 48 48 ad I [(0, .ref (ad (12 + 6 * v))), (1, .int (zi (p : Int))), (2, .int (zi (fsr c))), (3, .int (zi x))] 79 [] := by
    intro x h1 h2 h3 h4
    refine mk_iloadn (nx := 80) X 3 d_Score_notesAround_79 rfl rfl ?_
    exact hret _ _ _ _ d_Score_notesAround_80 (by exact ⟨rfl, fun n hn hd => hd.elim (h1 n hn) (fun hd => hd.elim (fun z => h2 n hn z.1 z.2) (fun hd => hd.elim (fun z => h3 n hn z.1 z.2) (fun z => h4 n hn z.1 z.2.1 z.2.2)))⟩)
  have L61 : ∀ (x : Int), (∀ n, n < 24 → n = cnt c v p → tbit x n = true) → (∀ n, n < 24 → ¬ cbef c v p = -1 → n = cnt c v (cbef c v p).toNat → tbit x n = true) → (∀ n, n < 24 → ¬ cbeh c v p = -1 → n = cnt c v (cbeh c v p).toNat → tbit x n = true) → mk_A p_ l e_ rm_Score_notesAround s_ m_ as_ bl_ me_ co_ Q_ 4 D cmcl (cm_sh cs ad) 48 48 ad I [(0, .ref (ad (12 + 6 * v))), (1, .int (zi (p : Int))), (2, .int (zi (fsr c))), (3, .int (zi x))] 61 [] := by
    intro x h1 h2 h3
    refine mk_aloadn (nx := 62) X 0 d_Score_notesAround_61 rfl rfl ?_
    refine mk_get (nx := 65) (v := .int (zi (I (12 + 6 * v) 11))) X (12 + 6 * v) (by omega) (sh_Line cs ad (show v < 4 by omega) _) rfl in_Line 11 (by decide) wd_151 rfl rfl d_Score_notesAround_62 rfl ?_
    rw [show I (12 + 6 * v) 11 = (if ziand (c (3 + v) 3) 1 = 0 then 0 else 1 : Int) from hF.2.2.2.2.2.2]
    refine mk_if_eq (tgt := 79) (nx := 68) X d_Score_notesAround_65 (by split <;> omega) (by decide) rfl (fun c65 => ?_) (fun c65 => ?_)
    · skip
      refine mk_lv [0, 1, 2, 3] rfl ?_
      exact L79 x (by first | exact fun n a b => (by rw [hy3]; exact na_l (h1 n a b)) | exact h1) (by first | exact fun n a b d => (by rw [hy3]; exact na_l (h2 n a b d)) | exact h2) (by first | exact fun n a b d => (by rw [hy3]; exact na_l (h3 n a b d)) | exact h3) (by first | exact fun n a b d e => (by rw [hy3]; exact na_r (na_0 a (by rw [e]))) | exact fun n a b d e => absurd (by omega) d | exact fun n a b d e => absurd (if_neg b) (by omega))
    · skip
      refine mk_iloadn (nx := 69) X 2 d_Score_notesAround_68 rfl rfl ?_
      refine mk_iconst (nx := 70) X d_Score_notesAround_69 rfl ?_
      refine mk_icmp_eq (tgt := 79) (nx := 73) X d_Score_notesAround_70 (by omega) (by omega) (by decide) rfl (fun c70 => ?_) (fun c70 => ?_)
      · skip
        refine mk_lv [0, 1, 2, 3] rfl ?_
        exact L79 x (by first | exact fun n a b => (by rw [hy3]; exact na_l (h1 n a b)) | exact h1) (by first | exact fun n a b d => (by rw [hy3]; exact na_l (h2 n a b d)) | exact h2) (by first | exact fun n a b d => (by rw [hy3]; exact na_l (h3 n a b d)) | exact h3) (by first | exact fun n a b d e => (by rw [hy3]; exact na_r (na_0 a (by rw [e]))) | exact fun n a b d e => absurd (by omega) d | exact fun n a b d e => absurd (if_neg b) (by omega))
      · skip
        refine mk_iloadn (nx := 74) X 3 d_Score_notesAround_73 rfl rfl ?_
        refine mk_iconst (nx := 75) X d_Score_notesAround_74 rfl ?_
        refine mk_iloadn (nx := 76) X 2 d_Score_notesAround_75 rfl rfl ?_
        refine mk_ishl (nx := 77) X d_Score_notesAround_76 rfl ?_
        refine mk_ior (nx := 78) X d_Score_notesAround_77 rfl ?_
        refine mk_nm (fun y3 hy3 => ?_)
        refine mk_istoren (nx := 79) X [(3, .int (zi y3)), (0, .ref (ad (12 + 6 * v))), (1, .int (zi (p : Int))), (2, .int (zi (fsr c)))] d_Score_notesAround_78 (by decide) rfl rfl ?_
        refine mk_lv [1, 2, 3, 0] rfl ?_
        exact L79 y3 (by first | exact fun n a b => (by rw [hy3]; exact na_l (h1 n a b)) | exact h1) (by first | exact fun n a b d => (by rw [hy3]; exact na_l (h2 n a b d)) | exact h2) (by first | exact fun n a b d => (by rw [hy3]; exact na_l (h3 n a b d)) | exact h3) (by first | exact fun n a b d e => (by rw [hy3]; exact na_r (na_0 a (by rw [e]))) | exact fun n a b d e => absurd (by omega) d | exact fun n a b d e => absurd (if_neg b) (by omega))
  have L35 : ∀ (x : Int), (∀ n, n < 24 → n = cnt c v p → tbit x n = true) → (∀ n, n < 24 → ¬ cbef c v p = -1 → n = cnt c v (cbef c v p).toNat → tbit x n = true) → mk_A p_ l e_ rm_Score_notesAround s_ m_ as_ bl_ me_ co_ Q_ 4 D cmcl (cm_sh cs ad) 48 48 ad I [(0, .ref (ad (12 + 6 * v))), (1, .int (zi (p : Int))), (2, .int (zi (fsr c))), (3, .int (zi x))] 35 [] := by
    intro x h1 h2
    refine mk_aloadn (nx := 36) X 0 d_Score_notesAround_35 rfl rfl ?_
    refine mk_get (nx := 39) (v := .ref (ad (17 + 6 * v))) X (12 + 6 * v) (by omega) (sh_Line cs ad (show v < 4 by omega) _) rfl in_Line 4 (by decide) wd_138 rfl rfl d_Score_notesAround_36 rfl ?_
    refine mk_iloadn (nx := 40) X 1 d_Score_notesAround_39 rfl rfl ?_
    refine mk_iald (nx := 41) (j := p) X (17 + 6 * v) 0 (by omega) (sh_Lbehind cs ad (show v < 4 by omega) _) rfl (by omega) (by omega) (by decide) rfl d_Score_notesAround_40 rfl ?_
    rw [show I (17 + 6 * v) p = cbeh c v p from (hN p hp).2]
    refine mk_iconst (nx := 42) X d_Score_notesAround_41 rfl ?_
    refine mk_icmp_eq (tgt := 61) (nx := 45) X d_Score_notesAround_42 (by omega) (by omega) (by decide) rfl (fun c42 => ?_) (fun c42 => ?_)
    · skip
      refine mk_lv [0, 1, 2, 3] rfl ?_
      exact L61 x (by first | exact fun n a b => (by rw [hy2]; exact na_l (h1 n a b)) | exact h1) (by first | exact fun n a b d => (by rw [hy2]; exact na_l (h2 n a b d)) | exact h2) (by first | exact fun n a b d => (by rw [hy2]; exact na_r (na_0 a (by rw [d]))) | exact fun n a b d => absurd (by omega) b)
    · skip
      refine mk_iloadn (nx := 46) X 3 d_Score_notesAround_45 rfl rfl ?_
      refine mk_iconst (nx := 47) X d_Score_notesAround_46 rfl ?_
      refine mk_aloadn (nx := 48) X 0 d_Score_notesAround_47 rfl rfl ?_
      refine mk_get (nx := 51) (v := .ref (ad (13 + 6 * v))) X (12 + 6 * v) (by omega) (sh_Line cs ad (show v < 4 by omega) _) rfl in_Line 0 (by decide) wd_127 rfl rfl d_Score_notesAround_48 rfl ?_
      refine mk_aloadn (nx := 52) X 0 d_Score_notesAround_51 rfl rfl ?_
      refine mk_get (nx := 55) (v := .ref (ad (17 + 6 * v))) X (12 + 6 * v) (by omega) (sh_Line cs ad (show v < 4 by omega) _) rfl in_Line 4 (by decide) wd_138 rfl rfl d_Score_notesAround_52 rfl ?_
      refine mk_iloadn (nx := 56) X 1 d_Score_notesAround_55 rfl rfl ?_
      refine mk_iald (nx := 57) (j := p) X (17 + 6 * v) 0 (by omega) (sh_Lbehind cs ad (show v < 4 by omega) _) rfl (by omega) (by omega) (by decide) rfl d_Score_notesAround_56 rfl ?_
      rw [show I (17 + 6 * v) p = cbeh c v p from (hN p hp).2]
      refine mk_iald (nx := 58) (j := (cbeh c v p).toNat) X (13 + 6 * v) 0 (by omega) (sh_Lnotes cs ad (show v < 4 by omega) _) rfl (by omega) (by omega) (by decide) rfl d_Score_notesAround_57 rfl ?_
      rw [show I (13 + 6 * v) ((cbeh c v p).toNat) = (cnt c v ((cbeh c v p).toNat) : Int) from (hB ((cbeh c v p).toNat) (by omega)).1]
      refine mk_ishl (nx := 59) X d_Score_notesAround_58 rfl ?_
      refine mk_ior (nx := 60) X d_Score_notesAround_59 rfl ?_
      refine mk_nm (fun y2 hy2 => ?_)
      refine mk_istoren (nx := 61) X [(3, .int (zi y2)), (0, .ref (ad (12 + 6 * v))), (1, .int (zi (p : Int))), (2, .int (zi (fsr c)))] d_Score_notesAround_60 (by decide) rfl rfl ?_
      refine mk_lv [1, 2, 3, 0] rfl ?_
      exact L61 y2 (by first | exact fun n a b => (by rw [hy2]; exact na_l (h1 n a b)) | exact h1) (by first | exact fun n a b d => (by rw [hy2]; exact na_l (h2 n a b d)) | exact h2) (by first | exact fun n a b d => (by rw [hy2]; exact na_r (na_0 a (by rw [d]))) | exact fun n a b d => absurd (by omega) b)
  refine mk_iconst (nx := 1) X d_Score_notesAround_0 rfl ?_
  refine mk_aloadn (nx := 2) X 0 d_Score_notesAround_1 rfl rfl ?_
  refine mk_get (nx := 5) (v := .ref (ad (13 + 6 * v))) X (12 + 6 * v) (by omega) (sh_Line cs ad (show v < 4 by omega) _) rfl in_Line 0 (by decide) wd_127 rfl rfl d_Score_notesAround_2 rfl ?_
  refine mk_iloadn (nx := 6) X 1 d_Score_notesAround_5 rfl rfl ?_
  refine mk_iald (nx := 7) (j := p) X (13 + 6 * v) 0 (by omega) (sh_Lnotes cs ad (show v < 4 by omega) _) rfl (by omega) (by omega) (by decide) rfl d_Score_notesAround_6 rfl ?_
  rw [show I (13 + 6 * v) p = (cnt c v p : Int) from (hB p (by omega)).1]
  refine mk_ishl (nx := 8) X d_Score_notesAround_7 rfl ?_
  refine mk_nm (fun y0 hy0 => ?_)
  refine mk_istoren (nx := 9) X [(3, .int (zi y0)), (0, .ref (ad (12 + 6 * v))), (1, .int (zi (p : Int))), (2, .int (zi (fsr c)))] d_Score_notesAround_8 (by decide) rfl rfl ?_
  refine mk_aloadn (nx := 10) X 1 d_Score_notesAround_9 rfl rfl ?_
  refine mk_get (nx := 13) (v := .ref (ad (16 + 6 * v))) X (12 + 6 * v) (by omega) (sh_Line cs ad (show v < 4 by omega) _) rfl in_Line 3 (by decide) wd_135 rfl rfl d_Score_notesAround_10 rfl ?_
  refine mk_iloadn (nx := 14) X 2 d_Score_notesAround_13 rfl rfl ?_
  refine mk_iald (nx := 15) (j := p) X (16 + 6 * v) 0 (by omega) (sh_Lbefore cs ad (show v < 4 by omega) _) rfl (by omega) (by omega) (by decide) rfl d_Score_notesAround_14 rfl ?_
  rw [show I (16 + 6 * v) p = cbef c v p from (hN p hp).1]
  refine mk_iconst (nx := 16) X d_Score_notesAround_15 rfl ?_
  refine mk_icmp_eq (tgt := 35) (nx := 19) X d_Score_notesAround_16 (by omega) (by omega) (by decide) rfl (fun c16 => ?_) (fun c16 => ?_)
  · skip
    refine mk_lv [1, 2, 3, 0] rfl ?_
    exact L35 y0 (by first | exact fun n a b => (by rw [hy1]; exact na_l (na_0 a (by rw [hy0, b]))) | exact fun n a b => na_0 a (by rw [hy0, b])) (by first | exact fun n a b d => (by rw [hy1]; exact na_r (na_0 a (by rw [d]))) | exact fun n a b d => absurd (by omega) b)
  · skip
    refine mk_iloadn (nx := 20) X 0 d_Score_notesAround_19 rfl rfl ?_
    refine mk_iconst (nx := 21) X d_Score_notesAround_20 rfl ?_
    refine mk_aloadn (nx := 22) X 1 d_Score_notesAround_21 rfl rfl ?_
    refine mk_get (nx := 25) (v := .ref (ad (13 + 6 * v))) X (12 + 6 * v) (by omega) (sh_Line cs ad (show v < 4 by omega) _) rfl in_Line 0 (by decide) wd_127 rfl rfl d_Score_notesAround_22 rfl ?_
    refine mk_aloadn (nx := 26) X 1 d_Score_notesAround_25 rfl rfl ?_
    refine mk_get (nx := 29) (v := .ref (ad (16 + 6 * v))) X (12 + 6 * v) (by omega) (sh_Line cs ad (show v < 4 by omega) _) rfl in_Line 3 (by decide) wd_135 rfl rfl d_Score_notesAround_26 rfl ?_
    refine mk_iloadn (nx := 30) X 2 d_Score_notesAround_29 rfl rfl ?_
    refine mk_iald (nx := 31) (j := p) X (16 + 6 * v) 0 (by omega) (sh_Lbefore cs ad (show v < 4 by omega) _) rfl (by omega) (by omega) (by decide) rfl d_Score_notesAround_30 rfl ?_
    rw [show I (16 + 6 * v) p = cbef c v p from (hN p hp).1]
    refine mk_iald (nx := 32) (j := (cbef c v p).toNat) X (13 + 6 * v) 0 (by omega) (sh_Lnotes cs ad (show v < 4 by omega) _) rfl (by omega) (by omega) (by decide) rfl d_Score_notesAround_31 rfl ?_
    rw [show I (13 + 6 * v) ((cbef c v p).toNat) = (cnt c v ((cbef c v p).toNat) : Int) from (hB ((cbef c v p).toNat) (by omega)).1]
    refine mk_ishl (nx := 33) X d_Score_notesAround_32 rfl ?_
    refine mk_ior (nx := 34) X d_Score_notesAround_33 rfl ?_
    refine mk_nm (fun y1 hy1 => ?_)
    refine mk_istoren (nx := 35) X [(3, .int (zi y1)), (0, .ref (ad (12 + 6 * v))), (1, .int (zi (p : Int))), (2, .int (zi (fsr c)))] d_Score_notesAround_34 (by decide) rfl rfl ?_
    refine mk_lv [1, 2, 3, 0] rfl ?_
    exact L35 y1 (by first | exact fun n a b => (by rw [hy1]; exact na_l (na_0 a (by rw [hy0, b]))) | exact fun n a b => na_0 a (by rw [hy0, b])) (by first | exact fun n a b d => (by rw [hy1]; exact na_r (na_0 a (by rw [d]))) | exact fun n a b d => absurd (by omega) b)
