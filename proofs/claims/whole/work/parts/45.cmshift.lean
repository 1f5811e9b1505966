-- CanonMaker.layPair(I)V
theorem d_CM_layPair_0 : decode prog_1_method_28_code 0 = .ok (.iconst 0, 1) := by decide +kernel
theorem d_CM_layPair_1 : decode prog_1_method_28_code 1 = .ok (.istore_n 2, 1) := by decide +kernel
theorem d_CM_layPair_2 : decode prog_1_method_28_code 2 = .ok (.iload_n 2, 1) := by decide +kernel
theorem d_CM_layPair_3 : decode prog_1_method_28_code 3 = .ok (.iconst 4, 1) := by decide +kernel
theorem d_CM_layPair_4 : decode prog_1_method_28_code 4 = .ok (.if_icmp .ge 61, 3) := by decide +kernel
theorem d_CM_layPair_7 : decode prog_1_method_28_code 7 = .ok (.aload_n 0, 1) := by decide +kernel
theorem d_CM_layPair_8 : decode prog_1_method_28_code 8 = .ok (.getfield 32, 3) := by decide +kernel
theorem d_CM_layPair_11 : decode prog_1_method_28_code 11 = .ok (.getfield 114, 3) := by decide +kernel
theorem d_CM_layPair_14 : decode prog_1_method_28_code 14 = .ok (.iload_n 2, 1) := by decide +kernel
theorem d_CM_layPair_15 : decode prog_1_method_28_code 15 = .ok (.aaload, 1) := by decide +kernel
theorem d_CM_layPair_16 : decode prog_1_method_28_code 16 = .ok (.aload_n 0, 1) := by decide +kernel
theorem d_CM_layPair_17 : decode prog_1_method_28_code 17 = .ok (.getfield 12, 3) := by decide +kernel
theorem d_CM_layPair_20 : decode prog_1_method_28_code 20 = .ok (.aload_n 0, 1) := by decide +kernel
theorem d_CM_layPair_21 : decode prog_1_method_28_code 21 = .ok (.getfield 18, 3) := by decide +kernel
theorem d_CM_layPair_24 : decode prog_1_method_28_code 24 = .ok (.iload_n 2, 1) := by decide +kernel
theorem d_CM_layPair_25 : decode prog_1_method_28_code 25 = .ok (.aaload, 1) := by decide +kernel
theorem d_CM_layPair_26 : decode prog_1_method_28_code 26 = .ok (.aload_n 0, 1) := by decide +kernel
theorem d_CM_layPair_27 : decode prog_1_method_28_code 27 = .ok (.getfield 105, 3) := by decide +kernel
theorem d_CM_layPair_30 : decode prog_1_method_28_code 30 = .ok (.invokevirtual 118, 3) := by decide +kernel
theorem d_CM_layPair_33 : decode prog_1_method_28_code 33 = .ok (.aload_n 0, 1) := by decide +kernel
theorem d_CM_layPair_34 : decode prog_1_method_28_code 34 = .ok (.getfield 32, 3) := by decide +kernel
theorem d_CM_layPair_37 : decode prog_1_method_28_code 37 = .ok (.getfield 114, 3) := by decide +kernel
theorem d_CM_layPair_40 : decode prog_1_method_28_code 40 = .ok (.iload_n 2, 1) := by decide +kernel
theorem d_CM_layPair_41 : decode prog_1_method_28_code 41 = .ok (.aaload, 1) := by decide +kernel
theorem d_CM_layPair_42 : decode prog_1_method_28_code 42 = .ok (.iload_n 2, 1) := by decide +kernel
theorem d_CM_layPair_43 : decode prog_1_method_28_code 43 = .ok (.ifCond .eq 8, 3) := by decide +kernel
theorem d_CM_layPair_46 : decode prog_1_method_28_code 46 = .ok (.iload_n 2, 1) := by decide +kernel
theorem d_CM_layPair_47 : decode prog_1_method_28_code 47 = .ok (.iload_n 1, 1) := by decide +kernel
theorem d_CM_layPair_48 : decode prog_1_method_28_code 48 = .ok (.if_icmp .ne 7, 3) := by decide +kernel
theorem d_CM_layPair_51 : decode prog_1_method_28_code 51 = .ok (.iconst 1, 1) := by decide +kernel
theorem d_CM_layPair_52 : decode prog_1_method_28_code 52 = .ok (.goto 4, 3) := by decide +kernel
theorem d_CM_layPair_55 : decode prog_1_method_28_code 55 = .ok (.iconst 0, 1) := by decide +kernel
theorem d_CM_layPair_56 : decode prog_1_method_28_code 56 = .ok (.putfield 205, 3) := by decide +kernel
theorem d_CM_layPair_59 : decode prog_1_method_28_code 59 = .ok (.iinc 2 1, 3) := by decide +kernel
theorem d_CM_layPair_62 : decode prog_1_method_28_code 62 = .ok (.goto (-60), 3) := by decide +kernel
theorem d_CM_layPair_65 : decode prog_1_method_28_code 65 = .ok (.aload_n 0, 1) := by decide +kernel
theorem d_CM_layPair_66 : decode prog_1_method_28_code 66 = .ok (.getfield 32, 3) := by decide +kernel
theorem d_CM_layPair_69 : decode prog_1_method_28_code 69 = .ok (.aload_n 0, 1) := by decide +kernel
theorem d_CM_layPair_70 : decode prog_1_method_28_code 70 = .ok (.getfield 12, 3) := by decide +kernel
theorem d_CM_layPair_73 : decode prog_1_method_28_code 73 = .ok (.invokevirtual 195, 3) := by decide +kernel
theorem d_CM_layPair_76 : decode prog_1_method_28_code 76 = .ok (.return_, 1) := by decide +kernel
abbrev rm_CM_layPair : Room := { frames := 3, cells := 0, slots := 0, locals := 73 }
set_option maxHeartbeats 4000000 in
set_option maxRecDepth 100000 in
theorem c_CM_layPair (l : Launch) (D : va_G) (cs : Nat → ClassId) (ad : Nat → Nat) (zt : Nat) (hi : cm_inj ad) (c I : Wo) (h : cmR c I) (u : Nat) (hu : 1 ≤ u ∧ u < 4) : cm_C l D cs ad zt y_CM_layPair ws_CM_layPair rm_CM_layPair [.ref (ad 0), .int (zi (u : Int))] I (mk_pv (fun J => ScF (scf c u (c (3 + u) 1) (c (3 + u) 2)) J ∧ ScT (scf c u (c (3 + u) 1) (c (3 + u) 2)) J ∧ (∀ a b, (a < 6 ∨ 35 < a) → J a b = I a b))) := by
  refine mk_metv (own := "CanonMaker") (Ts := wA) hi (Nat.le_refl _) (by decide) rfl (fun w h => List.mem_cons_of_mem _ h) rfl (Nat.le_of_ble_eq_true rfl) [(0, .ref (ad 0)), (1, .int (zi (u : Int)))] rfl ?_
  intro p_ e_ s_ m_ as_ bl_ me_ co_ Q_ X hret
  obtain ⟨⟨⟨hn, hN⟩, ⟨hlo, hsc, hbt, hru, hrd, hst⟩, ⟨hV, hV0⟩, ⟨hfc, hF⟩⟩, ⟨i12, iN⟩, ⟨⟨i50, i51, i52, i53, i54⟩, i07, i09⟩, iV, ⟨i010, iF⟩⟩ := id h
  have hvu := hV u (by omega)
  have hwd := scf_wf (d := c (3 + u) 1) (i := c (3 + u) 2) h.1 hu (by omega) (by omega)
  have L2 : ∀ nf : Nat, ∀ (v : Nat) (J : Wo), (v ≤ 4) → (∀ q, q < v → LnF (scf c u (c (3 + u) 1) (c (3 + u) 2)) J q ∧ LnB (scf c u (c (3 + u) 1) (c (3 + u) 2)) J q ∧ LnN (scf c u (c (3 + u) 1) (c (3 + u) 2)) J q) → (∀ a b, (a < 12 ∨ 35 < a) → J a b = I a b) → 4 - v < nf → mk_A p_ l e_ rm_CM_layPair s_ m_ as_ bl_ me_ co_ Q_ 3 D cmcl (cm_sh cs ad) 48 48 ad J [(0, .ref (ad 0)), (1, .int (zi (u : Int))), (2, .int (zi (v : Int)))] 2 [] := by
    intro nf
    induction nf with
    | zero => intro v J hv hF hfr hn; exact absurd hn (Nat.not_lt_zero _)
    | succ nf ih2 =>
      intro v J hv hF hfr hn2
      refine mk_iloadn (nx := 3) X 2 d_CM_layPair_2 rfl rfl ?_
      refine mk_iconst (nx := 4) X d_CM_layPair_3 rfl ?_
      refine mk_icmp_ge (tgt := 65) (nx := 7) X d_CM_layPair_4 (by omega) (by omega) (by decide) rfl (fun c4 => ?_) (fun c4 => ?_)
      · skip
        have hF4 : ScF (scf c u (c (3 + u) 1) (c (3 + u) 2)) J := fun q hq => hF q (by omega)
        refine mk_aloadn (nx := 66) X 0 d_CM_layPair_65 rfl rfl ?_
        refine mk_get (nx := 69) (v := .ref (ad 6)) X 0 (by decide) (sh_CM cs ad _) rfl in_CM 3 (by decide) wd_290 rfl rfl d_CM_layPair_66 rfl ?_
        refine mk_aloadn (nx := 70) X 0 d_CM_layPair_69 rfl rfl ?_
        refine mk_get (nx := 73) (v := .ref (ad 1)) X 0 (by decide) (sh_CM cs ad _) rfl in_CM 0 (by decide) wd_287 rfl rfl d_CM_layPair_70 rfl ?_
        refine mk_callVv (nx := 76) (n := 1) (As := [.ref (ad 1)]) (rest := []) X 6 (by decide) (sh_Score cs ad _) rfl (c_Score_tune l D cs ad zt hi (scf c u (c (3 + u) 1) (c (3 + u) 2)) J hwd.1 hwd.2.1 hwd.2.2.1 (scf_cmN hu (cmN_fr (fun a b x => hfr a b (by omega)) h.2.1)) hF4) (g_Score_tune wd_444) rfl ⟨rfl, rfl⟩ (by decide +kernel) ⟨by decide, by decide⟩ rfl (Nat.le_of_ble_eq_true rfl) rfl d_CM_layPair_73 rfl ?_
        intro JT hJT
        exact hret _ _ _ d_CM_layPair_76 (by exact ⟨ScF_fr (fun a b _ _ x => hJT.2 a b x) hF4, hJT.1, fun a b x => (hJT.2 a b (by omega)).trans (hfr a b (by omega))⟩)
      · skip
        refine mk_aloadn (nx := 8) X 0 d_CM_layPair_7 rfl rfl ?_
        refine mk_get (nx := 11) (v := .ref (ad 6)) X 0 (by decide) (sh_CM cs ad _) rfl in_CM 3 (by decide) wd_290 rfl rfl d_CM_layPair_8 rfl ?_
        refine mk_get (nx := 14) (v := .ref (ad 7)) X 6 (by decide) (sh_Score cs ad _) rfl in_Score 0 (by decide) wd_179 rfl rfl d_CM_layPair_11 rfl ?_
        refine mk_iloadn (nx := 15) X 2 d_CM_layPair_14 rfl rfl ?_
        refine mk_aald (nx := 16) (j := v) X 7 3 (by decide) (sh_lines cs ad _) rfl (by omega) (by omega) (by decide) rfl rfl d_CM_layPair_15 rfl ?_
        refine mk_aloadn (nx := 17) X 0 d_CM_layPair_16 rfl rfl ?_
        refine mk_get (nx := 20) (v := .ref (ad 1)) X 0 (by decide) (sh_CM cs ad _) rfl in_CM 0 (by decide) wd_287 rfl rfl d_CM_layPair_17 rfl ?_
        refine mk_aloadn (nx := 21) X 0 d_CM_layPair_20 rfl rfl ?_
        refine mk_get (nx := 24) (v := .ref (ad 4)) X 0 (by decide) (sh_CM cs ad _) rfl in_CM 1 (by decide) wd_288 rfl rfl d_CM_layPair_21 rfl ?_
        refine mk_iloadn (nx := 25) X 2 d_CM_layPair_24 rfl rfl ?_
        refine mk_aald (nx := 26) (j := v) X 4 2 (by decide) (sh_voices cs ad _) rfl (by omega) (by omega) (by decide) rfl rfl d_CM_layPair_25 rfl ?_
        refine mk_aloadn (nx := 27) X 0 d_CM_layPair_26 rfl rfl ?_
        refine mk_get (nx := 30) (v := .int (zi (J 0 7))) X 0 (by decide) (sh_CM cs ad _) rfl in_CM 7 (by decide) wd_294 rfl rfl d_CM_layPair_27 rfl ?_
        rw [show J 0 7 = c 0 6 from ((hfr 0 7 (by omega)).trans i07)]
        refine mk_callVv (nx := 33) (n := 3) (As := [.ref (ad 1), .ref (ad (44 + v)), .int (zi (c 0 6))]) (rest := []) X (12 + 6 * v) (by omega) (sh_Line cs ad (show v < 4 by omega) _) rfl (c_Line_lay l D cs ad zt hi c J h.1.1 h.1.2.1 h.1.2.2.1 (cmN_fr (fun a b x => hfr a b (by omega)) h.2.1) v (by omega) (by rw [hfr _ 0 (by omega), hfr _ 1 (by omega), hfr _ 2 (by omega), hfr _ 3 (by omega), hfr _ 4 (by omega)]; exact iV v (by omega))) (g_Line_lay wd_398) rfl ⟨rfl, rfl⟩ (by decide +kernel) ⟨by decide, by decide⟩ rfl (Nat.le_of_ble_eq_true rfl) rfl d_CM_layPair_30 rfl ?_
        intro JA hJA
        refine mk_aloadn (nx := 34) X 0 d_CM_layPair_33 rfl rfl ?_
        refine mk_get (nx := 37) (v := .ref (ad 6)) X 0 (by decide) (sh_CM cs ad _) rfl in_CM 3 (by decide) wd_290 rfl rfl d_CM_layPair_34 rfl ?_
        refine mk_get (nx := 40) (v := .ref (ad 7)) X 6 (by decide) (sh_Score cs ad _) rfl in_Score 0 (by decide) wd_179 rfl rfl d_CM_layPair_37 rfl ?_
        refine mk_iloadn (nx := 41) X 2 d_CM_layPair_40 rfl rfl ?_
        refine mk_aald (nx := 42) (j := v) X 7 3 (by decide) (sh_lines cs ad _) rfl (by omega) (by omega) (by decide) rfl rfl d_CM_layPair_41 rfl ?_
        refine mk_iloadn (nx := 43) X 2 d_CM_layPair_42 rfl rfl ?_
        refine mk_if_eq (tgt := 51) (nx := 46) X d_CM_layPair_43 (by omega) (by decide) rfl (fun c43 => ?_) (fun c43 => ?_)
        · skip
          refine mk_iconst (nx := 52) X d_CM_layPair_51 rfl ?_
          refine mk_goto (tgt := 56) X d_CM_layPair_52 (by decide) ?_
          refine mk_putf (nx := 59) (ty := .boolean) X t_Line t_Line_ok n_Line (12 + 6 * v) (by omega) (sh_Line cs ad (show v < 4 by omega) _) rfl in_Line 10 (by decide) wd_149 rfl rfl (by decide +kernel) (zi_nb (by omega)) (zi_fb (by omega)) (Nat.le_of_ble_eq_true rfl) ((sh_Line cs ad (show v < 4 by omega) _).trans rfl) d_CM_layPair_56 rfl ?_
          obtain ⟨J1, hJ1⟩ : ∃ W_ : Wo, W_ = up2 JA (12 + 6 * v) 10 1 := ⟨_, rfl⟩
          refine mk_same hJ1.symm ?_
          have hJ1s : J1 (12 + 6 * v) 10 = 1 := hJ1 ▸ up2_ss JA (12 + 6 * v) 10 1
          have hJ1o : ∀ a b, (a ≠ (12 + 6 * v) ∨ b ≠ 10) → J1 a b = JA a b := hJ1 ▸ up2_o JA (12 + 6 * v) 10 1
          refine mk_iinc (nx := 62) X 2 [(2, .int (zi ((v : Int) + 1))), (0, .ref (ad 0)), (1, .int (zi (u : Int)))] d_CM_layPair_59 rfl (by decide) rfl rfl ?_
          refine mk_goto (tgt := 2) X d_CM_layPair_62 (by decide) ?_
          refine mk_lv [1, 2, 0] rfl ?_
          exact ih2 (v + 1) J1 (by omega) (by first | exact lt_0 | exact lt_s (fun q hq => ⟨LnF_fr (fun b => (hJ1o _ b (by omega)).trans (hJA.2.2.2 _ b (by omega))) (hF q hq).1, LnB_fr (fun b => ⟨(hJ1o _ b (by omega)).trans (hJA.2.2.2 _ b (by omega)), (hJ1o _ b (by omega)).trans (hJA.2.2.2 _ b (by omega))⟩) (hF q hq).2.1, LnN_fr (fun b => ⟨(hJ1o _ b (by omega)).trans (hJA.2.2.2 _ b (by omega)), (hJ1o _ b (by omega)).trans (hJA.2.2.2 _ b (by omega))⟩) (hF q hq).2.2⟩) (sp_line hu (by omega) hV0.1 hJA.1 hJA.2.1 hJA.2.2.1 (by first | rw [if_pos (by omega)] | rw [if_neg (by omega)]) hJ1)) (by first | exact fun _ _ _ => rfl | exact fun a b x => (hJ1o a b (by omega)).trans ((hJA.2.2.2 a b (by omega)).trans (hfr a b x))) (by omega)
        · skip
          refine mk_iloadn (nx := 47) X 2 d_CM_layPair_46 rfl rfl ?_
          refine mk_iloadn (nx := 48) X 1 d_CM_layPair_47 rfl rfl ?_
          refine mk_icmp_ne (tgt := 55) (nx := 51) X d_CM_layPair_48 (by omega) (by omega) (by decide) rfl (fun c48 => ?_) (fun c48 => ?_)
          · skip
            refine mk_iconst (nx := 56) X d_CM_layPair_55 rfl ?_
            refine mk_putf (nx := 59) (ty := .boolean) X t_Line t_Line_ok n_Line (12 + 6 * v) (by omega) (sh_Line cs ad (show v < 4 by omega) _) rfl in_Line 10 (by decide) wd_149 rfl rfl (by decide +kernel) (zi_nb (by omega)) (zi_fb (by omega)) (Nat.le_of_ble_eq_true rfl) ((sh_Line cs ad (show v < 4 by omega) _).trans rfl) d_CM_layPair_56 rfl ?_
            obtain ⟨J2, hJ2⟩ : ∃ W_ : Wo, W_ = up2 JA (12 + 6 * v) 10 0 := ⟨_, rfl⟩
            refine mk_same hJ2.symm ?_
            have hJ2s : J2 (12 + 6 * v) 10 = 0 := hJ2 ▸ up2_ss JA (12 + 6 * v) 10 0
            have hJ2o : ∀ a b, (a ≠ (12 + 6 * v) ∨ b ≠ 10) → J2 a b = JA a b := hJ2 ▸ up2_o JA (12 + 6 * v) 10 0
            refine mk_iinc (nx := 62) X 2 [(2, .int (zi ((v : Int) + 1))), (0, .ref (ad 0)), (1, .int (zi (u : Int)))] d_CM_layPair_59 rfl (by decide) rfl rfl ?_
            refine mk_goto (tgt := 2) X d_CM_layPair_62 (by decide) ?_
            refine mk_lv [1, 2, 0] rfl ?_
            exact ih2 (v + 1) J2 (by omega) (by first | exact lt_0 | exact lt_s (fun q hq => ⟨LnF_fr (fun b => (hJ2o _ b (by omega)).trans (hJA.2.2.2 _ b (by omega))) (hF q hq).1, LnB_fr (fun b => ⟨(hJ2o _ b (by omega)).trans (hJA.2.2.2 _ b (by omega)), (hJ2o _ b (by omega)).trans (hJA.2.2.2 _ b (by omega))⟩) (hF q hq).2.1, LnN_fr (fun b => ⟨(hJ2o _ b (by omega)).trans (hJA.2.2.2 _ b (by omega)), (hJ2o _ b (by omega)).trans (hJA.2.2.2 _ b (by omega))⟩) (hF q hq).2.2⟩) (sp_line hu (by omega) hV0.1 hJA.1 hJA.2.1 hJA.2.2.1 (by first | rw [if_pos (by omega)] | rw [if_neg (by omega)]) hJ2)) (by first | exact fun _ _ _ => rfl | exact fun a b x => (hJ2o a b (by omega)).trans ((hJA.2.2.2 a b (by omega)).trans (hfr a b x))) (by omega)
          · skip
            refine mk_iconst (nx := 52) X d_CM_layPair_51 rfl ?_
            refine mk_goto (tgt := 56) X d_CM_layPair_52 (by decide) ?_
            refine mk_putf (nx := 59) (ty := .boolean) X t_Line t_Line_ok n_Line (12 + 6 * v) (by omega) (sh_Line cs ad (show v < 4 by omega) _) rfl in_Line 10 (by decide) wd_149 rfl rfl (by decide +kernel) (zi_nb (by omega)) (zi_fb (by omega)) (Nat.le_of_ble_eq_true rfl) ((sh_Line cs ad (show v < 4 by omega) _).trans rfl) d_CM_layPair_56 rfl ?_
            obtain ⟨J3, hJ3⟩ : ∃ W_ : Wo, W_ = up2 JA (12 + 6 * v) 10 1 := ⟨_, rfl⟩
            refine mk_same hJ3.symm ?_
            have hJ3s : J3 (12 + 6 * v) 10 = 1 := hJ3 ▸ up2_ss JA (12 + 6 * v) 10 1
            have hJ3o : ∀ a b, (a ≠ (12 + 6 * v) ∨ b ≠ 10) → J3 a b = JA a b := hJ3 ▸ up2_o JA (12 + 6 * v) 10 1
            refine mk_iinc (nx := 62) X 2 [(2, .int (zi ((v : Int) + 1))), (0, .ref (ad 0)), (1, .int (zi (u : Int)))] d_CM_layPair_59 rfl (by decide) rfl rfl ?_
            refine mk_goto (tgt := 2) X d_CM_layPair_62 (by decide) ?_
            refine mk_lv [1, 2, 0] rfl ?_
            exact ih2 (v + 1) J3 (by omega) (by first | exact lt_0 | exact lt_s (fun q hq => ⟨LnF_fr (fun b => (hJ3o _ b (by omega)).trans (hJA.2.2.2 _ b (by omega))) (hF q hq).1, LnB_fr (fun b => ⟨(hJ3o _ b (by omega)).trans (hJA.2.2.2 _ b (by omega)), (hJ3o _ b (by omega)).trans (hJA.2.2.2 _ b (by omega))⟩) (hF q hq).2.1, LnN_fr (fun b => ⟨(hJ3o _ b (by omega)).trans (hJA.2.2.2 _ b (by omega)), (hJ3o _ b (by omega)).trans (hJA.2.2.2 _ b (by omega))⟩) (hF q hq).2.2⟩) (sp_line hu (by omega) hV0.1 hJA.1 hJA.2.1 hJA.2.2.1 (by first | rw [if_pos (by omega)] | rw [if_neg (by omega)]) hJ3)) (by first | exact fun _ _ _ => rfl | exact fun a b x => (hJ3o a b (by omega)).trans ((hJA.2.2.2 a b (by omega)).trans (hfr a b x))) (by omega)
  refine mk_iconst (nx := 1) X d_CM_layPair_0 rfl ?_
  refine mk_istoren (nx := 2) X [(2, .int (zi 0)), (0, .ref (ad 0)), (1, .int (zi (u : Int)))] d_CM_layPair_1 (by decide) rfl rfl ?_
  refine mk_lv [1, 2, 0] rfl ?_
  exact L2 _ 0 I (by omega) (by first | exact lt_0 | exact lt_s (fun q hq => ⟨LnF_fr (fun b => (hIo _ b (by omega)).trans (hJA.2.2.2 _ b (by omega))) (hF q hq).1, LnB_fr (fun b => ⟨(hIo _ b (by omega)).trans (hJA.2.2.2 _ b (by omega)), (hIo _ b (by omega)).trans (hJA.2.2.2 _ b (by omega))⟩) (hF q hq).2.1, LnN_fr (fun b => ⟨(hIo _ b (by omega)).trans (hJA.2.2.2 _ b (by omega)), (hIo _ b (by omega)).trans (hJA.2.2.2 _ b (by omega))⟩) (hF q hq).2.2⟩) (sp_line hu (by omega) hV0.1 hJA.1 hJA.2.1 hJA.2.2.1 (by first | rw [if_pos (by omega)] | rw [if_neg (by omega)]) hI)) (by first | exact fun _ _ _ => rfl | exact fun a b x => (hIo a b (by omega)).trans ((hJA.2.2.2 a b (by omega)).trans (hfr a b x))) (Nat.lt_succ_self _)

-- CanonMaker.searchIntervals(LCanonMaker$Line;I)V
theorem d_CM_searchIntervals_0 : decode prog_1_method_32_code 0 = .ok (.aload_n 1, 1) := by decide +kernel
theorem d_CM_searchIntervals_1 : decode prog_1_method_32_code 1 = .ok (.iload_n 2, 1) := by decide +kernel
theorem d_CM_searchIntervals_2 : decode prog_1_method_32_code 2 = .ok (.putfield 209, 3) := by decide +kernel
theorem d_CM_searchIntervals_5 : decode prog_1_method_32_code 5 = .ok (.aload_n 0, 1) := by decide +kernel
theorem d_CM_searchIntervals_6 : decode prog_1_method_32_code 6 = .ok (.getfield 32, 3) := by decide +kernel
theorem d_CM_searchIntervals_9 : decode prog_1_method_32_code 9 = .ok (.invokevirtual 196, 3) := by decide +kernel
theorem d_CM_searchIntervals_12 : decode prog_1_method_32_code 12 = .ok (.aload_n 0, 1) := by decide +kernel
theorem d_CM_searchIntervals_13 : decode prog_1_method_32_code 13 = .ok (.getfield 32, 3) := by decide +kernel
theorem d_CM_searchIntervals_16 : decode prog_1_method_32_code 16 = .ok (.aload_n 0, 1) := by decide +kernel
theorem d_CM_searchIntervals_17 : decode prog_1_method_32_code 17 = .ok (.getfield 12, 3) := by decide +kernel
theorem d_CM_searchIntervals_20 : decode prog_1_method_32_code 20 = .ok (.invokevirtual 199, 3) := by decide +kernel
theorem d_CM_searchIntervals_23 : decode prog_1_method_32_code 23 = .ok (.invokevirtual 202, 3) := by decide +kernel
theorem d_CM_searchIntervals_26 : decode prog_1_method_32_code 26 = .ok (.bipush (-12), 2) := by decide +kernel
theorem d_CM_searchIntervals_28 : decode prog_1_method_32_code 28 = .ok (.istore_n 3, 1) := by decide +kernel
theorem d_CM_searchIntervals_29 : decode prog_1_method_32_code 29 = .ok (.iload_n 3, 1) := by decide +kernel
theorem d_CM_searchIntervals_30 : decode prog_1_method_32_code 30 = .ok (.bipush 12, 2) := by decide +kernel
theorem d_CM_searchIntervals_32 : decode prog_1_method_32_code 32 = .ok (.if_icmp .gt 72, 3) := by decide +kernel
theorem d_CM_searchIntervals_35 : decode prog_1_method_32_code 35 = .ok (.aload_n 1, 1) := by decide +kernel
theorem d_CM_searchIntervals_36 : decode prog_1_method_32_code 36 = .ok (.iload_n 3, 1) := by decide +kernel
theorem d_CM_searchIntervals_37 : decode prog_1_method_32_code 37 = .ok (.putfield 210, 3) := by decide +kernel
theorem d_CM_searchIntervals_40 : decode prog_1_method_32_code 40 = .ok (.aload_n 1, 1) := by decide +kernel
theorem d_CM_searchIntervals_41 : decode prog_1_method_32_code 41 = .ok (.aload_n 0, 1) := by decide +kernel
theorem d_CM_searchIntervals_42 : decode prog_1_method_32_code 42 = .ok (.getfield 12, 3) := by decide +kernel
theorem d_CM_searchIntervals_45 : decode prog_1_method_32_code 45 = .ok (.invokevirtual 124, 3) := by decide +kernel
theorem d_CM_searchIntervals_48 : decode prog_1_method_32_code 48 = .ok (.aload_n 0, 1) := by decide +kernel
theorem d_CM_searchIntervals_49 : decode prog_1_method_32_code 49 = .ok (.getfield 41, 3) := by decide +kernel
theorem d_CM_searchIntervals_52 : decode prog_1_method_32_code 52 = .ok (.iconst 0, 1) := by decide +kernel
theorem d_CM_searchIntervals_53 : decode prog_1_method_32_code 53 = .ok (.iconst (-1), 1) := by decide +kernel
theorem d_CM_searchIntervals_54 : decode prog_1_method_32_code 54 = .ok (.invokevirtual 141, 3) := by decide +kernel
theorem d_CM_searchIntervals_57 : decode prog_1_method_32_code 57 = .ok (.ifCond .ne 41, 3) := by decide +kernel
theorem d_CM_searchIntervals_60 : decode prog_1_method_32_code 60 = .ok (.aload_n 0, 1) := by decide +kernel
theorem d_CM_searchIntervals_61 : decode prog_1_method_32_code 61 = .ok (.getfield 180, 3) := by decide +kernel
theorem d_CM_searchIntervals_64 : decode prog_1_method_32_code 64 = .ok (.sipush 2525, 3) := by decide +kernel
theorem d_CM_searchIntervals_67 : decode prog_1_method_32_code 67 = .ok (.if_icmp .ge 31, 3) := by decide +kernel
theorem d_CM_searchIntervals_70 : decode prog_1_method_32_code 70 = .ok (.aload_n 0, 1) := by decide +kernel
theorem d_CM_searchIntervals_71 : decode prog_1_method_32_code 71 = .ok (.getfield 49, 3) := by decide +kernel
theorem d_CM_searchIntervals_74 : decode prog_1_method_32_code 74 = .ok (.aload_n 0, 1) := by decide +kernel
theorem d_CM_searchIntervals_75 : decode prog_1_method_32_code 75 = .ok (.getfield 180, 3) := by decide +kernel
theorem d_CM_searchIntervals_78 : decode prog_1_method_32_code 78 = .ok (.iload_n 2, 1) := by decide +kernel
theorem d_CM_searchIntervals_79 : decode prog_1_method_32_code 79 = .ok (.bipush 25, 2) := by decide +kernel
theorem d_CM_searchIntervals_81 : decode prog_1_method_32_code 81 = .ok (.imul, 1) := by decide +kernel
theorem d_CM_searchIntervals_82 : decode prog_1_method_32_code 82 = .ok (.iload_n 3, 1) := by decide +kernel
theorem d_CM_searchIntervals_83 : decode prog_1_method_32_code 83 = .ok (.iadd, 1) := by decide +kernel
theorem d_CM_searchIntervals_84 : decode prog_1_method_32_code 84 = .ok (.bipush 12, 2) := by decide +kernel
theorem d_CM_searchIntervals_86 : decode prog_1_method_32_code 86 = .ok (.iadd, 1) := by decide +kernel
theorem d_CM_searchIntervals_87 : decode prog_1_method_32_code 87 = .ok (.iastore, 1) := by decide +kernel
theorem d_CM_searchIntervals_88 : decode prog_1_method_32_code 88 = .ok (.aload_n 0, 1) := by decide +kernel
theorem d_CM_searchIntervals_89 : decode prog_1_method_32_code 89 = .ok (.dup, 1) := by decide +kernel
theorem d_CM_searchIntervals_90 : decode prog_1_method_32_code 90 = .ok (.getfield 180, 3) := by decide +kernel
theorem d_CM_searchIntervals_93 : decode prog_1_method_32_code 93 = .ok (.iconst 1, 1) := by decide +kernel
theorem d_CM_searchIntervals_94 : decode prog_1_method_32_code 94 = .ok (.iadd, 1) := by decide +kernel
theorem d_CM_searchIntervals_95 : decode prog_1_method_32_code 95 = .ok (.putfield 180, 3) := by decide +kernel
theorem d_CM_searchIntervals_98 : decode prog_1_method_32_code 98 = .ok (.iinc 3 1, 3) := by decide +kernel
theorem d_CM_searchIntervals_101 : decode prog_1_method_32_code 101 = .ok (.goto (-72), 3) := by decide +kernel
theorem d_CM_searchIntervals_104 : decode prog_1_method_32_code 104 = .ok (.return_, 1) := by decide +kernel
abbrev rm_CM_searchIntervals : Room := { frames := 6, cells := 0, slots := 0, locals := 146 }
set_option maxHeartbeats 4000000 in
set_option maxRecDepth 100000 in
theorem c_CM_searchIntervals (l : Launch) (D : va_G) (cs : Nat → ClassId) (ad : Nat → Nat) (zt : Nat) (hi : cm_inj ad) (c I0 I : Wo) (h0 : cmR c I0) (u : Nat) (hu : 1 ≤ u ∧ u < 4) (hok : okS c u) (d : Nat) (hd : d ≤ 100) (d0 i0 : Int) (hd0 : 0 ≤ d0 ∧ d0 ≤ 100) (hi0 : -24 ≤ i0 ∧ i0 ≤ 24) (hF0 : ScF (scf c u d0 i0) I) (hT0 : ScT (scf c u d0 i0) I) (hC0 : CsI c I0 I (shl c u (25 * d))) : cm_C l D cs ad zt y_CM_searchIntervals ws_CM_searchIntervals rm_CM_searchIntervals [.ref (ad 0), .ref (ad (12 + 6 * u)), .int (zi (d : Int))] I (mk_pv (fun J => ScF (scf c u (d : Int) 12) J ∧ ScT (scf c u (d : Int) 12) J ∧ CsI c I0 J (shl c u (25 * (d + 1))))) := by
  refine mk_metv (own := "CanonMaker") (Ts := wA) hi (Nat.le_refl _) (by decide) rfl (fun w h => List.mem_cons_of_mem _ h) rfl (Nat.le_of_ble_eq_true rfl) [(0, .ref (ad 0)), (1, .ref (ad (12 + 6 * u))), (2, .int (zi (d : Int)))] rfl ?_
  intro p_ e_ s_ m_ as_ bl_ me_ co_ Q_ X hret
  have h30 := h0.1.2.2.1.2.1
  have hw0 := scf_wf (d := (d : Int)) (i := i0) h0.1 hu (by omega) hi0
  have hnt : ∀ i, NTL (scf c u (d : Int) i) := fun i => scf_ntl h0.1 hu hok
  have L29 : ∀ nf : Nat, ∀ (i : Int) (iv : Int) (Jb : Wo), (-12 ≤ i ∧ i ≤ 13) → (-24 ≤ iv ∧ iv ≤ 24) → (i = 13 → iv = 12) → (LdA (scf c u (d : Int) iv) Jb) → (CsI c I0 Jb (shl c u (25 * d + (i + 12).toNat))) → (13 - i).toNat < nf → mk_A p_ l e_ rm_CM_searchIntervals s_ m_ as_ bl_ me_ co_ Q_ 4 D cmcl (cm_sh cs ad) 48 48 ad Jb [(0, .ref (ad 0)), (1, .ref (ad (12 + 6 * u))), (2, .int (zi (d : Int))), (3, .int (zi i))] 29 [] := by
    intro nf
    induction nf with
    | zero => intro i iv Jb hib hvb hiv hLb hCb hn; exact absurd hn (Nat.not_lt_zero _)
    | succ nf ih29 =>
      intro i iv Jb hib hvb hiv hLb hCb hn29
      have hwv := scf_wf (d := (d : Int)) (i := iv) h0.1 hu (by omega) hvb
      have h30 := h0.1.2.2.1.2.1
      refine mk_iloadn (nx := 30) X 3 d_CM_searchIntervals_29 rfl rfl ?_
      refine mk_bipush (nx := 32) X d_CM_searchIntervals_30 (by decide) rfl ?_
      refine mk_icmp_gt (tgt := 104) (nx := 35) X d_CM_searchIntervals_32 (by omega) (by omega) (by decide) rfl (fun c32 => ?_) (fun c32 => ?_)
      · skip
        exact hret _ _ _ d_CM_searchIntervals_104 (by obtain rfl : i = 13 := (by omega); obtain rfl : iv = 12 := hiv rfl; exact ⟨hLb.1, hLb.2.1, (by rw [show 25 * (d + 1) = 25 * d + ((13 : Int) + 12).toNat by omega]; exact hCb)⟩)
      · skip
        refine mk_aloadn (nx := 36) X 1 d_CM_searchIntervals_35 rfl rfl ?_
        refine mk_iloadn (nx := 37) X 3 d_CM_searchIntervals_36 rfl rfl ?_
        refine mk_putf (nx := 40) (ty := .int) X t_Line t_Line_ok n_Line (12 + 6 * u) (by omega) (sh_Line cs ad (show u < 4 by omega) _) rfl in_Line 9 (by decide) wd_146 rfl rfl (by decide +kernel) rfl rfl (Nat.le_of_ble_eq_true rfl) ((sh_Line cs ad (show u < 4 by omega) _).trans rfl) d_CM_searchIntervals_37 rfl ?_
        obtain ⟨J1, hJ1⟩ : ∃ W_ : Wo, W_ = up2 Jb (12 + 6 * u) 9 i := ⟨_, rfl⟩
        refine mk_same hJ1.symm ?_
        have hJ1s : J1 (12 + 6 * u) 9 = i := hJ1 ▸ up2_ss Jb (12 + 6 * u) 9 i
        have hJ1o : ∀ a b, (a ≠ (12 + 6 * u) ∨ b ≠ 9) → J1 a b = Jb a b := hJ1 ▸ up2_o Jb (12 + 6 * u) 9 i
        have hw2 := scf_wf (d := (d : Int)) (i := i) h0.1 hu (by omega) (by omega)
        have hF2 : ScF (scf c u (d : Int) i) J1 := sp_int hu h30 hLb.1 hJ1
        have hC2 : CsI c I0 J1 (shl c u (25 * d + (i + 12).toNat)) := cs_fr hCb (fun a b x => hJ1o a b (by omega))
        have hN2 : cmN c J1 := cmN_f2 (fun a b x y => hC2.1 a b (by omega) (by omega) (by omega) (by omega)) h0.2.1
        have hIo := hJ1o
        refine mk_aloadn (nx := 41) X 1 d_CM_searchIntervals_40 rfl rfl ?_
        refine mk_aloadn (nx := 42) X 0 d_CM_searchIntervals_41 rfl rfl ?_
        refine mk_get (nx := 45) (v := .ref (ad 1)) X 0 (by decide) (sh_CM cs ad _) rfl in_CM 0 (by decide) wd_287 rfl rfl d_CM_searchIntervals_42 rfl ?_
        refine mk_callVv (nx := 48) (n := 1) (As := [.ref (ad 1)]) (rest := []) X (12 + 6 * u) (by omega) (sh_Line cs ad (show u < 4 by omega) _) rfl (c_Line_tune l D cs ad zt hi (scf c u (d : Int) i) J1 hw2.1 hw2.2.1 hw2.2.2.1 (scf_cmN hu hN2) u (by omega) (hF2 u (by omega)).1 (hF2 u (by omega)).2.1) (g_Line_tune wd_409) rfl ⟨rfl, rfl⟩ (by decide +kernel) ⟨by decide, by decide⟩ rfl (Nat.le_of_ble_eq_true rfl) rfl d_CM_searchIntervals_45 rfl ?_
        intro JT hJT
        have hFT : ScF (scf c u (d : Int) i) JT := ScF_fr (fun a b _ _ x => hJT.2 a b (by omega)) hF2
        have hTT : ScT (scf c u (d : Int) i) JT := sp_tune hu h30 hLb.2.1 (fun a b x y => (hJT.2 a b x).trans (hIo a b (by omega))) hJT.1
        have hfT : ∀ a b, ¬ a = 15 + 6 * u → ¬ a = 12 + 6 * u → JT a b = Jb a b := fun a b x y => (hJT.2 a b x).trans (hIo a b (by omega))
        have hCT : CsI c I0 JT (shl c u (25 * d + (i + 12).toNat)) := cs_fr hC2 (fun a b x => hJT.2 a b (by omega))
        have hrl : Rl (scf c u (d : Int) iv) (scf c u (d : Int) i) := scf_rl hu h30
        have e7 : nJ JT = nJ Jb := by unfold nJ; rw [hfT 6 5 (by omega) (by omega)]
        have hLT : LdA (scf c u (d : Int) i) JT := ⟨hFT, hTT, (by rw [e7]; exact hrl.mom hwv.1 hwv.2.2.1 hw2.1 hw2.2.2.1 (MomA_fr hLb.2.2.1 (fun b => hfT 8 b (by omega) (by omega)))), (by rw [hfT 6 5 (by omega) (by omega)]; exact hLb.2.2.2.1), hrl.pla hwv.1 hwv.2.2.1 hw2.1 hw2.2.2.1 (PlA_fr hLb.2.2.2.2 (fun a b x y => hfT a b (by omega) (by omega)))⟩
        have hBT : BdE (scf c u (d : Int) i) JT := scf_bd hu (BdE_fr (cmS_bd h0.2.2.1) (fun b => hCT.1 5 b (by omega) (by omega) (by omega) (by omega)))
        refine mk_aloadn (nx := 49) X 0 d_CM_searchIntervals_48 rfl rfl ?_
        refine mk_get (nx := 52) (v := .ref (ad 36)) X 0 (by decide) (sh_CM cs ad _) rfl in_CM 4 (by decide) wd_291 rfl rfl d_CM_searchIntervals_49 rfl ?_
        refine mk_iconst (nx := 53) X d_CM_searchIntervals_52 rfl ?_
        refine mk_iconst (nx := 54) X d_CM_searchIntervals_53 rfl ?_
        refine mk_callVi (nx := 57) (n := 2) (As := [.int (zi 0), .int (zi (-1))]) (rest := []) X 36 (by decide) (sh_Judge cs ad _) rfl (c_Judge_countFaults l D cs ad zt hi (scf c u (d : Int) i) JT hw2.1 hw2.2.1 hw2.2.2.1 hFT hTT (hnt i) hLT.2.2.1 hLT.2.2.2.1 hLT.2.2.2.2 hBT 0 (by omega) (-1)) (g_Judge_countFaults wd_471) rfl ⟨rfl, rfl⟩ (by decide +kernel) ⟨by decide, by decide⟩ rfl (Nat.le_of_ble_eq_true rfl) rfl d_CM_searchIntervals_54 rfl ?_
        intro r54 JC hJC
        have hcf := cf_0 hJC
        rw [FN_FL hw2.1 hw2.2.1 hw2.2.2.1 hLT] at hcf
        have hrb := hJC.2.2
        have hLC : LdA (scf c u (d : Int) i) JC := LdA_fr hLT (fun a b x y => hJC.1 a b (by omega))
        have hCC : CsI c I0 JC (shl c u (25 * d + (i + 12).toNat)) := cs_fr hCT (fun a b x => hJC.1 a b (by omega))
        refine mk_if_ne (tgt := 98) (nx := 60) X d_CM_searchIntervals_57 (by omega) (by decide) rfl (fun c57 => ?_) (fun c57 => ?_)
        · skip
          refine mk_iinc (nx := 101) X 3 [(3, .int (zi (i + 1))), (0, .ref (ad 0)), (1, .ref (ad (12 + 6 * u))), (2, .int (zi (d : Int)))] d_CM_searchIntervals_98 rfl (by decide) rfl rfl ?_
          refine mk_goto (tgt := 29) X d_CM_searchIntervals_101 (by decide) ?_
          refine mk_lv [1, 2, 3, 0] rfl ?_
          exact ih29 (i + 1) i JC (by omega) (by omega) (by omega) (by first | exact hLP | exact LdA_fr hLC (fun a b x y => (hJCo a b (by omega)).trans (hJCo a b (by omega))) | exact hLC) (by first | (rw [show 25 * d + (i + 1 + 12).toNat = 25 * d + (i + 12).toNat + 1 by omega, shl_at (d := (d : Int)) (i := i) (by omega) (by omega) (by omega), if_pos (cln_y (hcf.resolve_right (fun z => absurd z.1 (by omega))).2)]; exact cs_add hCC hK (by rw [hJC]) hJC) | (rw [show 25 * d + (i + 1 + 12).toNat = 25 * d + (i + 12).toNat + 1 by omega, shl_at (d := (d : Int)) (i := i) (by omega) (by omega) (by omega), if_neg (by rw [cln_n (hcf.resolve_left (fun z => absurd z.1 (by omega))).2]; simp), List.append_nil]; exact hCC) | (rw [show 25 * d + ((-12 : Int) + 12).toNat = 25 * d by omega]; exact hCP)) (by omega)
        · skip
          obtain ⟨K, hK⟩ : ∃ K : Nat, K = (shl c u (25 * d + (i + 12).toNat)).length := ⟨_, rfl⟩
          have hKb := (shl_b (c := c) (v := u) (25 * d + (i + 12).toNat) (by omega)).1
          refine mk_aloadn (nx := 61) X 0 d_CM_searchIntervals_60 rfl rfl ?_
          refine mk_get (nx := 64) (v := .int (zi (JC 0 10))) X 0 (by decide) (sh_CM cs ad _) rfl in_CM 10 (by decide) wd_297 rfl rfl d_CM_searchIntervals_61 rfl ?_
          rw [show JC 0 10 = (K : Int) from (hCC.2.1.trans (by rw [hK]))]
          refine mk_sipush (nx := 67) X d_CM_searchIntervals_64 (by decide) rfl ?_
          refine mk_icmp_ge (tgt := 98) (nx := 70) X d_CM_searchIntervals_67 (by omega) (by omega) (by decide) rfl (fun c67 => ?_) (fun c67 => ?_)
          · skip
            refine mk_iinc (nx := 101) X 3 [(3, .int (zi (i + 1))), (0, .ref (ad 0)), (1, .ref (ad (12 + 6 * u))), (2, .int (zi (d : Int)))] d_CM_searchIntervals_98 rfl (by decide) rfl rfl ?_
            refine mk_goto (tgt := 29) X d_CM_searchIntervals_101 (by decide) ?_
            refine mk_lv [1, 2, 3, 0] rfl ?_
            exact ih29 (i + 1) i JC (by omega) (by omega) (by omega) (by first | exact hLP | exact LdA_fr hLC (fun a b x y => (hJCo a b (by omega)).trans (hJCo a b (by omega))) | exact hLC) (by first | (rw [show 25 * d + (i + 1 + 12).toNat = 25 * d + (i + 12).toNat + 1 by omega, shl_at (d := (d : Int)) (i := i) (by omega) (by omega) (by omega), if_pos (cln_y (hcf.resolve_right (fun z => absurd z.1 (by omega))).2)]; exact cs_add hCC hK (by rw [hJC]) hJC) | (rw [show 25 * d + (i + 1 + 12).toNat = 25 * d + (i + 12).toNat + 1 by omega, shl_at (d := (d : Int)) (i := i) (by omega) (by omega) (by omega), if_neg (by rw [cln_n (hcf.resolve_left (fun z => absurd z.1 (by omega))).2]; simp), List.append_nil]; exact hCC) | (rw [show 25 * d + ((-12 : Int) + 12).toNat = 25 * d by omega]; exact hCP)) (by omega)
          · skip
            refine mk_aloadn (nx := 71) X 0 d_CM_searchIntervals_70 rfl rfl ?_
            refine mk_get (nx := 74) (v := .ref (ad 43)) X 0 (by decide) (sh_CM cs ad _) rfl in_CM 6 (by decide) wd_293 rfl rfl d_CM_searchIntervals_71 rfl ?_
            refine mk_aloadn (nx := 75) X 0 d_CM_searchIntervals_74 rfl rfl ?_
            refine mk_get (nx := 78) (v := .int (zi (JC 0 10))) X 0 (by decide) (sh_CM cs ad _) rfl in_CM 10 (by decide) wd_297 rfl rfl d_CM_searchIntervals_75 rfl ?_
            rw [show JC 0 10 = (K : Int) from (hCC.2.1.trans (by rw [hK]))]
            refine mk_iloadn (nx := 79) X 2 d_CM_searchIntervals_78 rfl rfl ?_
            refine mk_bipush (nx := 81) X d_CM_searchIntervals_79 (by decide) rfl ?_
            refine mk_imul (nx := 82) X d_CM_searchIntervals_81 rfl ?_
            refine mk_iloadn (nx := 83) X 3 d_CM_searchIntervals_82 rfl rfl ?_
            refine mk_iadd (nx := 84) X d_CM_searchIntervals_83 rfl ?_
            refine mk_bipush (nx := 86) X d_CM_searchIntervals_84 (by decide) rfl ?_
            refine mk_iadd (nx := 87) X d_CM_searchIntervals_86 rfl ?_
            refine mk_iast (nx := 88) (j := K) X 43 0 (by decide) (sh_shiftsFound cs ad) rfl (by omega) (by omega) (by decide) rfl d_CM_searchIntervals_87 rfl ?_
            obtain ⟨J2, hJ2⟩ : ∃ W_ : Wo, W_ = up2 JC 43 K ((((d : Int) * 25) + i) + 12) := ⟨_, rfl⟩
            refine mk_same hJ2.symm ?_
            have hJ2s : J2 43 K = (((d : Int) * 25) + i) + 12 := hJ2 ▸ up2_ss JC 43 K ((((d : Int) * 25) + i) + 12)
            have hJ2o : ∀ a b, (a ≠ 43 ∨ b ≠ K) → J2 a b = JC a b := hJ2 ▸ up2_o JC 43 K ((((d : Int) * 25) + i) + 12)
            refine mk_aloadn (nx := 89) X 0 d_CM_searchIntervals_88 rfl rfl ?_
            refine mk_dup (nx := 90) X d_CM_searchIntervals_89 rfl rfl ?_
            refine mk_get (nx := 93) (v := .int (zi (J2 0 10))) X 0 (by decide) (sh_CM cs ad _) rfl in_CM 10 (by decide) wd_297 rfl rfl d_CM_searchIntervals_90 rfl ?_
            rw [show J2 0 10 = JC 0 10 from hJ2o 0 10 (Or.inl (by decide))]
            rw [show JC 0 10 = (K : Int) from (hCC.2.1.trans (by rw [hK]))]
            refine mk_iconst (nx := 94) X d_CM_searchIntervals_93 rfl ?_
            refine mk_iadd (nx := 95) X d_CM_searchIntervals_94 rfl ?_
            refine mk_putf (nx := 98) (ty := .int) X t_CM t_CM_ok n_CM 0 (by decide) (sh_CM cs ad _) rfl in_CM 10 (by decide) wd_297 rfl rfl (by decide +kernel) rfl rfl (Nat.le_of_ble_eq_true rfl) ((sh_CM cs ad _).trans rfl) d_CM_searchIntervals_95 rfl ?_
            obtain ⟨J3, hJ3⟩ : ∃ W_ : Wo, W_ = up2 J2 0 10 ((K : Int) + 1) := ⟨_, rfl⟩
            refine mk_same hJ3.symm ?_
            have hJ3s : J3 0 10 = (K : Int) + 1 := hJ3 ▸ up2_ss J2 0 10 ((K : Int) + 1)
            have hJ3o : ∀ a b, (a ≠ 0 ∨ b ≠ 10) → J3 a b = J2 a b := hJ3 ▸ up2_o J2 0 10 ((K : Int) + 1)
            refine mk_iinc (nx := 101) X 3 [(3, .int (zi (i + 1))), (0, .ref (ad 0)), (1, .ref (ad (12 + 6 * u))), (2, .int (zi (d : Int)))] d_CM_searchIntervals_98 rfl (by decide) rfl rfl ?_
            refine mk_goto (tgt := 29) X d_CM_searchIntervals_101 (by decide) ?_
            refine mk_lv [1, 2, 3, 0] rfl ?_
            exact ih29 (i + 1) i J3 (by omega) (by omega) (by omega) (by first | exact hLP | exact LdA_fr hLC (fun a b x y => (hJ3o a b (by omega)).trans (hJ2o a b (by omega))) | exact hLC) (by first | (rw [show 25 * d + (i + 1 + 12).toNat = 25 * d + (i + 12).toNat + 1 by omega, shl_at (d := (d : Int)) (i := i) (by omega) (by omega) (by omega), if_pos (cln_y (hcf.resolve_right (fun z => absurd z.1 (by omega))).2)]; exact cs_add hCC hK (by rw [hJ2]) hJ3) | (rw [show 25 * d + (i + 1 + 12).toNat = 25 * d + (i + 12).toNat + 1 by omega, shl_at (d := (d : Int)) (i := i) (by omega) (by omega) (by omega), if_neg (by rw [cln_n (hcf.resolve_left (fun z => absurd z.1 (by omega))).2]; simp), List.append_nil]; exact hCC) | (rw [show 25 * d + ((-12 : Int) + 12).toNat = 25 * d by omega]; exact hCP)) (by omega)
  refine mk_aloadn (nx := 1) X 1 d_CM_searchIntervals_0 rfl rfl ?_
  refine mk_iloadn (nx := 2) X 2 d_CM_searchIntervals_1 rfl rfl ?_
  refine mk_putf (nx := 5) (ty := .int) X t_Line t_Line_ok n_Line (12 + 6 * u) (by omega) (sh_Line cs ad (show u < 4 by omega) _) rfl in_Line 8 (by decide) wd_144 rfl rfl (by decide +kernel) rfl rfl (Nat.le_of_ble_eq_true rfl) ((sh_Line cs ad (show u < 4 by omega) _).trans rfl) d_CM_searchIntervals_2 rfl ?_
  obtain ⟨J4, hJ4⟩ : ∃ W_ : Wo, W_ = up2 I (12 + 6 * u) 8 (d : Int) := ⟨_, rfl⟩
  refine mk_same hJ4.symm ?_
  have hJ4s : J4 (12 + 6 * u) 8 = (d : Int) := hJ4 ▸ up2_ss I (12 + 6 * u) 8 (d : Int)
  have hJ4o : ∀ a b, (a ≠ (12 + 6 * u) ∨ b ≠ 8) → J4 a b = I a b := hJ4 ▸ up2_o I (12 + 6 * u) 8 (d : Int)
  obtain ⟨hF1, hT1⟩ : ScF (scf c u (d : Int) i0) J4 ∧ ScT (scf c u (d : Int) i0) J4 := sp_delay hu h30 hF0 hT0 hJ4
  have hC1 : CsI c I0 J4 (shl c u (25 * d)) := cs_fr hC0 (fun a b x => hJ4o a b (by omega))
  refine mk_aloadn (nx := 6) X 0 d_CM_searchIntervals_5 rfl rfl ?_
  refine mk_get (nx := 9) (v := .ref (ad 6)) X 0 (by decide) (sh_CM cs ad _) rfl in_CM 3 (by decide) wd_290 rfl rfl d_CM_searchIntervals_6 rfl ?_
  refine mk_callVv (nx := 12) (n := 0) (As := []) (rest := []) X 6 (by decide) (sh_Score cs ad _) rfl (c_Score_gatherMoments l D cs ad zt hi (scf c u (d : Int) i0) J4 hw0.1 hw0.2.1 hw0.2.2.1 hF1 hT1 (hnt i0)) (g_Score_gatherMoments wd_449) rfl ⟨rfl, rfl⟩ (by decide +kernel) ⟨by decide, by decide⟩ rfl (Nat.le_of_ble_eq_true rfl) rfl d_CM_searchIntervals_9 rfl ?_
  intro JG hJG
  have hFG : ScF (scf c u (d : Int) i0) JG := ScF_fr (fun a b x y _ => hJG.2.2 a b (by omega) (by omega)) hF1
  have hTG : ScT (scf c u (d : Int) i0) JG := ScT_fr (fun a b x y => hJG.2.2 a b (by omega) (by omega)) hT1
  have hCG : CsI c I0 JG (shl c u (25 * d)) := cs_fr hC1 (fun a b x => hJG.2.2 a b (by omega) (by omega))
  have hNG : cmN (scf c u (d : Int) i0) JG := scf_cmN hu (cmN_f2 (fun a b x y => hCG.1 a b (by omega) (by omega) (by omega) (by omega)) h0.2.1)
  refine mk_aloadn (nx := 13) X 0 d_CM_searchIntervals_12 rfl rfl ?_
  refine mk_get (nx := 16) (v := .ref (ad 6)) X 0 (by decide) (sh_CM cs ad _) rfl in_CM 3 (by decide) wd_290 rfl rfl d_CM_searchIntervals_13 rfl ?_
  refine mk_aloadn (nx := 17) X 0 d_CM_searchIntervals_16 rfl rfl ?_
  refine mk_get (nx := 20) (v := .ref (ad 1)) X 0 (by decide) (sh_CM cs ad _) rfl in_CM 0 (by decide) wd_287 rfl rfl d_CM_searchIntervals_17 rfl ?_
  refine mk_callVi (nx := 23) (n := 0) (As := []) (rest := [.ref (ad 6)]) X 1 (by decide) (sh_Subject cs ad _) rfl (c_Subject_firstSounding l D cs ad zt hi (scf c u (d : Int) i0) JG hw0.1 hNG) (g_Subject_firstSounding wd_461) rfl ⟨rfl, rfl⟩ (by decide +kernel) ⟨by decide, by decide⟩ rfl (Nat.le_of_ble_eq_true rfl) rfl d_CM_searchIntervals_20 rfl ?_
  intro r20 J5 hJ5
  obtain ⟨rfl, rfl⟩ := hJ5
  refine mk_callVv (nx := 26) (n := 1) (As := [.int (zi (fsr (scf c u (d : Int) i0)))]) (rest := []) X 6 (by decide) (sh_Score cs ad _) rfl (c_Score_placeVoices l D cs ad zt hi (scf c u (d : Int) i0) JG hw0.1 hw0.2.1 hw0.2.2.1 hFG hTG (hnt i0) hJG.1 hJG.2.1) (g_Score_placeVoices wd_462) rfl ⟨rfl, rfl⟩ (by decide +kernel) ⟨by decide, by decide⟩ rfl (Nat.le_of_ble_eq_true rfl) rfl d_CM_searchIntervals_23 rfl ?_
  intro JP hJP
  have e6 : nJ JP = nJ JG := by unfold nJ; rw [hJP.2 6 5 (by omega) (by omega) (by omega)]
  have hLP : LdA (scf c u (d : Int) i0) JP := ⟨ScF_fr (fun a b x y _ => hJP.2 a b (by omega) (by omega) (by omega)) hFG, ScT_fr (fun a b x y => hJP.2 a b (by omega) (by omega) (by omega)) hTG, (by rw [e6]; exact MomA_fr hJG.1 (fun b => hJP.2 8 b (by omega) (by omega) (by omega))), (by rw [hJP.2 6 5 (by omega) (by omega) (by omega)]; exact hJG.2.1), hJP.1⟩
  have hCP : CsI c I0 JP (shl c u (25 * d)) := cs_fr hCG (fun a b x => hJP.2 a b (by omega) (by omega) (by omega))
  refine mk_bipush (nx := 28) X d_CM_searchIntervals_26 (by decide) rfl ?_
  refine mk_istoren (nx := 29) X [(3, .int (zi (-12))), (0, .ref (ad 0)), (1, .ref (ad (12 + 6 * u))), (2, .int (zi (d : Int)))] d_CM_searchIntervals_28 (by decide) rfl rfl ?_
  refine mk_lv [1, 2, 3, 0] rfl ?_
  exact L29 _ (-12) i0 JP (by omega) (by omega) (by omega) (by first | exact hLP | exact LdA_fr hLC (fun a b x y => (hJPo a b (by omega)).trans (hJPo a b (by omega))) | exact hLC) (by first | (rw [show 25 * d + (i + 1 + 12).toNat = 25 * d + (i + 12).toNat + 1 by omega, shl_at (d := (d : Int)) (i := i) (by omega) (by omega) (by omega), if_pos (cln_y (hcf.resolve_right (fun z => absurd z.1 (by omega))).2)]; exact cs_add hCC hK (by rw [hJP]) hJP) | (rw [show 25 * d + (i + 1 + 12).toNat = 25 * d + (i + 12).toNat + 1 by omega, shl_at (d := (d : Int)) (i := i) (by omega) (by omega) (by omega), if_neg (by rw [cln_n (hcf.resolve_left (fun z => absurd z.1 (by omega))).2]; simp), List.append_nil]; exact hCC) | (rw [show 25 * d + ((-12 : Int) + 12).toNat = 25 * d by omega]; exact hCP)) (Nat.lt_succ_self _)

-- CanonMaker.shifts(I)I
theorem d_CM_shifts_0 : decode prog_1_method_20_code 0 = .ok (.iload_n 1, 1) := by decide +kernel
theorem d_CM_shifts_1 : decode prog_1_method_20_code 1 = .ok (.invokestatic 78, 3) := by decide +kernel
theorem d_CM_shifts_4 : decode prog_1_method_20_code 4 = .ok (.ifCond .ne 5, 3) := by decide +kernel
theorem d_CM_shifts_7 : decode prog_1_method_20_code 7 = .ok (.iconst (-1), 1) := by decide +kernel
theorem d_CM_shifts_8 : decode prog_1_method_20_code 8 = .ok (.ireturn, 1) := by decide +kernel
theorem d_CM_shifts_9 : decode prog_1_method_20_code 9 = .ok (.aload_n 0, 1) := by decide +kernel
theorem d_CM_shifts_10 : decode prog_1_method_20_code 10 = .ok (.getfield 18, 3) := by decide +kernel
theorem d_CM_shifts_13 : decode prog_1_method_20_code 13 = .ok (.iload_n 1, 1) := by decide +kernel
theorem d_CM_shifts_14 : decode prog_1_method_20_code 14 = .ok (.aaload, 1) := by decide +kernel
theorem d_CM_shifts_15 : decode prog_1_method_20_code 15 = .ok (.getfield 53, 3) := by decide +kernel
theorem d_CM_shifts_18 : decode prog_1_method_20_code 18 = .ok (.ifCond .eq 39, 3) := by decide +kernel
theorem d_CM_shifts_21 : decode prog_1_method_20_code 21 = .ok (.aload_n 0, 1) := by decide +kernel
theorem d_CM_shifts_22 : decode prog_1_method_20_code 22 = .ok (.getfield 12, 3) := by decide +kernel
theorem d_CM_shifts_25 : decode prog_1_method_20_code 25 = .ok (.invokevirtual 169, 3) := by decide +kernel
theorem d_CM_shifts_28 : decode prog_1_method_20_code 28 = .ok (.ifCond .ne 29, 3) := by decide +kernel
theorem d_CM_shifts_31 : decode prog_1_method_20_code 31 = .ok (.aload_n 0, 1) := by decide +kernel
theorem d_CM_shifts_32 : decode prog_1_method_20_code 32 = .ok (.aload_n 0, 1) := by decide +kernel
theorem d_CM_shifts_33 : decode prog_1_method_20_code 33 = .ok (.getfield 18, 3) := by decide +kernel
theorem d_CM_shifts_36 : decode prog_1_method_20_code 36 = .ok (.iconst 0, 1) := by decide +kernel
theorem d_CM_shifts_37 : decode prog_1_method_20_code 37 = .ok (.aaload, 1) := by decide +kernel
theorem d_CM_shifts_38 : decode prog_1_method_20_code 38 = .ok (.invokevirtual 172, 3) := by decide +kernel
theorem d_CM_shifts_41 : decode prog_1_method_20_code 41 = .ok (.ifCond .ne 16, 3) := by decide +kernel
theorem d_CM_shifts_44 : decode prog_1_method_20_code 44 = .ok (.aload_n 0, 1) := by decide +kernel
theorem d_CM_shifts_45 : decode prog_1_method_20_code 45 = .ok (.aload_n 0, 1) := by decide +kernel
theorem d_CM_shifts_46 : decode prog_1_method_20_code 46 = .ok (.getfield 18, 3) := by decide +kernel
theorem d_CM_shifts_49 : decode prog_1_method_20_code 49 = .ok (.iload_n 1, 1) := by decide +kernel
theorem d_CM_shifts_50 : decode prog_1_method_20_code 50 = .ok (.aaload, 1) := by decide +kernel
theorem d_CM_shifts_51 : decode prog_1_method_20_code 51 = .ok (.invokevirtual 172, 3) := by decide +kernel
theorem d_CM_shifts_54 : decode prog_1_method_20_code 54 = .ok (.ifCond .eq 6, 3) := by decide +kernel
theorem d_CM_shifts_57 : decode prog_1_method_20_code 57 = .ok (.bipush (-3), 2) := by decide +kernel
theorem d_CM_shifts_59 : decode prog_1_method_20_code 59 = .ok (.ireturn, 1) := by decide +kernel
theorem d_CM_shifts_60 : decode prog_1_method_20_code 60 = .ok (.aload_n 0, 1) := by decide +kernel
theorem d_CM_shifts_61 : decode prog_1_method_20_code 61 = .ok (.iload_n 1, 1) := by decide +kernel
theorem d_CM_shifts_62 : decode prog_1_method_20_code 62 = .ok (.invokevirtual 176, 3) := by decide +kernel
theorem d_CM_shifts_65 : decode prog_1_method_20_code 65 = .ok (.aload_n 0, 1) := by decide +kernel
theorem d_CM_shifts_66 : decode prog_1_method_20_code 66 = .ok (.iconst 0, 1) := by decide +kernel
theorem d_CM_shifts_67 : decode prog_1_method_20_code 67 = .ok (.putfield 180, 3) := by decide +kernel
theorem d_CM_shifts_70 : decode prog_1_method_20_code 70 = .ok (.aload_n 0, 1) := by decide +kernel
theorem d_CM_shifts_71 : decode prog_1_method_20_code 71 = .ok (.getfield 12, 3) := by decide +kernel
theorem d_CM_shifts_74 : decode prog_1_method_20_code 74 = .ok (.invokevirtual 74, 3) := by decide +kernel
theorem d_CM_shifts_77 : decode prog_1_method_20_code 77 = .ok (.bipush 100, 2) := by decide +kernel
theorem d_CM_shifts_79 : decode prog_1_method_20_code 79 = .ok (.invokestatic 183, 3) := by decide +kernel
theorem d_CM_shifts_82 : decode prog_1_method_20_code 82 = .ok (.istore_n 2, 1) := by decide +kernel
theorem d_CM_shifts_83 : decode prog_1_method_20_code 83 = .ok (.iconst 0, 1) := by decide +kernel
theorem d_CM_shifts_84 : decode prog_1_method_20_code 84 = .ok (.istore_n 3, 1) := by decide +kernel
theorem d_CM_shifts_85 : decode prog_1_method_20_code 85 = .ok (.iload_n 3, 1) := by decide +kernel
theorem d_CM_shifts_86 : decode prog_1_method_20_code 86 = .ok (.iload_n 2, 1) := by decide +kernel
theorem d_CM_shifts_87 : decode prog_1_method_20_code 87 = .ok (.if_icmp .gt 23, 3) := by decide +kernel
theorem d_CM_shifts_90 : decode prog_1_method_20_code 90 = .ok (.aload_n 0, 1) := by decide +kernel
theorem d_CM_shifts_91 : decode prog_1_method_20_code 91 = .ok (.aload_n 0, 1) := by decide +kernel
theorem d_CM_shifts_92 : decode prog_1_method_20_code 92 = .ok (.getfield 32, 3) := by decide +kernel
theorem d_CM_shifts_95 : decode prog_1_method_20_code 95 = .ok (.getfield 114, 3) := by decide +kernel
theorem d_CM_shifts_98 : decode prog_1_method_20_code 98 = .ok (.iload_n 1, 1) := by decide +kernel
theorem d_CM_shifts_99 : decode prog_1_method_20_code 99 = .ok (.aaload, 1) := by decide +kernel
theorem d_CM_shifts_100 : decode prog_1_method_20_code 100 = .ok (.iload_n 3, 1) := by decide +kernel
theorem d_CM_shifts_101 : decode prog_1_method_20_code 101 = .ok (.invokevirtual 188, 3) := by decide +kernel
theorem d_CM_shifts_104 : decode prog_1_method_20_code 104 = .ok (.iinc 3 1, 3) := by decide +kernel
theorem d_CM_shifts_107 : decode prog_1_method_20_code 107 = .ok (.goto (-22), 3) := by decide +kernel
theorem d_CM_shifts_110 : decode prog_1_method_20_code 110 = .ok (.aload_n 0, 1) := by decide +kernel
theorem d_CM_shifts_111 : decode prog_1_method_20_code 111 = .ok (.getfield 180, 3) := by decide +kernel
theorem d_CM_shifts_114 : decode prog_1_method_20_code 114 = .ok (.ireturn, 1) := by decide +kernel
abbrev rm_CM_shifts : Room := { frames := 7, cells := 0, slots := 0, locals := 169 }
set_option maxHeartbeats 4000000 in
set_option maxRecDepth 100000 in
theorem c_CM_shifts_a (l : Launch) (D : va_G) (cs : Nat → ClassId) (ad : Nat → Nat) (zt : Nat) (hi : cm_inj ad) (c I : Wo) (h : cmR c I) (u : Nat) (hu : 1 ≤ u ∧ u < 4) : cm_C l D cs ad zt y_CM_shifts ws_CM_shifts rm_CM_shifts [.ref (ad 0), .int (zi (u : Int))] I (mk_pi (fun r J => ∃ d, shfR c (u : Int) r d ∧ cmR d J)) := by
  refine mk_meti (own := "CanonMaker") (Ts := wA) hi (Nat.le_refl _) (by decide) rfl (fun w h => List.mem_cons_of_mem _ h) rfl (Nat.le_of_ble_eq_true rfl) [(0, .ref (ad 0)), (1, .int (zi (u : Int)))] rfl ?_
  intro p_ e_ s_ m_ as_ bl_ me_ co_ Q_ X hret
  obtain ⟨⟨⟨hn, hN⟩, ⟨hlo, hsc, hbt, hru, hrd, hst⟩, ⟨hV, hV0⟩, ⟨hfc, hF⟩⟩, ⟨i12, iN⟩, ⟨⟨i50, i51, i52, i53, i54⟩, i07, i09⟩, iV, ⟨i010, iF⟩⟩ := id h
  have hcn := cn_e h.1.1
  have hmxb := mxd_b h.1.1
  have hvu := hV u (by omega)
  have hsz := an_size_b h.1.1
  have L85 : ∀ nf : Nat, ∀ (d : Nat) (mx : Int) (d0 : Int) (i0 : Int) (Jb : Wo), (mx = mxd c) → (okS c u) → ((d : Int) ≤ mxd c + 1) → (0 ≤ d0 ∧ d0 ≤ 100) → (-24 ≤ i0 ∧ i0 ≤ 24) → (ScF (scf c u d0 i0) Jb) → (ScT (scf c u d0 i0) Jb) → (CsI c I Jb (shl c u (25 * d))) → 102 - d < nf → mk_A p_ l e_ rm_CM_shifts s_ m_ as_ bl_ me_ co_ Q_ 4 D cmcl (cm_sh cs ad) 48 48 ad Jb [(0, .ref (ad 0)), (1, .int (zi (u : Int))), (2, .int (zi mx)), (3, .int (zi (d : Int)))] 85 [] := by
    intro nf
    induction nf with
    | zero => intro d mx d0 i0 Jb hmx hok hdm hd0 hi0 hF0 hT0 hC0 hn; exact absurd hn (Nat.not_lt_zero _)
    | succ nf ih85 =>
      intro d mx d0 i0 Jb hmx hok hdm hd0 hi0 hF0 hT0 hC0 hn85
      refine mk_iloadn (nx := 86) X 3 d_CM_shifts_85 rfl rfl ?_
      refine mk_iloadn (nx := 87) X 2 d_CM_shifts_86 rfl rfl ?_
      refine mk_icmp_gt (tgt := 110) (nx := 90) X d_CM_shifts_87 (by omega) (by omega) (by decide) rfl (fun c87 => ?_) (fun c87 => ?_)
      · skip
        refine mk_aloadn (nx := 111) X 0 d_CM_shifts_110 rfl rfl ?_
        refine mk_get (nx := 114) (v := .int (zi (Jb 0 10))) X 0 (by decide) (sh_CM cs ad _) rfl in_CM 10 (by decide) wd_297 rfl rfl d_CM_shifts_111 rfl ?_
        rw [show Jb 0 10 = ((shl c u (25 * d)).length : Int) from hC0.2.1]
        exact hret _ _ _ _ d_CM_shifts_114 (by have e : 25 * d = 25 * ((mxd c).toNat + 1) := (by omega); rw [e] at hC0 ⊢; exact ⟨_, shfR_ok hu hok, cm_swl h hC0.1 (shl_b _ (by omega)).2 hC0.2.1 hC0.2.2⟩)
      · skip
        refine mk_aloadn (nx := 91) X 0 d_CM_shifts_90 rfl rfl ?_
        refine mk_aloadn (nx := 92) X 0 d_CM_shifts_91 rfl rfl ?_
        refine mk_get (nx := 95) (v := .ref (ad 6)) X 0 (by decide) (sh_CM cs ad _) rfl in_CM 3 (by decide) wd_290 rfl rfl d_CM_shifts_92 rfl ?_
        refine mk_get (nx := 98) (v := .ref (ad 7)) X 6 (by decide) (sh_Score cs ad _) rfl in_Score 0 (by decide) wd_179 rfl rfl d_CM_shifts_95 rfl ?_
        refine mk_iloadn (nx := 99) X 1 d_CM_shifts_98 rfl rfl ?_
        refine mk_aald (nx := 100) (j := u) X 7 3 (by decide) (sh_lines cs ad _) rfl (by omega) (by omega) (by decide) rfl rfl d_CM_shifts_99 rfl ?_
        refine mk_iloadn (nx := 101) X 3 d_CM_shifts_100 rfl rfl ?_
        refine mk_callVv (nx := 104) (n := 2) (As := [.ref (ad (12 + 6 * u)), .int (zi (d : Int))]) (rest := []) X 0 (by decide) (sh_CM cs ad _) rfl (c_CM_searchIntervals l D cs ad zt hi c I Jb h u hu hok d (by omega) d0 i0 hd0 hi0 hF0 hT0 hC0) (g_CM_searchIntervals wd_581) rfl ⟨rfl, rfl⟩ (by decide +kernel) ⟨by decide, by decide⟩ rfl (Nat.le_of_ble_eq_true rfl) rfl d_CM_shifts_101 rfl ?_
        intro JS hJS
        refine mk_iinc (nx := 107) X 3 [(3, .int (zi ((d : Int) + 1))), (0, .ref (ad 0)), (1, .int (zi (u : Int))), (2, .int (zi mx))] d_CM_shifts_104 rfl (by decide) rfl rfl ?_
        refine mk_goto (tgt := 85) X d_CM_shifts_107 (by decide) ?_
        refine mk_lv [1, 2, 3, 0] rfl ?_
        exact ih85 (d + 1) mx (d : Int) 12 JS (by first | exact hmx | rfl) (by first | exact hok | exact hok2) (by omega) (by omega) (by omega) (by first | exact hJS.1 | exact ScF_fr (fun a b x y _ => hJSo a b (by omega)) hJL.1) (by first | exact hJS.2.1 | exact ScT_fr (fun a b x y => hJSo a b (by omega)) hJL.2.1) (by first | exact hJS.2.2 | exact ⟨fun a b x y z w => (hJSo a b (by omega)).trans (hJL.2.2 a b (by omega)), hJSs, fun k x hx => by simp [shl] at hx⟩) (by omega)
  refine mk_iloadn (nx := 1) X 1 d_CM_shifts_0 rfl rfl ?_
  refine mk_callSi (nx := 4) (n := 1) (As := [.int (zi (u : Int))]) (rest := []) X (c_CM_isFollower l D cs ad zt hi I (u : Int) (by omega)) (g_CM_isFollower wd_356) rfl ⟨rfl, rfl⟩ (by decide +kernel) ⟨by decide, by decide⟩ rfl (Nat.le_of_ble_eq_true rfl) rfl d_CM_shifts_1 rfl ?_
  intro r1 J1 hJ1
  obtain ⟨rfl, hr1⟩ := hJ1
  refine mk_if_ne (tgt := 9) (nx := 7) X d_CM_shifts_4 (by omega) (by decide) rfl (fun c4 => ?_) (fun c4 => ?_)
  · skip
    refine mk_aloadn (nx := 10) X 0 d_CM_shifts_9 rfl rfl ?_
    refine mk_get (nx := 13) (v := .ref (ad 4)) X 0 (by decide) (sh_CM cs ad _) rfl in_CM 1 (by decide) wd_288 rfl rfl d_CM_shifts_10 rfl ?_
    refine mk_iloadn (nx := 14) X 1 d_CM_shifts_13 rfl rfl ?_
    refine mk_aald (nx := 15) (j := u) X 4 2 (by decide) (sh_voices cs ad _) rfl (by omega) (by omega) (by decide) rfl rfl d_CM_shifts_14 rfl ?_
    refine mk_get (nx := 18) (v := .int (zi (I (44 + u) 0))) X (44 + u) (by omega) (sh_Voice cs ad (show u < 4 by omega) _) rfl in_Voice 0 (by decide) wd_265 rfl rfl d_CM_shifts_15 rfl ?_
    rw [show I (44 + u) 0 = c (3 + u) 0 from (iV u (by omega)).1]
    refine mk_if_eq (tgt := 57) (nx := 21) X d_CM_shifts_18 (by omega) (by decide) rfl (fun c18 => ?_) (fun c18 => ?_)
    · skip
      refine mk_bipush (nx := 59) X d_CM_shifts_57 (by decide) rfl ?_
      exact hret _ _ _ _ d_CM_shifts_59 (by exact ⟨c, shfR_no hu (fun z => by first | (have z1 := z.1; omega) | exact z.2.2.2 (hr51.resolve_right (fun z => absurd z.1 (by omega))).2 | exact z.2.2.1 (hr38.resolve_right (fun z => absurd z.1 (by omega))).2 | (obtain ⟨j, a, b⟩ := (hr25.resolve_right (fun z => absurd z.1 (by omega))).2; exact z.2.1 j a b)), h⟩)
    · skip
      refine mk_aloadn (nx := 22) X 0 d_CM_shifts_21 rfl rfl ?_
      refine mk_get (nx := 25) (v := .ref (ad 1)) X 0 (by decide) (sh_CM cs ad _) rfl in_CM 0 (by decide) wd_287 rfl rfl d_CM_shifts_22 rfl ?_
      refine mk_callVi (nx := 28) (n := 0) (As := []) (rest := []) X 1 (by decide) (sh_Subject cs ad _) rfl (c_Subject_hasOpen l D cs ad zt hi c I h.1.1 h.2.1) (g_Subject_hasOpen wd_570) rfl ⟨rfl, rfl⟩ (by decide +kernel) ⟨by decide, by decide⟩ rfl (Nat.le_of_ble_eq_true rfl) rfl d_CM_shifts_25 rfl ?_
      intro r25 J2 hJ2
      obtain ⟨rfl, hr25⟩ := hJ2
      have hr25b : r25 = 1 ∨ r25 = 0 := hr25.elim (fun e => Or.inl e.1) (fun e => Or.inr e.1)
      refine mk_if_ne (tgt := 57) (nx := 31) X d_CM_shifts_28 (by omega) (by decide) rfl (fun c28 => ?_) (fun c28 => ?_)
      · skip
        refine mk_bipush (nx := 59) X d_CM_shifts_57 (by decide) rfl ?_
        exact hret _ _ _ _ d_CM_shifts_59 (by exact ⟨c, shfR_no hu (fun z => by first | (have z1 := z.1; omega) | exact z.2.2.2 (hr51.resolve_right (fun z => absurd z.1 (by omega))).2 | exact z.2.2.1 (hr38.resolve_right (fun z => absurd z.1 (by omega))).2 | (obtain ⟨j, a, b⟩ := (hr25.resolve_right (fun z => absurd z.1 (by omega))).2; exact z.2.1 j a b)), h⟩)
      · skip
        refine mk_aloadn (nx := 32) X 0 d_CM_shifts_31 rfl rfl ?_
        refine mk_aloadn (nx := 33) X 0 d_CM_shifts_32 rfl rfl ?_
        refine mk_get (nx := 36) (v := .ref (ad 4)) X 0 (by decide) (sh_CM cs ad _) rfl in_CM 1 (by decide) wd_288 rfl rfl d_CM_shifts_33 rfl ?_
        refine mk_iconst (nx := 37) X d_CM_shifts_36 rfl ?_
        refine mk_aald (nx := 38) (j := 0) X 4 2 (by decide) (sh_voices cs ad _) rfl (by omega) (by omega) (by decide) rfl rfl d_CM_shifts_37 rfl ?_
        refine mk_callVi (nx := 41) (n := 1) (As := [.ref (ad (44 + 0))]) (rest := []) X 0 (by decide) (sh_CM cs ad _) rfl (c_CM_isTooLong l D cs ad zt hi c I h 0 (by omega)) (g_CM_isTooLong wd_436) rfl ⟨rfl, rfl⟩ (by decide +kernel) ⟨by decide, by decide⟩ rfl (Nat.le_of_ble_eq_true rfl) rfl d_CM_shifts_38 rfl ?_
        intro r38 J3 hJ3
        obtain ⟨rfl, hr38⟩ := hJ3
        have hr38b : r38 = 1 ∨ r38 = 0 := hr38.elim (fun e => Or.inl e.1) (fun e => Or.inr e.1)
        refine mk_if_ne (tgt := 57) (nx := 44) X d_CM_shifts_41 (by omega) (by decide) rfl (fun c41 => ?_) (fun c41 => ?_)
        · skip
          refine mk_bipush (nx := 59) X d_CM_shifts_57 (by decide) rfl ?_
          exact hret _ _ _ _ d_CM_shifts_59 (by exact ⟨c, shfR_no hu (fun z => by first | (have z1 := z.1; omega) | exact z.2.2.2 (hr51.resolve_right (fun z => absurd z.1 (by omega))).2 | exact z.2.2.1 (hr38.resolve_right (fun z => absurd z.1 (by omega))).2 | (obtain ⟨j, a, b⟩ := (hr25.resolve_right (fun z => absurd z.1 (by omega))).2; exact z.2.1 j a b)), h⟩)
        · skip
          refine mk_aloadn (nx := 45) X 0 d_CM_shifts_44 rfl rfl ?_
          refine mk_aloadn (nx := 46) X 0 d_CM_shifts_45 rfl rfl ?_
          refine mk_get (nx := 49) (v := .ref (ad 4)) X 0 (by decide) (sh_CM cs ad _) rfl in_CM 1 (by decide) wd_288 rfl rfl d_CM_shifts_46 rfl ?_
          refine mk_iloadn (nx := 50) X 1 d_CM_shifts_49 rfl rfl ?_
          refine mk_aald (nx := 51) (j := u) X 4 2 (by decide) (sh_voices cs ad _) rfl (by omega) (by omega) (by decide) rfl rfl d_CM_shifts_50 rfl ?_
          refine mk_callVi (nx := 54) (n := 1) (As := [.ref (ad (44 + u))]) (rest := []) X 0 (by decide) (sh_CM cs ad _) rfl (c_CM_isTooLong l D cs ad zt hi c I h u (by omega)) (g_CM_isTooLong wd_436) rfl ⟨rfl, rfl⟩ (by decide +kernel) ⟨by decide, by decide⟩ rfl (Nat.le_of_ble_eq_true rfl) rfl d_CM_shifts_51 rfl ?_
          intro r51 J4 hJ4
          obtain ⟨rfl, hr51⟩ := hJ4
          have hr51b : r51 = 1 ∨ r51 = 0 := hr51.elim (fun e => Or.inl e.1) (fun e => Or.inr e.1)
          refine mk_if_eq (tgt := 60) (nx := 57) X d_CM_shifts_54 (by omega) (by decide) rfl (fun c54 => ?_) (fun c54 => ?_)
          · skip
            have hok2 : okS c u := ⟨by omega, (hr25.resolve_left (fun z => absurd z.1 (by omega))).2, (hr38.resolve_left (fun z => absurd z.1 (by omega))).2, (hr51.resolve_left (fun z => absurd z.1 (by omega))).2⟩
            refine mk_aloadn (nx := 61) X 0 d_CM_shifts_60 rfl rfl ?_
            refine mk_iloadn (nx := 62) X 1 d_CM_shifts_61 rfl rfl ?_
            refine mk_callVv (nx := 65) (n := 1) (As := [.int (zi (u : Int))]) (rest := []) X 0 (by decide) (sh_CM cs ad _) rfl (c_CM_layPair l D cs ad zt hi c I h u hu) (g_CM_layPair wd_574) rfl ⟨rfl, rfl⟩ (by decide +kernel) ⟨by decide, by decide⟩ rfl (Nat.le_of_ble_eq_true rfl) rfl d_CM_shifts_62 rfl ?_
            intro JL hJL
            refine mk_aloadn (nx := 66) X 0 d_CM_shifts_65 rfl rfl ?_
            refine mk_iconst (nx := 67) X d_CM_shifts_66 rfl ?_
            refine mk_putf (nx := 70) (ty := .int) X t_CM t_CM_ok n_CM 0 (by decide) (sh_CM cs ad _) rfl in_CM 10 (by decide) wd_297 rfl rfl (by decide +kernel) rfl rfl (Nat.le_of_ble_eq_true rfl) ((sh_CM cs ad _).trans rfl) d_CM_shifts_67 rfl ?_
            obtain ⟨J5, hJ5⟩ : ∃ W_ : Wo, W_ = up2 JL 0 10 0 := ⟨_, rfl⟩
            refine mk_same hJ5.symm ?_
            have hJ5s : J5 0 10 = 0 := hJ5 ▸ up2_ss JL 0 10 0
            have hJ5o : ∀ a b, (a ≠ 0 ∨ b ≠ 10) → J5 a b = JL a b := hJ5 ▸ up2_o JL 0 10 0
            refine mk_aloadn (nx := 71) X 0 d_CM_shifts_70 rfl rfl ?_
            refine mk_get (nx := 74) (v := .ref (ad 1)) X 0 (by decide) (sh_CM cs ad _) rfl in_CM 0 (by decide) wd_287 rfl rfl d_CM_shifts_71 rfl ?_
            refine mk_callVi (nx := 77) (n := 0) (As := []) (rest := []) X 1 (by decide) (sh_Subject cs ad _) rfl (c_Subject_units l D cs ad zt hi c J5 h.1.1 (cmN_f2 (fun a b x y => (hJ5o a b (by omega)).trans (hJL.2.2 a b (by omega))) h.2.1)) (g_Subject_units wd_348) rfl ⟨rfl, rfl⟩ (by decide +kernel) ⟨by decide, by decide⟩ rfl (Nat.le_of_ble_eq_true rfl) rfl d_CM_shifts_74 rfl ?_
            intro r74 J6 hJ6
            obtain ⟨rfl, rfl⟩ := hJ6
            refine mk_bipush (nx := 79) X d_CM_shifts_77 (by decide) rfl ?_
            refine mk_mmin (nx := 82) X wd_578 wd_579 wd_48 wd_580 (by decide) (by decide) (by omega) (by omega) d_CM_shifts_79 rfl ?_
            refine mk_istoren (nx := 83) X [(2, .int (zi (min (an_size c) 100))), (0, .ref (ad 0)), (1, .int (zi (u : Int)))] d_CM_shifts_82 (by decide) rfl rfl ?_
            refine mk_iconst (nx := 84) X d_CM_shifts_83 rfl ?_
            refine mk_istoren (nx := 85) X [(3, .int (zi 0)), (2, .int (zi (min (an_size c) 100))), (0, .ref (ad 0)), (1, .int (zi (u : Int)))] d_CM_shifts_84 (by decide) rfl rfl ?_
            refine mk_lv [2, 3, 1, 0] rfl ?_
            exact L85 _ 0 (min (an_size c) 100) (c (3 + u) 1) (c (3 + u) 2) J5 (by first | exact hmx | rfl) (by first | exact hok | exact hok2) (by omega) (by omega) (by omega) (by first | exact hJS.1 | exact ScF_fr (fun a b x y _ => hJ5o a b (by omega)) hJL.1) (by first | exact hJS.2.1 | exact ScT_fr (fun a b x y => hJ5o a b (by omega)) hJL.2.1) (by first | exact hJS.2.2 | exact ⟨fun a b x y z w => (hJ5o a b (by omega)).trans (hJL.2.2 a b (by omega)), hJ5s, fun k x hx => by simp [shl] at hx⟩) (Nat.lt_succ_self _)
          · skip
            refine mk_bipush (nx := 59) X d_CM_shifts_57 (by decide) rfl ?_
            exact hret _ _ _ _ d_CM_shifts_59 (by exact ⟨c, shfR_no hu (fun z => by first | (have z1 := z.1; omega) | exact z.2.2.2 (hr51.resolve_right (fun z => absurd z.1 (by omega))).2 | exact z.2.2.1 (hr38.resolve_right (fun z => absurd z.1 (by omega))).2 | (obtain ⟨j, a, b⟩ := (hr25.resolve_right (fun z => absurd z.1 (by omega))).2; exact z.2.1 j a b)), h⟩)
  · omega

-- CanonMaker.shifts(I)I
set_option maxHeartbeats 4000000 in
set_option maxRecDepth 100000 in
theorem c_CM_shifts_b (l : Launch) (D : va_G) (cs : Nat → ClassId) (ad : Nat → Nat) (zt : Nat) (hi : cm_inj ad) (c I : Wo) (h : cmR c I) (v : Int) (h_v : -2147483648 ≤ v ∧ v < 2147483648) (hv : v < 1 ∨ 3 < v) : cm_C l D cs ad zt y_CM_shifts ws_CM_shifts rm_CM_shifts [.ref (ad 0), .int (zi v)] I (mk_pi (fun r J => ∃ d, shfR c v r d ∧ cmR d J)) := by
  refine mk_meti (own := "CanonMaker") (Ts := wA) hi (Nat.le_refl _) (by decide) rfl (fun w h => List.mem_cons_of_mem _ h) rfl (Nat.le_of_ble_eq_true rfl) [(0, .ref (ad 0)), (1, .int (zi v))] rfl ?_
  intro p_ e_ s_ m_ as_ bl_ me_ co_ Q_ X hret
  refine mk_iloadn (nx := 1) X 1 d_CM_shifts_0 rfl rfl ?_
  refine mk_callSi (nx := 4) (n := 1) (As := [.int (zi v)]) (rest := []) X (c_CM_isFollower l D cs ad zt hi I v (by omega)) (g_CM_isFollower wd_356) rfl ⟨rfl, rfl⟩ (by decide +kernel) ⟨by decide, by decide⟩ rfl (Nat.le_of_ble_eq_true rfl) rfl d_CM_shifts_1 rfl ?_
  intro r1 J1 hJ1
  obtain ⟨rfl, hr1⟩ := hJ1
  refine mk_if_ne (tgt := 9) (nx := 7) X d_CM_shifts_4 (by omega) (by decide) rfl (fun c4 => ?_) (fun c4 => ?_)
  · omega
  · skip
    refine mk_iconst (nx := 8) X d_CM_shifts_7 rfl ?_
    exact hret _ _ _ _ d_CM_shifts_8 (by exact ⟨c, Or.inl ⟨hv, rfl, rfl⟩, h⟩)

theorem c_CM_shifts (l : Launch) (D : va_G) (cs : Nat → ClassId) (ad : Nat → Nat) (zt : Nat) (hi : cm_inj ad) (c I : Wo) (h : cmR c I) (v : Int) (h_v : -2147483648 ≤ v ∧ v < 2147483648) : cm_C l D cs ad zt y_CM_shifts ws_CM_shifts rm_CM_shifts [.ref (ad 0), .int (zi v)] I (mk_pi (fun r J => ∃ d, shfR c v r d ∧ cmR d J)) := by
  by_cases hv : v < 1 ∨ 3 < v
  · exact c_CM_shifts_b l D cs ad zt hi c I h v h_v hv
  · obtain ⟨u, rfl⟩ : ∃ u : Nat, v = u := ⟨v.toNat, by omega⟩
    exact c_CM_shifts_a l D cs ad zt hi c I h u (by omega)
