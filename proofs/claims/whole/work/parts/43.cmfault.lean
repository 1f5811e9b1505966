-- CanonMaker.layAll()V
theorem d_CM_layAll_0 : decode prog_1_method_27_code 0 = .ok (.iconst 0, 1) := by decide +kernel
theorem d_CM_layAll_1 : decode prog_1_method_27_code 1 = .ok (.istore_n 1, 1) := by decide +kernel
theorem d_CM_layAll_2 : decode prog_1_method_27_code 2 = .ok (.iload_n 1, 1) := by decide +kernel
theorem d_CM_layAll_3 : decode prog_1_method_27_code 3 = .ok (.iconst 4, 1) := by decide +kernel
theorem d_CM_layAll_4 : decode prog_1_method_27_code 4 = .ok (.if_icmp .ge 35, 3) := by decide +kernel
theorem d_CM_layAll_7 : decode prog_1_method_27_code 7 = .ok (.aload_n 0, 1) := by decide +kernel
theorem d_CM_layAll_8 : decode prog_1_method_27_code 8 = .ok (.getfield 32, 3) := by decide +kernel
theorem d_CM_layAll_11 : decode prog_1_method_27_code 11 = .ok (.getfield 114, 3) := by decide +kernel
theorem d_CM_layAll_14 : decode prog_1_method_27_code 14 = .ok (.iload_n 1, 1) := by decide +kernel
theorem d_CM_layAll_15 : decode prog_1_method_27_code 15 = .ok (.aaload, 1) := by decide +kernel
theorem d_CM_layAll_16 : decode prog_1_method_27_code 16 = .ok (.aload_n 0, 1) := by decide +kernel
theorem d_CM_layAll_17 : decode prog_1_method_27_code 17 = .ok (.getfield 12, 3) := by decide +kernel
theorem d_CM_layAll_20 : decode prog_1_method_27_code 20 = .ok (.aload_n 0, 1) := by decide +kernel
theorem d_CM_layAll_21 : decode prog_1_method_27_code 21 = .ok (.getfield 18, 3) := by decide +kernel
theorem d_CM_layAll_24 : decode prog_1_method_27_code 24 = .ok (.iload_n 1, 1) := by decide +kernel
theorem d_CM_layAll_25 : decode prog_1_method_27_code 25 = .ok (.aaload, 1) := by decide +kernel
theorem d_CM_layAll_26 : decode prog_1_method_27_code 26 = .ok (.aload_n 0, 1) := by decide +kernel
theorem d_CM_layAll_27 : decode prog_1_method_27_code 27 = .ok (.getfield 105, 3) := by decide +kernel
theorem d_CM_layAll_30 : decode prog_1_method_27_code 30 = .ok (.invokevirtual 118, 3) := by decide +kernel
theorem d_CM_layAll_33 : decode prog_1_method_27_code 33 = .ok (.iinc 1 1, 3) := by decide +kernel
theorem d_CM_layAll_36 : decode prog_1_method_27_code 36 = .ok (.goto (-34), 3) := by decide +kernel
theorem d_CM_layAll_39 : decode prog_1_method_27_code 39 = .ok (.aload_n 0, 1) := by decide +kernel
theorem d_CM_layAll_40 : decode prog_1_method_27_code 40 = .ok (.getfield 32, 3) := by decide +kernel
theorem d_CM_layAll_43 : decode prog_1_method_27_code 43 = .ok (.aload_n 0, 1) := by decide +kernel
theorem d_CM_layAll_44 : decode prog_1_method_27_code 44 = .ok (.getfield 12, 3) := by decide +kernel
theorem d_CM_layAll_47 : decode prog_1_method_27_code 47 = .ok (.invokevirtual 195, 3) := by decide +kernel
theorem d_CM_layAll_50 : decode prog_1_method_27_code 50 = .ok (.aload_n 0, 1) := by decide +kernel
theorem d_CM_layAll_51 : decode prog_1_method_27_code 51 = .ok (.getfield 32, 3) := by decide +kernel
theorem d_CM_layAll_54 : decode prog_1_method_27_code 54 = .ok (.invokevirtual 196, 3) := by decide +kernel
theorem d_CM_layAll_57 : decode prog_1_method_27_code 57 = .ok (.aload_n 0, 1) := by decide +kernel
theorem d_CM_layAll_58 : decode prog_1_method_27_code 58 = .ok (.getfield 32, 3) := by decide +kernel
theorem d_CM_layAll_61 : decode prog_1_method_27_code 61 = .ok (.aload_n 0, 1) := by decide +kernel
theorem d_CM_layAll_62 : decode prog_1_method_27_code 62 = .ok (.getfield 12, 3) := by decide +kernel
theorem d_CM_layAll_65 : decode prog_1_method_27_code 65 = .ok (.invokevirtual 199, 3) := by decide +kernel
theorem d_CM_layAll_68 : decode prog_1_method_27_code 68 = .ok (.invokevirtual 202, 3) := by decide +kernel
theorem d_CM_layAll_71 : decode prog_1_method_27_code 71 = .ok (.return_, 1) := by decide +kernel
abbrev rm_CM_layAll : Room := { frames := 4, cells := 0, slots := 0, locals := 92 }
set_option maxHeartbeats 4000000 in
set_option maxRecDepth 100000 in
theorem c_CM_layAll (l : Launch) (D : va_G) (cs : Nat → ClassId) (ad : Nat → Nat) (zt : Nat) (hi : cm_inj ad) (c I : Wo) (h : cmR c I) (hn : NTL c) : cm_C l D cs ad zt y_CM_layAll ws_CM_layAll rm_CM_layAll [.ref (ad 0)] I (mk_pv (fun J => LdA c J ∧ (∀ a b, (a < 6 ∨ 35 < a) → J a b = I a b))) := by
  refine mk_metv (own := "CanonMaker") (Ts := wA) hi (Nat.le_refl _) (by decide) rfl (fun w h => List.mem_cons_of_mem _ h) rfl (Nat.le_of_ble_eq_true rfl) [(0, .ref (ad 0))] rfl ?_
  intro p_ e_ s_ m_ as_ bl_ me_ co_ Q_ X hret
  obtain ⟨⟨⟨hnn, hN⟩, ⟨hlo, hsc, hbt, hru, hrd, hst⟩, ⟨hV, hV0⟩, ⟨hfc, hF⟩⟩, ⟨i12, iN⟩, ⟨⟨i50, i51, i52, i53, i54⟩, i07, i09⟩, iV, ⟨i010, iF⟩⟩ := id h
  have L2 : ∀ nf : Nat, ∀ (v : Nat) (J : Wo), (v ≤ 4) → (∀ u, u < v → LnF c J u ∧ LnB c J u ∧ LnN c J u) → (∀ a b, (a < 12 ∨ 35 < a) → J a b = I a b) → 4 - v < nf → mk_A p_ l e_ rm_CM_layAll s_ m_ as_ bl_ me_ co_ Q_ 2 D cmcl (cm_sh cs ad) 48 48 ad J [(0, .ref (ad 0)), (1, .int (zi (v : Int)))] 2 [] := by
    intro nf
    induction nf with
    | zero => intro v J hv hF hfr hn; exact absurd hn (Nat.not_lt_zero _)
    | succ nf ih2 =>
      intro v J hv hF hfr hn2
      refine mk_iloadn (nx := 3) X 1 d_CM_layAll_2 rfl rfl ?_
      refine mk_iconst (nx := 4) X d_CM_layAll_3 rfl ?_
      refine mk_icmp_ge (tgt := 39) (nx := 7) X d_CM_layAll_4 (by omega) (by omega) (by decide) rfl (fun c4 => ?_) (fun c4 => ?_)
      · skip
        have hF4 : ScF c J := fun u hu => hF u (by omega)
        refine mk_aloadn (nx := 40) X 0 d_CM_layAll_39 rfl rfl ?_
        refine mk_get (nx := 43) (v := .ref (ad 6)) X 0 (by decide) (sh_CM cs ad _) rfl in_CM 3 (by decide) wd_290 rfl rfl d_CM_layAll_40 rfl ?_
        refine mk_aloadn (nx := 44) X 0 d_CM_layAll_43 rfl rfl ?_
        refine mk_get (nx := 47) (v := .ref (ad 1)) X 0 (by decide) (sh_CM cs ad _) rfl in_CM 0 (by decide) wd_287 rfl rfl d_CM_layAll_44 rfl ?_
        refine mk_callVv (nx := 50) (n := 1) (As := [.ref (ad 1)]) (rest := []) X 6 (by decide) (sh_Score cs ad _) rfl (c_Score_tune l D cs ad zt hi c J h.1.1 h.1.2.1 h.1.2.2.1 (cmN_fr (fun a b x => hfr a b (by omega)) h.2.1) hF4) (g_Score_tune wd_444) rfl ⟨rfl, rfl⟩ (by decide +kernel) ⟨by decide, by decide⟩ rfl (Nat.le_of_ble_eq_true rfl) rfl d_CM_layAll_47 rfl ?_
        intro JT hJT
        have hFT : ScF c JT := ScF_fr (fun a b _ _ x => hJT.2 a b x) hF4
        refine mk_aloadn (nx := 51) X 0 d_CM_layAll_50 rfl rfl ?_
        refine mk_get (nx := 54) (v := .ref (ad 6)) X 0 (by decide) (sh_CM cs ad _) rfl in_CM 3 (by decide) wd_290 rfl rfl d_CM_layAll_51 rfl ?_
        refine mk_callVv (nx := 57) (n := 0) (As := []) (rest := []) X 6 (by decide) (sh_Score cs ad _) rfl (c_Score_gatherMoments l D cs ad zt hi c JT h.1.1 h.1.2.1 h.1.2.2.1 hFT hJT.1 hn) (g_Score_gatherMoments wd_449) rfl ⟨rfl, rfl⟩ (by decide +kernel) ⟨by decide, by decide⟩ rfl (Nat.le_of_ble_eq_true rfl) rfl d_CM_layAll_54 rfl ?_
        intro JG hJG
        have hFG : ScF c JG := ScF_fr (fun a b x y _ => hJG.2.2 a b (by omega) (by omega)) hFT
        have hTG : ScT c JG := ScT_fr (fun a b x y => hJG.2.2 a b (by omega) (by omega)) hJT.1
        have hNG : cmN c JG := cmN_fr (fun a b x => (hJG.2.2 a b (by omega) (by omega)).trans ((hJT.2 a b (by omega)).trans (hfr a b (by omega)))) h.2.1
        refine mk_aloadn (nx := 58) X 0 d_CM_layAll_57 rfl rfl ?_
        refine mk_get (nx := 61) (v := .ref (ad 6)) X 0 (by decide) (sh_CM cs ad _) rfl in_CM 3 (by decide) wd_290 rfl rfl d_CM_layAll_58 rfl ?_
        refine mk_aloadn (nx := 62) X 0 d_CM_layAll_61 rfl rfl ?_
        refine mk_get (nx := 65) (v := .ref (ad 1)) X 0 (by decide) (sh_CM cs ad _) rfl in_CM 0 (by decide) wd_287 rfl rfl d_CM_layAll_62 rfl ?_
        refine mk_callVi (nx := 68) (n := 0) (As := []) (rest := [.ref (ad 6)]) X 1 (by decide) (sh_Subject cs ad _) rfl (c_Subject_firstSounding l D cs ad zt hi c JG h.1.1 hNG) (g_Subject_firstSounding wd_461) rfl ⟨rfl, rfl⟩ (by decide +kernel) ⟨by decide, by decide⟩ rfl (Nat.le_of_ble_eq_true rfl) rfl d_CM_layAll_65 rfl ?_
        intro r65 J1 hJ1
        obtain ⟨rfl, rfl⟩ := hJ1
        refine mk_callVv (nx := 71) (n := 1) (As := [.int (zi (fsr c))]) (rest := []) X 6 (by decide) (sh_Score cs ad _) rfl (c_Score_placeVoices l D cs ad zt hi c JG h.1.1 h.1.2.1 h.1.2.2.1 hFG hTG hn hJG.1 hJG.2.1) (g_Score_placeVoices wd_462) rfl ⟨rfl, rfl⟩ (by decide +kernel) ⟨by decide, by decide⟩ rfl (Nat.le_of_ble_eq_true rfl) rfl d_CM_layAll_68 rfl ?_
        intro JP hJP
        exact hret _ _ _ d_CM_layAll_71 (by have e6 : nJ JP = nJ JG := (by unfold nJ; rw [hJP.2 6 5 (by omega) (by omega) (by omega)]); exact ⟨⟨ScF_fr (fun a b x y _ => hJP.2 a b (by omega) (by omega) (by omega)) hFG, ScT_fr (fun a b x y => hJP.2 a b (by omega) (by omega) (by omega)) hTG, (by rw [e6]; exact MomA_fr hJG.1 (fun b => hJP.2 8 b (by omega) (by omega) (by omega))), (by rw [hJP.2 6 5 (by omega) (by omega) (by omega)]; exact hJG.2.1), hJP.1⟩, fun a b x => (hJP.2 a b (by omega) (by omega) (by omega)).trans ((hJG.2.2 a b (by omega) (by omega)).trans ((hJT.2 a b (by omega)).trans (hfr a b (by omega))))⟩)
      · skip
        refine mk_aloadn (nx := 8) X 0 d_CM_layAll_7 rfl rfl ?_
        refine mk_get (nx := 11) (v := .ref (ad 6)) X 0 (by decide) (sh_CM cs ad _) rfl in_CM 3 (by decide) wd_290 rfl rfl d_CM_layAll_8 rfl ?_
        refine mk_get (nx := 14) (v := .ref (ad 7)) X 6 (by decide) (sh_Score cs ad _) rfl in_Score 0 (by decide) wd_179 rfl rfl d_CM_layAll_11 rfl ?_
        refine mk_iloadn (nx := 15) X 1 d_CM_layAll_14 rfl rfl ?_
        refine mk_aald (nx := 16) (j := v) X 7 3 (by decide) (sh_lines cs ad _) rfl (by omega) (by omega) (by decide) rfl rfl d_CM_layAll_15 rfl ?_
        refine mk_aloadn (nx := 17) X 0 d_CM_layAll_16 rfl rfl ?_
        refine mk_get (nx := 20) (v := .ref (ad 1)) X 0 (by decide) (sh_CM cs ad _) rfl in_CM 0 (by decide) wd_287 rfl rfl d_CM_layAll_17 rfl ?_
        refine mk_aloadn (nx := 21) X 0 d_CM_layAll_20 rfl rfl ?_
        refine mk_get (nx := 24) (v := .ref (ad 4)) X 0 (by decide) (sh_CM cs ad _) rfl in_CM 1 (by decide) wd_288 rfl rfl d_CM_layAll_21 rfl ?_
        refine mk_iloadn (nx := 25) X 1 d_CM_layAll_24 rfl rfl ?_
        refine mk_aald (nx := 26) (j := v) X 4 2 (by decide) (sh_voices cs ad _) rfl (by omega) (by omega) (by decide) rfl rfl d_CM_layAll_25 rfl ?_
        refine mk_aloadn (nx := 27) X 0 d_CM_layAll_26 rfl rfl ?_
        refine mk_get (nx := 30) (v := .int (zi (J 0 7))) X 0 (by decide) (sh_CM cs ad _) rfl in_CM 7 (by decide) wd_294 rfl rfl d_CM_layAll_27 rfl ?_
        rw [show J 0 7 = c 0 6 from ((hfr 0 7 (by omega)).trans i07)]
        refine mk_callVv (nx := 33) (n := 3) (As := [.ref (ad 1), .ref (ad (44 + v)), .int (zi (c 0 6))]) (rest := []) X (12 + 6 * v) (by omega) (sh_Line cs ad (show v < 4 by omega) _) rfl (c_Line_lay l D cs ad zt hi c J h.1.1 h.1.2.1 h.1.2.2.1 (cmN_fr (fun a b x => hfr a b (by omega)) h.2.1) v (by omega) (by rw [hfr _ 0 (by omega), hfr _ 1 (by omega), hfr _ 2 (by omega), hfr _ 3 (by omega), hfr _ 4 (by omega)]; exact iV v (by omega))) (g_Line_lay wd_398) rfl ⟨rfl, rfl⟩ (by decide +kernel) ⟨by decide, by decide⟩ rfl (Nat.le_of_ble_eq_true rfl) rfl d_CM_layAll_30 rfl ?_
        intro JA hJA
        refine mk_iinc (nx := 36) X 1 [(1, .int (zi ((v : Int) + 1))), (0, .ref (ad 0))] d_CM_layAll_33 rfl (by decide) rfl rfl ?_
        refine mk_goto (tgt := 2) X d_CM_layAll_36 (by decide) ?_
        refine mk_lv [1, 0] rfl ?_
        exact ih2 (v + 1) JA (by omega) (by first | exact lt_0 | exact lt_s (fun u hu => ⟨LnF_fr (fun b => hJA.2.2.2 _ b (by omega)) (hF u hu).1, LnB_fr (fun b => ⟨hJA.2.2.2 _ b (by omega), hJA.2.2.2 _ b (by omega)⟩) (hF u hu).2.1, LnN_fr (fun b => ⟨hJA.2.2.2 _ b (by omega), hJA.2.2.2 _ b (by omega)⟩) (hF u hu).2.2⟩) ⟨hJA.1, hJA.2.1, hJA.2.2.1⟩) (by first | exact fun _ _ _ => rfl | exact fun a b x => (hJA.2.2.2 a b (by omega)).trans (hfr a b x)) (by omega)
  refine mk_iconst (nx := 1) X d_CM_layAll_0 rfl ?_
  refine mk_istoren (nx := 2) X [(1, .int (zi 0)), (0, .ref (ad 0))] d_CM_layAll_1 (by decide) rfl rfl ?_
  refine mk_lv [1, 0] rfl ?_
  exact L2 _ 0 I (by omega) (by first | exact lt_0 | exact lt_s (fun u hu => ⟨LnF_fr (fun b => hJA.2.2.2 _ b (by omega)) (hF u hu).1, LnB_fr (fun b => ⟨hJA.2.2.2 _ b (by omega), hJA.2.2.2 _ b (by omega)⟩) (hF u hu).2.1, LnN_fr (fun b => ⟨hJA.2.2.2 _ b (by omega), hJA.2.2.2 _ b (by omega)⟩) (hF u hu).2.2⟩) ⟨hJA.1, hJA.2.1, hJA.2.2.1⟩) (by first | exact fun _ _ _ => rfl | exact fun a b x => (hJA.2.2.2 a b (by omega)).trans (hfr a b x)) (Nat.lt_succ_self _)

-- CanonMaker.faults()I
theorem d_CM_faults_0 : decode prog_1_method_16_code 0 = .ok (.aload_n 0, 1) := by decide +kernel
theorem d_CM_faults_1 : decode prog_1_method_16_code 1 = .ok (.invokevirtual 133, 3) := by decide +kernel
theorem d_CM_faults_4 : decode prog_1_method_16_code 4 = .ok (.ifCond .eq 6, 3) := by decide +kernel
theorem d_CM_faults_7 : decode prog_1_method_16_code 7 = .ok (.bipush (-3), 2) := by decide +kernel
theorem d_CM_faults_9 : decode prog_1_method_16_code 9 = .ok (.ireturn, 1) := by decide +kernel
theorem d_CM_faults_10 : decode prog_1_method_16_code 10 = .ok (.aload_n 0, 1) := by decide +kernel
theorem d_CM_faults_11 : decode prog_1_method_16_code 11 = .ok (.invokevirtual 137, 3) := by decide +kernel
theorem d_CM_faults_14 : decode prog_1_method_16_code 14 = .ok (.aload_n 0, 1) := by decide +kernel
theorem d_CM_faults_15 : decode prog_1_method_16_code 15 = .ok (.getfield 41, 3) := by decide +kernel
theorem d_CM_faults_18 : decode prog_1_method_16_code 18 = .ok (.ldc 140, 2) := by decide +kernel
theorem d_CM_faults_20 : decode prog_1_method_16_code 20 = .ok (.iconst (-1), 1) := by decide +kernel
theorem d_CM_faults_21 : decode prog_1_method_16_code 21 = .ok (.invokevirtual 141, 3) := by decide +kernel
theorem d_CM_faults_24 : decode prog_1_method_16_code 24 = .ok (.ireturn, 1) := by decide +kernel
abbrev rm_CM_faults : Room := { frames := 6, cells := 0, slots := 0, locals := 146 }
set_option maxHeartbeats 4000000 in
set_option maxRecDepth 100000 in
theorem c_CM_faults (l : Launch) (D : va_G) (cs : Nat → ClassId) (ad : Nat → Nat) (zt : Nat) (hi : cm_inj ad) (c I : Wo) (h : cmR c I)  : cm_C l D cs ad zt y_CM_faults ws_CM_faults rm_CM_faults [.ref (ad 0)] I (mk_pi (fun r J => fltR c r ∧ cmR c J)) := by
  refine mk_meti (own := "CanonMaker") (Ts := wA) hi (Nat.le_refl _) (by decide) rfl (fun w h => List.mem_cons_of_mem _ h) rfl (Nat.le_of_ble_eq_true rfl) [(0, .ref (ad 0))] rfl ?_
  intro p_ e_ s_ m_ as_ bl_ me_ co_ Q_ X hret
  obtain ⟨⟨⟨hn, hN⟩, ⟨hlo, hsc, hbt, hru, hrd, hst⟩, ⟨hV, hV0⟩, ⟨hfc, hF⟩⟩, ⟨i12, iN⟩, ⟨⟨i50, i51, i52, i53, i54⟩, i07, i09⟩, iV, ⟨i010, iF⟩⟩ := id h
  refine mk_aloadn (nx := 1) X 0 d_CM_faults_0 rfl rfl ?_
  refine mk_callVi (nx := 4) (n := 0) (As := []) (rest := []) X 0 (by decide) (sh_CM cs ad _) rfl (c_CM_isAnyTooLong l D cs ad zt hi c I h) (g_CM_isAnyTooLong wd_432) rfl ⟨rfl, rfl⟩ (by decide +kernel) ⟨by decide, by decide⟩ rfl (Nat.le_of_ble_eq_true rfl) rfl d_CM_faults_1 rfl ?_
  intro r1 J1 hJ1
  obtain ⟨rfl, hr1⟩ := hJ1
  have hr1b : r1 = 1 ∨ r1 = 0 := hr1.elim (fun e => Or.inl e.1) (fun e => Or.inr e.1)
  refine mk_if_eq (tgt := 10) (nx := 7) X d_CM_faults_4 (by omega) (by decide) rfl (fun c4 => ?_) (fun c4 => ?_)
  · skip
    have hnt : NTL c := (hr1.resolve_left (fun z => absurd z.1 (by omega))).2
    have hlen := FL_len h.1.1 h.1.2.1 h.1.2.2.1
    refine mk_aloadn (nx := 11) X 0 d_CM_faults_10 rfl rfl ?_
    refine mk_callVv (nx := 14) (n := 0) (As := []) (rest := []) X 0 (by decide) (sh_CM cs ad _) rfl (c_CM_layAll l D cs ad zt hi c I h hnt) (g_CM_layAll wd_440) rfl ⟨rfl, rfl⟩ (by decide +kernel) ⟨by decide, by decide⟩ rfl (Nat.le_of_ble_eq_true rfl) rfl d_CM_faults_11 rfl ?_
    intro JA hJA
    have hRA : cmR c JA := cmR_fr (fun a b x y => hJA.2 a b (by omega)) h
    refine mk_aloadn (nx := 15) X 0 d_CM_faults_14 rfl rfl ?_
    refine mk_get (nx := 18) (v := .ref (ad 36)) X 0 (by decide) (sh_CM cs ad _) rfl in_CM 4 (by decide) wd_291 rfl rfl d_CM_faults_15 rfl ?_
    refine mk_ldc (nx := 20) (n := 1000000) X d_CM_faults_18 wd_470 rfl rfl ?_
    refine mk_iconst (nx := 21) X d_CM_faults_20 rfl ?_
    refine mk_callVi (nx := 24) (n := 2) (As := [.int (zi 1000000), .int (zi (-1))]) (rest := []) X 36 (by decide) (sh_Judge cs ad _) rfl (c_Judge_countFaults l D cs ad zt hi c JA h.1.1 h.1.2.1 h.1.2.2.1 hJA.1.1 hJA.1.2.1 hnt hJA.1.2.2.1 hJA.1.2.2.2.1 hJA.1.2.2.2.2 (cmS_bd hRA.2.2.1) 1000000 (by omega) (-1)) (g_Judge_countFaults wd_471) rfl ⟨rfl, rfl⟩ (by decide +kernel) ⟨by decide, by decide⟩ rfl (Nat.le_of_ble_eq_true rfl) rfl d_CM_faults_21 rfl ?_
    intro r21 JC hJC
    have hRC : cmR c JC := cmR_fr (fun a b x y => hJC.1 a b (by omega)) hRA
    have hFF := FN_FL h.1.1 h.1.2.1 h.1.2.2.1 hJA.1
    have hcf := hJC.2.1
    rw [hFF] at hcf
    exact hret _ _ _ _ d_CM_faults_24 (by exact ⟨Or.inr ⟨hnt, by rcases hcf with z | ⟨z, x, hx, _⟩; exact z.2; obtain ⟨q, _⟩ := List.getElem?_eq_some_iff.mp hx; omega⟩, hRC⟩)
  · skip
    refine mk_bipush (nx := 9) X d_CM_faults_7 (by decide) rfl ?_
    exact hret _ _ _ _ d_CM_faults_9 (by exact ⟨Or.inl ⟨(hr1.resolve_right (fun z => absurd z.1 (by omega))).2, rfl⟩, h⟩)

-- CanonMaker.fault(II)I
theorem d_CM_fault_0 : decode prog_1_method_17_code 0 = .ok (.aload_n 0, 1) := by decide +kernel
theorem d_CM_fault_1 : decode prog_1_method_17_code 1 = .ok (.invokevirtual 133, 3) := by decide +kernel
theorem d_CM_fault_4 : decode prog_1_method_17_code 4 = .ok (.ifCond .eq 6, 3) := by decide +kernel
theorem d_CM_fault_7 : decode prog_1_method_17_code 7 = .ok (.bipush (-3), 2) := by decide +kernel
theorem d_CM_fault_9 : decode prog_1_method_17_code 9 = .ok (.ireturn, 1) := by decide +kernel
theorem d_CM_fault_10 : decode prog_1_method_17_code 10 = .ok (.iload_n 1, 1) := by decide +kernel
theorem d_CM_fault_11 : decode prog_1_method_17_code 11 = .ok (.ifCond .ge 5, 3) := by decide +kernel
theorem d_CM_fault_14 : decode prog_1_method_17_code 14 = .ok (.iconst (-1), 1) := by decide +kernel
theorem d_CM_fault_15 : decode prog_1_method_17_code 15 = .ok (.ireturn, 1) := by decide +kernel
theorem d_CM_fault_16 : decode prog_1_method_17_code 16 = .ok (.aload_n 0, 1) := by decide +kernel
theorem d_CM_fault_17 : decode prog_1_method_17_code 17 = .ok (.invokevirtual 137, 3) := by decide +kernel
theorem d_CM_fault_20 : decode prog_1_method_17_code 20 = .ok (.aload_n 0, 1) := by decide +kernel
theorem d_CM_fault_21 : decode prog_1_method_17_code 21 = .ok (.getfield 41, 3) := by decide +kernel
theorem d_CM_fault_24 : decode prog_1_method_17_code 24 = .ok (.iload_n 1, 1) := by decide +kernel
theorem d_CM_fault_25 : decode prog_1_method_17_code 25 = .ok (.iconst (-1), 1) := by decide +kernel
theorem d_CM_fault_26 : decode prog_1_method_17_code 26 = .ok (.invokevirtual 141, 3) := by decide +kernel
theorem d_CM_fault_29 : decode prog_1_method_17_code 29 = .ok (.iload_n 1, 1) := by decide +kernel
theorem d_CM_fault_30 : decode prog_1_method_17_code 30 = .ok (.if_icmp .gt 5, 3) := by decide +kernel
theorem d_CM_fault_33 : decode prog_1_method_17_code 33 = .ok (.iconst (-1), 1) := by decide +kernel
theorem d_CM_fault_34 : decode prog_1_method_17_code 34 = .ok (.ireturn, 1) := by decide +kernel
theorem d_CM_fault_35 : decode prog_1_method_17_code 35 = .ok (.iload_n 2, 1) := by decide +kernel
theorem d_CM_fault_36 : decode prog_1_method_17_code 36 = .ok (.tableswitch 64 0 3 #[32, 40, 48, 56], 32) := by decide +kernel
theorem d_CM_fault_68 : decode prog_1_method_17_code 68 = .ok (.aload_n 0, 1) := by decide +kernel
theorem d_CM_fault_69 : decode prog_1_method_17_code 69 = .ok (.getfield 41, 3) := by decide +kernel
theorem d_CM_fault_72 : decode prog_1_method_17_code 72 = .ok (.getfield 145, 3) := by decide +kernel
theorem d_CM_fault_75 : decode prog_1_method_17_code 75 = .ok (.ireturn, 1) := by decide +kernel
theorem d_CM_fault_76 : decode prog_1_method_17_code 76 = .ok (.aload_n 0, 1) := by decide +kernel
theorem d_CM_fault_77 : decode prog_1_method_17_code 77 = .ok (.getfield 41, 3) := by decide +kernel
theorem d_CM_fault_80 : decode prog_1_method_17_code 80 = .ok (.getfield 148, 3) := by decide +kernel
theorem d_CM_fault_83 : decode prog_1_method_17_code 83 = .ok (.ireturn, 1) := by decide +kernel
theorem d_CM_fault_84 : decode prog_1_method_17_code 84 = .ok (.aload_n 0, 1) := by decide +kernel
theorem d_CM_fault_85 : decode prog_1_method_17_code 85 = .ok (.getfield 41, 3) := by decide +kernel
theorem d_CM_fault_88 : decode prog_1_method_17_code 88 = .ok (.getfield 151, 3) := by decide +kernel
theorem d_CM_fault_91 : decode prog_1_method_17_code 91 = .ok (.ireturn, 1) := by decide +kernel
theorem d_CM_fault_92 : decode prog_1_method_17_code 92 = .ok (.aload_n 0, 1) := by decide +kernel
theorem d_CM_fault_93 : decode prog_1_method_17_code 93 = .ok (.getfield 41, 3) := by decide +kernel
theorem d_CM_fault_96 : decode prog_1_method_17_code 96 = .ok (.getfield 154, 3) := by decide +kernel
theorem d_CM_fault_99 : decode prog_1_method_17_code 99 = .ok (.ireturn, 1) := by decide +kernel
theorem d_CM_fault_100 : decode prog_1_method_17_code 100 = .ok (.bipush (-2), 2) := by decide +kernel
theorem d_CM_fault_102 : decode prog_1_method_17_code 102 = .ok (.ireturn, 1) := by decide +kernel
abbrev rm_CM_fault : Room := { frames := 6, cells := 0, slots := 0, locals := 146 }
set_option maxHeartbeats 4000000 in
set_option maxRecDepth 100000 in
theorem c_CM_fault (l : Launch) (D : va_G) (cs : Nat → ClassId) (ad : Nat → Nat) (zt : Nat) (hi : cm_inj ad) (c I : Wo) (h : cmR c I) (k : Int) (h_k : -2147483648 ≤ k ∧ k < 2147483648) (w : Int) (h_w : -2147483648 ≤ w ∧ w < 2147483648) : cm_C l D cs ad zt y_CM_fault ws_CM_fault rm_CM_fault [.ref (ad 0), .int (zi k), .int (zi w)] I (mk_pi (fun r J => ftR c k w r ∧ cmR c J)) := by
  refine mk_meti (own := "CanonMaker") (Ts := wA) hi (Nat.le_refl _) (by decide) rfl (fun w h => List.mem_cons_of_mem _ h) rfl (Nat.le_of_ble_eq_true rfl) [(0, .ref (ad 0)), (1, .int (zi k)), (2, .int (zi w))] rfl ?_
  intro p_ e_ s_ m_ as_ bl_ me_ co_ Q_ X hret
  obtain ⟨⟨⟨hn, hN⟩, ⟨hlo, hsc, hbt, hru, hrd, hst⟩, ⟨hV, hV0⟩, ⟨hfc, hF⟩⟩, ⟨i12, iN⟩, ⟨⟨i50, i51, i52, i53, i54⟩, i07, i09⟩, iV, ⟨i010, iF⟩⟩ := id h
  refine mk_aloadn (nx := 1) X 0 d_CM_fault_0 rfl rfl ?_
  refine mk_callVi (nx := 4) (n := 0) (As := []) (rest := []) X 0 (by decide) (sh_CM cs ad _) rfl (c_CM_isAnyTooLong l D cs ad zt hi c I h) (g_CM_isAnyTooLong wd_432) rfl ⟨rfl, rfl⟩ (by decide +kernel) ⟨by decide, by decide⟩ rfl (Nat.le_of_ble_eq_true rfl) rfl d_CM_fault_1 rfl ?_
  intro r1 J1 hJ1
  obtain ⟨rfl, hr1⟩ := hJ1
  have hr1b : r1 = 1 ∨ r1 = 0 := hr1.elim (fun e => Or.inl e.1) (fun e => Or.inr e.1)
  refine mk_if_eq (tgt := 10) (nx := 7) X d_CM_fault_4 (by omega) (by decide) rfl (fun c4 => ?_) (fun c4 => ?_)
  · skip
    have hnt : NTL c := (hr1.resolve_left (fun z => absurd z.1 (by omega))).2
    have hlen := FL_len h.1.1 h.1.2.1 h.1.2.2.1
    refine mk_iloadn (nx := 11) X 1 d_CM_fault_10 rfl rfl ?_
    refine mk_if_ge (tgt := 16) (nx := 14) X d_CM_fault_11 (by omega) (by decide) rfl (fun c11 => ?_) (fun c11 => ?_)
    · skip
      refine mk_aloadn (nx := 17) X 0 d_CM_fault_16 rfl rfl ?_
      refine mk_callVv (nx := 20) (n := 0) (As := []) (rest := []) X 0 (by decide) (sh_CM cs ad _) rfl (c_CM_layAll l D cs ad zt hi c I h hnt) (g_CM_layAll wd_440) rfl ⟨rfl, rfl⟩ (by decide +kernel) ⟨by decide, by decide⟩ rfl (Nat.le_of_ble_eq_true rfl) rfl d_CM_fault_17 rfl ?_
      intro JA hJA
      have hRA : cmR c JA := cmR_fr (fun a b x y => hJA.2 a b (by omega)) h
      refine mk_aloadn (nx := 21) X 0 d_CM_fault_20 rfl rfl ?_
      refine mk_get (nx := 24) (v := .ref (ad 36)) X 0 (by decide) (sh_CM cs ad _) rfl in_CM 4 (by decide) wd_291 rfl rfl d_CM_fault_21 rfl ?_
      refine mk_iloadn (nx := 25) X 1 d_CM_fault_24 rfl rfl ?_
      refine mk_iconst (nx := 26) X d_CM_fault_25 rfl ?_
      refine mk_callVi (nx := 29) (n := 2) (As := [.int (zi k), .int (zi (-1))]) (rest := []) X 36 (by decide) (sh_Judge cs ad _) rfl (c_Judge_countFaults l D cs ad zt hi c JA h.1.1 h.1.2.1 h.1.2.2.1 hJA.1.1 hJA.1.2.1 hnt hJA.1.2.2.1 hJA.1.2.2.2.1 hJA.1.2.2.2.2 (cmS_bd hRA.2.2.1) k (by omega) (-1)) (g_Judge_countFaults wd_471) rfl ⟨rfl, rfl⟩ (by decide +kernel) ⟨by decide, by decide⟩ rfl (Nat.le_of_ble_eq_true rfl) rfl d_CM_fault_26 rfl ?_
      intro r26 JC hJC
      have hRC : cmR c JC := cmR_fr (fun a b x y => hJC.1 a b (by omega)) hRA
      have hFF := FN_FL h.1.1 h.1.2.1 h.1.2.2.1 hJA.1
      have hcf := hJC.2.1
      rw [hFF] at hcf
      have hrb := hJC.2.2
      refine mk_iloadn (nx := 30) X 1 d_CM_fault_29 rfl rfl ?_
      refine mk_icmp_gt (tgt := 35) (nx := 33) X d_CM_fault_30 (by omega) (by omega) (by decide) rfl (fun c30 => ?_) (fun c30 => ?_)
      · skip
        have hnt2 := hnt
        obtain ⟨x, hx, x0, x1, x2, x3⟩ := (hcf.resolve_left (fun z => absurd z.1 (by omega))).2
        refine mk_iloadn (nx := 36) X 2 d_CM_fault_35 rfl rfl ?_
        by_cases c36_0 : w = 0
        · refine mk_tableIn (tgt := 68) (off := 32) X d_CM_fault_36 (by omega) (by omega) (by omega) (by rw [c36_0]; rfl) (by decide) ?_
          refine mk_aloadn (nx := 69) X 0 d_CM_fault_68 rfl rfl ?_
          refine mk_get (nx := 72) (v := .ref (ad 36)) X 0 (by decide) (sh_CM cs ad _) rfl in_CM 4 (by decide) wd_291 rfl rfl d_CM_fault_69 rfl ?_
          refine mk_get (nx := 75) (v := .int (zi (JC 36 11))) X 36 (by decide) (sh_Judge cs ad _) rfl in_Judge 11 (by decide) wd_221 rfl rfl d_CM_fault_72 rfl ?_
          exact hret _ _ _ _ d_CM_fault_75 (by exact ⟨Or.inr (Or.inr ⟨hnt, by omega, x, hx, by unfold ftw; rw [if_pos (by omega)]; exact x0⟩), hRC⟩)
        · skip
          by_cases c36_1 : w = 1
          · refine mk_tableIn (tgt := 76) (off := 40) X d_CM_fault_36 (by omega) (by omega) (by omega) (by rw [c36_1]; rfl) (by decide) ?_
            refine mk_aloadn (nx := 77) X 0 d_CM_fault_76 rfl rfl ?_
            refine mk_get (nx := 80) (v := .ref (ad 36)) X 0 (by decide) (sh_CM cs ad _) rfl in_CM 4 (by decide) wd_291 rfl rfl d_CM_fault_77 rfl ?_
            refine mk_get (nx := 83) (v := .int (zi (JC 36 12))) X 36 (by decide) (sh_Judge cs ad _) rfl in_Judge 12 (by decide) wd_223 rfl rfl d_CM_fault_80 rfl ?_
            exact hret _ _ _ _ d_CM_fault_83 (by exact ⟨Or.inr (Or.inr ⟨hnt, by omega, x, hx, by unfold ftw; rw [if_neg (by omega), if_pos (by omega)]; exact x1⟩), hRC⟩)
          · skip
            by_cases c36_2 : w = 2
            · refine mk_tableIn (tgt := 84) (off := 48) X d_CM_fault_36 (by omega) (by omega) (by omega) (by rw [c36_2]; rfl) (by decide) ?_
              refine mk_aloadn (nx := 85) X 0 d_CM_fault_84 rfl rfl ?_
              refine mk_get (nx := 88) (v := .ref (ad 36)) X 0 (by decide) (sh_CM cs ad _) rfl in_CM 4 (by decide) wd_291 rfl rfl d_CM_fault_85 rfl ?_
              refine mk_get (nx := 91) (v := .int (zi (JC 36 13))) X 36 (by decide) (sh_Judge cs ad _) rfl in_Judge 13 (by decide) wd_225 rfl rfl d_CM_fault_88 rfl ?_
              exact hret _ _ _ _ d_CM_fault_91 (by exact ⟨Or.inr (Or.inr ⟨hnt, by omega, x, hx, by unfold ftw; rw [if_neg (by omega), if_neg (by omega), if_pos (by omega)]; exact x2⟩), hRC⟩)
            · skip
              by_cases c36_3 : w = 3
              · refine mk_tableIn (tgt := 92) (off := 56) X d_CM_fault_36 (by omega) (by omega) (by omega) (by rw [c36_3]; rfl) (by decide) ?_
                refine mk_aloadn (nx := 93) X 0 d_CM_fault_92 rfl rfl ?_
                refine mk_get (nx := 96) (v := .ref (ad 36)) X 0 (by decide) (sh_CM cs ad _) rfl in_CM 4 (by decide) wd_291 rfl rfl d_CM_fault_93 rfl ?_
                refine mk_get (nx := 99) (v := .int (zi (JC 36 14))) X 36 (by decide) (sh_Judge cs ad _) rfl in_Judge 14 (by decide) wd_227 rfl rfl d_CM_fault_96 rfl ?_
                exact hret _ _ _ _ d_CM_fault_99 (by exact ⟨Or.inr (Or.inr ⟨hnt, by omega, x, hx, by unfold ftw; rw [if_neg (by omega), if_neg (by omega), if_neg (by omega), if_pos (by omega)]; exact x3⟩), hRC⟩)
              · skip
                refine mk_tableOut (tgt := 100) X d_CM_fault_36 (by omega) (by omega) (by decide) ?_
                refine mk_bipush (nx := 102) X d_CM_fault_100 (by decide) rfl ?_
                exact hret _ _ _ _ d_CM_fault_102 (by exact ⟨Or.inr (Or.inr ⟨hnt, by omega, x, hx, by unfold ftw; rw [if_neg (by omega), if_neg (by omega), if_neg (by omega), if_neg (by omega)]⟩), hRC⟩)
      · skip
        refine mk_iconst (nx := 34) X d_CM_fault_33 rfl ?_
        exact hret _ _ _ _ d_CM_fault_34 (by exact ⟨Or.inr (Or.inl ⟨hnt, Or.inr (by have := (hcf.resolve_right (fun z => absurd z.1 (by omega))); omega), rfl⟩), hRC⟩)
    · skip
      refine mk_iconst (nx := 15) X d_CM_fault_14 rfl ?_
      exact hret _ _ _ _ d_CM_fault_15 (by exact ⟨Or.inr (Or.inl ⟨hnt, Or.inl (by omega), rfl⟩), h⟩)
  · skip
    refine mk_bipush (nx := 9) X d_CM_fault_7 (by decide) rfl ?_
    exact hret _ _ _ _ d_CM_fault_9 (by exact ⟨Or.inl ⟨(hr1.resolve_right (fun z => absurd z.1 (by omega))).2, rfl⟩, h⟩)
