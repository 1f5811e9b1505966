-- CanonMaker$Judge.isKnown(I)Z
theorem d_Judge_isKnown_0 : decode prog_3_method_18_code 0 = .ok (.iload_n 0, 1) := by decide +kernel
theorem d_Judge_isKnown_1 : decode prog_3_method_18_code 1 = .ok (.sipush 1000, 3) := by decide +kernel
theorem d_Judge_isKnown_4 : decode prog_3_method_18_code 4 = .ok (.if_icmp .eq 14, 3) := by decide +kernel
theorem d_Judge_isKnown_7 : decode prog_3_method_18_code 7 = .ok (.iload_n 0, 1) := by decide +kernel
theorem d_Judge_isKnown_8 : decode prog_3_method_18_code 8 = .ok (.sipush 1001, 3) := by decide +kernel
theorem d_Judge_isKnown_11 : decode prog_3_method_18_code 11 = .ok (.if_icmp .eq 7, 3) := by decide +kernel
theorem d_Judge_isKnown_14 : decode prog_3_method_18_code 14 = .ok (.iconst 1, 1) := by decide +kernel
theorem d_Judge_isKnown_15 : decode prog_3_method_18_code 15 = .ok (.goto 4, 3) := by decide +kernel
theorem d_Judge_isKnown_18 : decode prog_3_method_18_code 18 = .ok (.iconst 0, 1) := by decide +kernel
theorem d_Judge_isKnown_19 : decode prog_3_method_18_code 19 = .ok (.ireturn, 1) := by decide +kernel
abbrev rm_Judge_isKnown : Room := { frames := 0, cells := 0, slots := 0, locals := 0 }
set_option maxHeartbeats 4000000 in
set_option maxRecDepth 100000 in
theorem c_Judge_isKnown (l : Launch) (D : va_G) (cs : Nat → ClassId) (ad : Nat → Nat) (zt : Nat) (hi : cm_inj ad) (I : Wo) (x : Int) (hx : -100000 ≤ x ∧ x ≤ 100000) : cm_C l D cs ad zt y_Judge_isKnown ws_Judge_isKnown rm_Judge_isKnown [.int (zi x)] I (mk_pi (fun r J => I = J ∧ ((r = 1 ∧ ¬ x = 1000 ∧ ¬ x = 1001) ∨ (r = 0 ∧ (x = 1000 ∨ x = 1001))))) := by
  refine mk_metz (own := "CanonMaker$Judge") (Ts := wA) hi (Nat.le_refl _) (by decide) rfl (fun w h => List.mem_cons_of_mem _ h) rfl (Nat.le_of_ble_eq_true rfl) [(0, .int (zi x))] rfl ?_
  intro p_ e_ s_ m_ as_ bl_ me_ co_ Q_ X hret
  refine mk_iloadn (nx := 1) X 0 d_Judge_isKnown_0 rfl rfl ?_
  refine mk_sipush (nx := 4) X d_Judge_isKnown_1 (by decide) rfl ?_
  refine mk_icmp_eq (tgt := 18) (nx := 7) X d_Judge_isKnown_4 (by omega) (by omega) (by decide) rfl (fun c4 => ?_) (fun c4 => ?_)
  · skip
    refine mk_iconst (nx := 19) X d_Judge_isKnown_18 rfl ?_
    exact hret _ _ _ _ d_Judge_isKnown_19 (by omega) (by exact ⟨rfl, by omega⟩)
  · skip
    refine mk_iloadn (nx := 8) X 0 d_Judge_isKnown_7 rfl rfl ?_
    refine mk_sipush (nx := 11) X d_Judge_isKnown_8 (by decide) rfl ?_
    refine mk_icmp_eq (tgt := 18) (nx := 14) X d_Judge_isKnown_11 (by omega) (by omega) (by decide) rfl (fun c11 => ?_) (fun c11 => ?_)
    · skip
      refine mk_iconst (nx := 19) X d_Judge_isKnown_18 rfl ?_
      exact hret _ _ _ _ d_Judge_isKnown_19 (by omega) (by exact ⟨rfl, by omega⟩)
    · skip
      refine mk_iconst (nx := 15) X d_Judge_isKnown_14 rfl ?_
      refine mk_goto (tgt := 19) X d_Judge_isKnown_15 (by decide) ?_
      exact hret _ _ _ _ d_Judge_isKnown_19 (by omega) (by exact ⟨rfl, by omega⟩)

-- CanonMaker$Judge.isStepUp(I)Z
theorem d_Judge_isStepUp_0 : decode prog_3_method_14_code 0 = .ok (.iload_n 0, 1) := by decide +kernel
theorem d_Judge_isStepUp_1 : decode prog_3_method_14_code 1 = .ok (.iconst 1, 1) := by decide +kernel
theorem d_Judge_isStepUp_2 : decode prog_3_method_14_code 2 = .ok (.if_icmp .lt 12, 3) := by decide +kernel
theorem d_Judge_isStepUp_5 : decode prog_3_method_14_code 5 = .ok (.iload_n 0, 1) := by decide +kernel
theorem d_Judge_isStepUp_6 : decode prog_3_method_14_code 6 = .ok (.iconst 2, 1) := by decide +kernel
theorem d_Judge_isStepUp_7 : decode prog_3_method_14_code 7 = .ok (.if_icmp .gt 7, 3) := by decide +kernel
theorem d_Judge_isStepUp_10 : decode prog_3_method_14_code 10 = .ok (.iconst 1, 1) := by decide +kernel
theorem d_Judge_isStepUp_11 : decode prog_3_method_14_code 11 = .ok (.goto 4, 3) := by decide +kernel
theorem d_Judge_isStepUp_14 : decode prog_3_method_14_code 14 = .ok (.iconst 0, 1) := by decide +kernel
theorem d_Judge_isStepUp_15 : decode prog_3_method_14_code 15 = .ok (.ireturn, 1) := by decide +kernel
abbrev rm_Judge_isStepUp : Room := { frames := 0, cells := 0, slots := 0, locals := 0 }
set_option maxHeartbeats 4000000 in
set_option maxRecDepth 100000 in
theorem c_Judge_isStepUp (l : Launch) (D : va_G) (cs : Nat → ClassId) (ad : Nat → Nat) (zt : Nat) (hi : cm_inj ad) (I : Wo) (x : Int) (hx : -100000 ≤ x ∧ x ≤ 100000) : cm_C l D cs ad zt y_Judge_isStepUp ws_Judge_isStepUp rm_Judge_isStepUp [.int (zi x)] I (mk_pi (fun r J => I = J ∧ ((r = 1 ∧ 1 ≤ x ∧ x ≤ 2) ∨ (r = 0 ∧ ¬ (1 ≤ x ∧ x ≤ 2))))) := by
  refine mk_metz (own := "CanonMaker$Judge") (Ts := wA) hi (Nat.le_refl _) (by decide) rfl (fun w h => List.mem_cons_of_mem _ h) rfl (Nat.le_of_ble_eq_true rfl) [(0, .int (zi x))] rfl ?_
  intro p_ e_ s_ m_ as_ bl_ me_ co_ Q_ X hret
  refine mk_iloadn (nx := 1) X 0 d_Judge_isStepUp_0 rfl rfl ?_
  refine mk_iconst (nx := 2) X d_Judge_isStepUp_1 rfl ?_
  refine mk_icmp_lt (tgt := 14) (nx := 5) X d_Judge_isStepUp_2 (by omega) (by omega) (by decide) rfl (fun c2 => ?_) (fun c2 => ?_)
  · skip
    refine mk_iconst (nx := 15) X d_Judge_isStepUp_14 rfl ?_
    exact hret _ _ _ _ d_Judge_isStepUp_15 (by omega) (by exact ⟨rfl, by omega⟩)
  · skip
    refine mk_iloadn (nx := 6) X 0 d_Judge_isStepUp_5 rfl rfl ?_
    refine mk_iconst (nx := 7) X d_Judge_isStepUp_6 rfl ?_
    refine mk_icmp_gt (tgt := 14) (nx := 10) X d_Judge_isStepUp_7 (by omega) (by omega) (by decide) rfl (fun c7 => ?_) (fun c7 => ?_)
    · skip
      refine mk_iconst (nx := 15) X d_Judge_isStepUp_14 rfl ?_
      exact hret _ _ _ _ d_Judge_isStepUp_15 (by omega) (by exact ⟨rfl, by omega⟩)
    · skip
      refine mk_iconst (nx := 11) X d_Judge_isStepUp_10 rfl ?_
      refine mk_goto (tgt := 15) X d_Judge_isStepUp_11 (by decide) ?_
      exact hret _ _ _ _ d_Judge_isStepUp_15 (by omega) (by exact ⟨rfl, by omega⟩)

-- CanonMaker$Judge.isExcused(II)Z
theorem d_Judge_isExcused_0 : decode prog_3_method_12_code 0 = .ok (.iload_n 0, 1) := by decide +kernel
theorem d_Judge_isExcused_1 : decode prog_3_method_12_code 1 = .ok (.ifCond .eq 7, 3) := by decide +kernel
theorem d_Judge_isExcused_4 : decode prog_3_method_12_code 4 = .ok (.iload_n 1, 1) := by decide +kernel
theorem d_Judge_isExcused_5 : decode prog_3_method_12_code 5 = .ok (.ifCond .ne 5, 3) := by decide +kernel
theorem d_Judge_isExcused_8 : decode prog_3_method_12_code 8 = .ok (.iconst 0, 1) := by decide +kernel
theorem d_Judge_isExcused_9 : decode prog_3_method_12_code 9 = .ok (.ireturn, 1) := by decide +kernel
theorem d_Judge_isExcused_10 : decode prog_3_method_12_code 10 = .ok (.iload_n 0, 1) := by decide +kernel
theorem d_Judge_isExcused_11 : decode prog_3_method_12_code 11 = .ok (.iconst 1, 1) := by decide +kernel
theorem d_Judge_isExcused_12 : decode prog_3_method_12_code 12 = .ok (.if_icmp .eq 8, 3) := by decide +kernel
theorem d_Judge_isExcused_15 : decode prog_3_method_12_code 15 = .ok (.iload_n 1, 1) := by decide +kernel
theorem d_Judge_isExcused_16 : decode prog_3_method_12_code 16 = .ok (.iconst 1, 1) := by decide +kernel
theorem d_Judge_isExcused_17 : decode prog_3_method_12_code 17 = .ok (.if_icmp .ne 5, 3) := by decide +kernel
theorem d_Judge_isExcused_20 : decode prog_3_method_12_code 20 = .ok (.iconst 1, 1) := by decide +kernel
theorem d_Judge_isExcused_21 : decode prog_3_method_12_code 21 = .ok (.ireturn, 1) := by decide +kernel
theorem d_Judge_isExcused_22 : decode prog_3_method_12_code 22 = .ok (.iload_n 0, 1) := by decide +kernel
theorem d_Judge_isExcused_23 : decode prog_3_method_12_code 23 = .ok (.iconst 2, 1) := by decide +kernel
theorem d_Judge_isExcused_24 : decode prog_3_method_12_code 24 = .ok (.if_icmp .ne 12, 3) := by decide +kernel
theorem d_Judge_isExcused_27 : decode prog_3_method_12_code 27 = .ok (.iload_n 1, 1) := by decide +kernel
theorem d_Judge_isExcused_28 : decode prog_3_method_12_code 28 = .ok (.iconst 2, 1) := by decide +kernel
theorem d_Judge_isExcused_29 : decode prog_3_method_12_code 29 = .ok (.if_icmp .ne 7, 3) := by decide +kernel
theorem d_Judge_isExcused_32 : decode prog_3_method_12_code 32 = .ok (.iconst 1, 1) := by decide +kernel
theorem d_Judge_isExcused_33 : decode prog_3_method_12_code 33 = .ok (.goto 4, 3) := by decide +kernel
theorem d_Judge_isExcused_36 : decode prog_3_method_12_code 36 = .ok (.iconst 0, 1) := by decide +kernel
theorem d_Judge_isExcused_37 : decode prog_3_method_12_code 37 = .ok (.ireturn, 1) := by decide +kernel
abbrev rm_Judge_isExcused : Room := { frames := 0, cells := 0, slots := 0, locals := 0 }
set_option maxHeartbeats 4000000 in
set_option maxRecDepth 100000 in
theorem c_Judge_isExcused (l : Launch) (D : va_G) (cs : Nat → ClassId) (ad : Nat → Nat) (zt : Nat) (hi : cm_inj ad) (I : Wo) (x y : Int) (hx : 0 ≤ x ∧ x ≤ 3) (hy : 0 ≤ y ∧ y ≤ 3) : cm_C l D cs ad zt y_Judge_isExcused ws_Judge_isExcused rm_Judge_isExcused [.int (zi x), .int (zi y)] I (mk_pi (fun r J => I = J ∧ ((r = 1 ∧ exc x y) ∨ (r = 0 ∧ ¬ (exc x y))))) := by
  refine mk_metz (own := "CanonMaker$Judge") (Ts := wA) hi (Nat.le_refl _) (by decide) rfl (fun w h => List.mem_cons_of_mem _ h) rfl (Nat.le_of_ble_eq_true rfl) [(0, .int (zi x)), (1, .int (zi y))] rfl ?_
  intro p_ e_ s_ m_ as_ bl_ me_ co_ Q_ X hret
  refine mk_iloadn (nx := 1) X 0 d_Judge_isExcused_0 rfl rfl ?_
  refine mk_if_eq (tgt := 8) (nx := 4) X d_Judge_isExcused_1 (by omega) (by decide) rfl (fun c1 => ?_) (fun c1 => ?_)
  · skip
    refine mk_iconst (nx := 9) X d_Judge_isExcused_8 rfl ?_
    exact hret _ _ _ _ d_Judge_isExcused_9 (by omega) (by exact ⟨rfl, by unfold exc; omega⟩)
  · skip
    refine mk_iloadn (nx := 5) X 1 d_Judge_isExcused_4 rfl rfl ?_
    refine mk_if_ne (tgt := 10) (nx := 8) X d_Judge_isExcused_5 (by omega) (by decide) rfl (fun c5 => ?_) (fun c5 => ?_)
    · skip
      refine mk_iloadn (nx := 11) X 0 d_Judge_isExcused_10 rfl rfl ?_
      refine mk_iconst (nx := 12) X d_Judge_isExcused_11 rfl ?_
      refine mk_icmp_eq (tgt := 20) (nx := 15) X d_Judge_isExcused_12 (by omega) (by omega) (by decide) rfl (fun c12 => ?_) (fun c12 => ?_)
      · skip
        refine mk_iconst (nx := 21) X d_Judge_isExcused_20 rfl ?_
        exact hret _ _ _ _ d_Judge_isExcused_21 (by omega) (by exact ⟨rfl, by unfold exc; omega⟩)
      · skip
        refine mk_iloadn (nx := 16) X 1 d_Judge_isExcused_15 rfl rfl ?_
        refine mk_iconst (nx := 17) X d_Judge_isExcused_16 rfl ?_
        refine mk_icmp_ne (tgt := 22) (nx := 20) X d_Judge_isExcused_17 (by omega) (by omega) (by decide) rfl (fun c17 => ?_) (fun c17 => ?_)
        · skip
          refine mk_iloadn (nx := 23) X 0 d_Judge_isExcused_22 rfl rfl ?_
          refine mk_iconst (nx := 24) X d_Judge_isExcused_23 rfl ?_
          refine mk_icmp_ne (tgt := 36) (nx := 27) X d_Judge_isExcused_24 (by omega) (by omega) (by decide) rfl (fun c24 => ?_) (fun c24 => ?_)
          · skip
            refine mk_iconst (nx := 37) X d_Judge_isExcused_36 rfl ?_
            exact hret _ _ _ _ d_Judge_isExcused_37 (by omega) (by exact ⟨rfl, by unfold exc; omega⟩)
          · skip
            refine mk_iloadn (nx := 28) X 1 d_Judge_isExcused_27 rfl rfl ?_
            refine mk_iconst (nx := 29) X d_Judge_isExcused_28 rfl ?_
            refine mk_icmp_ne (tgt := 36) (nx := 32) X d_Judge_isExcused_29 (by omega) (by omega) (by decide) rfl (fun c29 => ?_) (fun c29 => ?_)
            · skip
              refine mk_iconst (nx := 37) X d_Judge_isExcused_36 rfl ?_
              exact hret _ _ _ _ d_Judge_isExcused_37 (by omega) (by exact ⟨rfl, by unfold exc; omega⟩)
            · skip
              refine mk_iconst (nx := 33) X d_Judge_isExcused_32 rfl ?_
              refine mk_goto (tgt := 37) X d_Judge_isExcused_33 (by decide) ?_
              exact hret _ _ _ _ d_Judge_isExcused_37 (by omega) (by exact ⟨rfl, by unfold exc; omega⟩)
        · skip
          refine mk_iconst (nx := 21) X d_Judge_isExcused_20 rfl ?_
          exact hret _ _ _ _ d_Judge_isExcused_21 (by omega) (by exact ⟨rfl, by unfold exc; omega⟩)
    · skip
      refine mk_iconst (nx := 9) X d_Judge_isExcused_8 rfl ?_
      exact hret _ _ _ _ d_Judge_isExcused_9 (by omega) (by exact ⟨rfl, by unfold exc; omega⟩)

-- CanonMaker$Judge.leaps(I)Z
theorem d_Judge_leaps_0 : decode prog_3_method_9_code 0 = .ok (.aload_n 0, 1) := by decide +kernel
theorem d_Judge_leaps_1 : decode prog_3_method_9_code 1 = .ok (.getfield 19, 3) := by decide +kernel
theorem d_Judge_leaps_4 : decode prog_3_method_9_code 4 = .ok (.iload_n 1, 1) := by decide +kernel
theorem d_Judge_leaps_5 : decode prog_3_method_9_code 5 = .ok (.iaload, 1) := by decide +kernel
theorem d_Judge_leaps_6 : decode prog_3_method_9_code 6 = .ok (.aload_n 0, 1) := by decide +kernel
theorem d_Judge_leaps_7 : decode prog_3_method_9_code 7 = .ok (.getfield 22, 3) := by decide +kernel
theorem d_Judge_leaps_10 : decode prog_3_method_9_code 10 = .ok (.iload_n 1, 1) := by decide +kernel
theorem d_Judge_leaps_11 : decode prog_3_method_9_code 11 = .ok (.iaload, 1) := by decide +kernel
theorem d_Judge_leaps_12 : decode prog_3_method_9_code 12 = .ok (.isub, 1) := by decide +kernel
theorem d_Judge_leaps_13 : decode prog_3_method_9_code 13 = .ok (.invokestatic 154, 3) := by decide +kernel
theorem d_Judge_leaps_16 : decode prog_3_method_9_code 16 = .ok (.istore_n 2, 1) := by decide +kernel
theorem d_Judge_leaps_17 : decode prog_3_method_9_code 17 = .ok (.aload_n 0, 1) := by decide +kernel
theorem d_Judge_leaps_18 : decode prog_3_method_9_code 18 = .ok (.getfield 22, 3) := by decide +kernel
theorem d_Judge_leaps_21 : decode prog_3_method_9_code 21 = .ok (.iload_n 1, 1) := by decide +kernel
theorem d_Judge_leaps_22 : decode prog_3_method_9_code 22 = .ok (.iaload, 1) := by decide +kernel
theorem d_Judge_leaps_23 : decode prog_3_method_9_code 23 = .ok (.invokestatic 158, 3) := by decide +kernel
theorem d_Judge_leaps_26 : decode prog_3_method_9_code 26 = .ok (.ifCond .eq 31, 3) := by decide +kernel
theorem d_Judge_leaps_29 : decode prog_3_method_9_code 29 = .ok (.iload_n 2, 1) := by decide +kernel
theorem d_Judge_leaps_30 : decode prog_3_method_9_code 30 = .ok (.bipush 12, 2) := by decide +kernel
theorem d_Judge_leaps_32 : decode prog_3_method_9_code 32 = .ok (.if_icmp .gt 21, 3) := by decide +kernel
theorem d_Judge_leaps_35 : decode prog_3_method_9_code 35 = .ok (.iload_n 2, 1) := by decide +kernel
theorem d_Judge_leaps_36 : decode prog_3_method_9_code 36 = .ok (.bipush 6, 2) := by decide +kernel
theorem d_Judge_leaps_38 : decode prog_3_method_9_code 38 = .ok (.if_icmp .eq 15, 3) := by decide +kernel
theorem d_Judge_leaps_41 : decode prog_3_method_9_code 41 = .ok (.iload_n 2, 1) := by decide +kernel
theorem d_Judge_leaps_42 : decode prog_3_method_9_code 42 = .ok (.bipush 10, 2) := by decide +kernel
theorem d_Judge_leaps_44 : decode prog_3_method_9_code 44 = .ok (.if_icmp .eq 9, 3) := by decide +kernel
theorem d_Judge_leaps_47 : decode prog_3_method_9_code 47 = .ok (.iload_n 2, 1) := by decide +kernel
theorem d_Judge_leaps_48 : decode prog_3_method_9_code 48 = .ok (.bipush 11, 2) := by decide +kernel
theorem d_Judge_leaps_50 : decode prog_3_method_9_code 50 = .ok (.if_icmp .ne 7, 3) := by decide +kernel
theorem d_Judge_leaps_53 : decode prog_3_method_9_code 53 = .ok (.iconst 1, 1) := by decide +kernel
theorem d_Judge_leaps_54 : decode prog_3_method_9_code 54 = .ok (.goto 4, 3) := by decide +kernel
theorem d_Judge_leaps_57 : decode prog_3_method_9_code 57 = .ok (.iconst 0, 1) := by decide +kernel
theorem d_Judge_leaps_58 : decode prog_3_method_9_code 58 = .ok (.ireturn, 1) := by decide +kernel
abbrev rm_Judge_leaps : Room := { frames := 1, cells := 0, slots := 0, locals := 20 }
set_option maxHeartbeats 4000000 in
set_option maxRecDepth 100000 in
theorem c_Judge_leaps (l : Launch) (D : va_G) (cs : Nat → ClassId) (ad : Nat → Nat) (zt : Nat) (hi : cm_inj ad) (c I : Wo) (hw : wfN c) (hS : wfS c) (hV : wfV c) (t : Int) (hH : HrA c I t) (v : Nat) (hv : v < 4) (hdv : ¬ dPt c t v = 1000) : cm_C l D cs ad zt y_Judge_leaps ws_Judge_leaps rm_Judge_leaps [.ref (ad 36), .int (zi (v : Int))] I (mk_pi (fun r J => I = J ∧ ((r = 1 ∧ dOb c t v < 1000 ∧ leap (((dPt c t v) - (dOb c t v)).natAbs : Int)) ∨ (r = 0 ∧ ¬ (dOb c t v < 1000 ∧ leap (((dPt c t v) - (dOb c t v)).natAbs : Int)))))) := by
  refine mk_metz (own := "CanonMaker$Judge") (Ts := wA) hi (Nat.le_refl _) (by decide) rfl (fun w h => List.mem_cons_of_mem _ h) rfl (Nat.le_of_ble_eq_true rfl) [(0, .ref (ad 36)), (1, .int (zi (v : Int)))] rfl ?_
  intro p_ e_ s_ m_ as_ bl_ me_ co_ Q_ X hret
  have hHv := HrA_v hH
  have hpv := dPt_b (t := t) hw hV hv
  have hsv := dSk_b c t v
  obtain ⟨hov, hnv⟩ := dOb_b hw hV hv hdv
  refine mk_aloadn (nx := 1) X 0 d_Judge_leaps_0 rfl rfl ?_
  refine mk_get (nx := 4) (v := .ref (ad 39)) X 36 (by decide) (sh_Judge cs ad _) rfl in_Judge 4 (by decide) wd_213 rfl rfl d_Judge_leaps_1 rfl ?_
  refine mk_iloadn (nx := 5) X 1 d_Judge_leaps_4 rfl rfl ?_
  refine mk_iald (nx := 6) (j := v) X 39 0 (by decide) (sh_now cs ad _) rfl (by omega) (by omega) (by decide) rfl d_Judge_leaps_5 rfl ?_
  rw [show I 39 v = dPt c t v from (hHv v (by omega) (by assumption)).2.1]
  refine mk_aloadn (nx := 7) X 0 d_Judge_leaps_6 rfl rfl ?_
  refine mk_get (nx := 10) (v := .ref (ad 40)) X 36 (by decide) (sh_Judge cs ad _) rfl in_Judge 5 (by decide) wd_214 rfl rfl d_Judge_leaps_7 rfl ?_
  refine mk_iloadn (nx := 11) X 1 d_Judge_leaps_10 rfl rfl ?_
  refine mk_iald (nx := 12) (j := v) X 40 0 (by decide) (sh_old cs ad _) rfl (by omega) (by omega) (by decide) rfl d_Judge_leaps_11 rfl ?_
  rw [show I 40 v = dOb c t v from (hHv v (by omega) (by assumption)).2.2.1]
  refine mk_isub (nx := 13) X d_Judge_leaps_12 rfl ?_
  refine mk_mabs (nx := 16) X wd_494 wd_495 wd_48 wd_496 (Nat.le_of_ble_eq_true rfl) (Nat.le_of_ble_eq_true rfl) (by omega) d_Judge_leaps_13 rfl ?_
  refine mk_istoren (nx := 17) X [(2, .int (zi (((dPt c t v) - (dOb c t v)).natAbs : Int))), (0, .ref (ad 36)), (1, .int (zi (v : Int)))] d_Judge_leaps_16 (by decide) rfl rfl ?_
  refine mk_aloadn (nx := 18) X 1 d_Judge_leaps_17 rfl rfl ?_
  refine mk_get (nx := 21) (v := .ref (ad 40)) X 36 (by decide) (sh_Judge cs ad _) rfl in_Judge 5 (by decide) wd_214 rfl rfl d_Judge_leaps_18 rfl ?_
  refine mk_iloadn (nx := 22) X 2 d_Judge_leaps_21 rfl rfl ?_
  refine mk_iald (nx := 23) (j := v) X 40 0 (by decide) (sh_old cs ad _) rfl (by omega) (by omega) (by decide) rfl d_Judge_leaps_22 rfl ?_
  rw [show I 40 v = dOb c t v from (hHv v (by omega) (by assumption)).2.2.1]
  refine mk_callSi (nx := 26) (n := 1) (As := [.int (zi (dOb c t v))]) (rest := []) X (c_Judge_isKnown l D cs ad zt hi I (dOb c t v) (by omega)) (g_Judge_isKnown wd_497) rfl ⟨rfl, rfl⟩ (by decide +kernel) ⟨by decide, by decide⟩ rfl (Nat.le_of_ble_eq_true rfl) rfl d_Judge_leaps_23 rfl ?_
  intro r23 J1 hJ1
  obtain ⟨rfl, hr23⟩ := hJ1
  refine mk_if_eq (tgt := 57) (nx := 29) X d_Judge_leaps_26 (by omega) (by decide) rfl (fun c26 => ?_) (fun c26 => ?_)
  · skip
    refine mk_iconst (nx := 58) X d_Judge_leaps_57 rfl ?_
    exact hret _ _ _ _ d_Judge_leaps_58 (by omega) (by exact ⟨rfl, by unfold leap; omega⟩)
  · skip
    refine mk_iloadn (nx := 30) X 0 d_Judge_leaps_29 rfl rfl ?_
    refine mk_bipush (nx := 32) X d_Judge_leaps_30 (by decide) rfl ?_
    refine mk_icmp_gt (tgt := 53) (nx := 35) X d_Judge_leaps_32 (by omega) (by omega) (by decide) rfl (fun c32 => ?_) (fun c32 => ?_)
    · skip
      refine mk_iconst (nx := 54) X d_Judge_leaps_53 rfl ?_
      refine mk_goto (tgt := 58) X d_Judge_leaps_54 (by decide) ?_
      exact hret _ _ _ _ d_Judge_leaps_58 (by omega) (by exact ⟨rfl, by unfold leap; omega⟩)
    · skip
      refine mk_iloadn (nx := 36) X 0 d_Judge_leaps_35 rfl rfl ?_
      refine mk_bipush (nx := 38) X d_Judge_leaps_36 (by decide) rfl ?_
      refine mk_icmp_eq (tgt := 53) (nx := 41) X d_Judge_leaps_38 (by omega) (by omega) (by decide) rfl (fun c38 => ?_) (fun c38 => ?_)
      · skip
        refine mk_iconst (nx := 54) X d_Judge_leaps_53 rfl ?_
        refine mk_goto (tgt := 58) X d_Judge_leaps_54 (by decide) ?_
        exact hret _ _ _ _ d_Judge_leaps_58 (by omega) (by exact ⟨rfl, by unfold leap; omega⟩)
      · skip
        refine mk_iloadn (nx := 42) X 0 d_Judge_leaps_41 rfl rfl ?_
        refine mk_bipush (nx := 44) X d_Judge_leaps_42 (by decide) rfl ?_
        refine mk_icmp_eq (tgt := 53) (nx := 47) X d_Judge_leaps_44 (by omega) (by omega) (by decide) rfl (fun c44 => ?_) (fun c44 => ?_)
        · skip
          refine mk_iconst (nx := 54) X d_Judge_leaps_53 rfl ?_
          refine mk_goto (tgt := 58) X d_Judge_leaps_54 (by decide) ?_
          exact hret _ _ _ _ d_Judge_leaps_58 (by omega) (by exact ⟨rfl, by unfold leap; omega⟩)
        · skip
          refine mk_iloadn (nx := 48) X 0 d_Judge_leaps_47 rfl rfl ?_
          refine mk_bipush (nx := 50) X d_Judge_leaps_48 (by decide) rfl ?_
          refine mk_icmp_ne (tgt := 57) (nx := 53) X d_Judge_leaps_50 (by omega) (by omega) (by decide) rfl (fun c50 => ?_) (fun c50 => ?_)
          · skip
            refine mk_iconst (nx := 58) X d_Judge_leaps_57 rfl ?_
            exact hret _ _ _ _ d_Judge_leaps_58 (by omega) (by exact ⟨rfl, by unfold leap; omega⟩)
          · skip
            refine mk_iconst (nx := 54) X d_Judge_leaps_53 rfl ?_
            refine mk_goto (tgt := 58) X d_Judge_leaps_54 (by decide) ?_
            exact hret _ _ _ _ d_Judge_leaps_58 (by omega) (by exact ⟨rfl, by unfold leap; omega⟩)

-- CanonMaker$Judge.gait(I)I
theorem d_Judge_gait_0 : decode prog_3_method_13_code 0 = .ok (.aload_n 0, 1) := by decide +kernel
theorem d_Judge_gait_1 : decode prog_3_method_13_code 1 = .ok (.getfield 15, 3) := by decide +kernel
theorem d_Judge_gait_4 : decode prog_3_method_13_code 4 = .ok (.iload_n 1, 1) := by decide +kernel
theorem d_Judge_gait_5 : decode prog_3_method_13_code 5 = .ok (.baload, 1) := by decide +kernel
theorem d_Judge_gait_6 : decode prog_3_method_13_code 6 = .ok (.ifCond .ne 5, 3) := by decide +kernel
theorem d_Judge_gait_9 : decode prog_3_method_13_code 9 = .ok (.iconst 2, 1) := by decide +kernel
theorem d_Judge_gait_10 : decode prog_3_method_13_code 10 = .ok (.ireturn, 1) := by decide +kernel
theorem d_Judge_gait_11 : decode prog_3_method_13_code 11 = .ok (.aload_n 0, 1) := by decide +kernel
theorem d_Judge_gait_12 : decode prog_3_method_13_code 12 = .ok (.getfield 22, 3) := by decide +kernel
theorem d_Judge_gait_15 : decode prog_3_method_13_code 15 = .ok (.iload_n 1, 1) := by decide +kernel
theorem d_Judge_gait_16 : decode prog_3_method_13_code 16 = .ok (.iaload, 1) := by decide +kernel
theorem d_Judge_gait_17 : decode prog_3_method_13_code 17 = .ok (.sipush 1000, 3) := by decide +kernel
theorem d_Judge_gait_20 : decode prog_3_method_13_code 20 = .ok (.if_icmp .eq 15, 3) := by decide +kernel
theorem d_Judge_gait_23 : decode prog_3_method_13_code 23 = .ok (.aload_n 0, 1) := by decide +kernel
theorem d_Judge_gait_24 : decode prog_3_method_13_code 24 = .ok (.getfield 25, 3) := by decide +kernel
theorem d_Judge_gait_27 : decode prog_3_method_13_code 27 = .ok (.iload_n 1, 1) := by decide +kernel
theorem d_Judge_gait_28 : decode prog_3_method_13_code 28 = .ok (.iaload, 1) := by decide +kernel
theorem d_Judge_gait_29 : decode prog_3_method_13_code 29 = .ok (.sipush 1000, 3) := by decide +kernel
theorem d_Judge_gait_32 : decode prog_3_method_13_code 32 = .ok (.if_icmp .ne 5, 3) := by decide +kernel
theorem d_Judge_gait_35 : decode prog_3_method_13_code 35 = .ok (.iconst 0, 1) := by decide +kernel
theorem d_Judge_gait_36 : decode prog_3_method_13_code 36 = .ok (.ireturn, 1) := by decide +kernel
theorem d_Judge_gait_37 : decode prog_3_method_13_code 37 = .ok (.aload_n 0, 1) := by decide +kernel
theorem d_Judge_gait_38 : decode prog_3_method_13_code 38 = .ok (.getfield 22, 3) := by decide +kernel
theorem d_Judge_gait_41 : decode prog_3_method_13_code 41 = .ok (.iload_n 1, 1) := by decide +kernel
theorem d_Judge_gait_42 : decode prog_3_method_13_code 42 = .ok (.iaload, 1) := by decide +kernel
theorem d_Judge_gait_43 : decode prog_3_method_13_code 43 = .ok (.sipush 1001, 3) := by decide +kernel
theorem d_Judge_gait_46 : decode prog_3_method_13_code 46 = .ok (.if_icmp .eq 15, 3) := by decide +kernel
theorem d_Judge_gait_49 : decode prog_3_method_13_code 49 = .ok (.aload_n 0, 1) := by decide +kernel
theorem d_Judge_gait_50 : decode prog_3_method_13_code 50 = .ok (.getfield 25, 3) := by decide +kernel
theorem d_Judge_gait_53 : decode prog_3_method_13_code 53 = .ok (.iload_n 1, 1) := by decide +kernel
theorem d_Judge_gait_54 : decode prog_3_method_13_code 54 = .ok (.iaload, 1) := by decide +kernel
theorem d_Judge_gait_55 : decode prog_3_method_13_code 55 = .ok (.sipush 1001, 3) := by decide +kernel
theorem d_Judge_gait_58 : decode prog_3_method_13_code 58 = .ok (.if_icmp .ne 5, 3) := by decide +kernel
theorem d_Judge_gait_61 : decode prog_3_method_13_code 61 = .ok (.iconst 1, 1) := by decide +kernel
theorem d_Judge_gait_62 : decode prog_3_method_13_code 62 = .ok (.ireturn, 1) := by decide +kernel
theorem d_Judge_gait_63 : decode prog_3_method_13_code 63 = .ok (.aload_n 0, 1) := by decide +kernel
theorem d_Judge_gait_64 : decode prog_3_method_13_code 64 = .ok (.getfield 19, 3) := by decide +kernel
theorem d_Judge_gait_67 : decode prog_3_method_13_code 67 = .ok (.iload_n 1, 1) := by decide +kernel
theorem d_Judge_gait_68 : decode prog_3_method_13_code 68 = .ok (.iaload, 1) := by decide +kernel
theorem d_Judge_gait_69 : decode prog_3_method_13_code 69 = .ok (.aload_n 0, 1) := by decide +kernel
theorem d_Judge_gait_70 : decode prog_3_method_13_code 70 = .ok (.getfield 22, 3) := by decide +kernel
theorem d_Judge_gait_73 : decode prog_3_method_13_code 73 = .ok (.iload_n 1, 1) := by decide +kernel
theorem d_Judge_gait_74 : decode prog_3_method_13_code 74 = .ok (.iaload, 1) := by decide +kernel
theorem d_Judge_gait_75 : decode prog_3_method_13_code 75 = .ok (.isub, 1) := by decide +kernel
theorem d_Judge_gait_76 : decode prog_3_method_13_code 76 = .ok (.istore_n 2, 1) := by decide +kernel
theorem d_Judge_gait_77 : decode prog_3_method_13_code 77 = .ok (.aload_n 0, 1) := by decide +kernel
theorem d_Judge_gait_78 : decode prog_3_method_13_code 78 = .ok (.getfield 25, 3) := by decide +kernel
theorem d_Judge_gait_81 : decode prog_3_method_13_code 81 = .ok (.iload_n 1, 1) := by decide +kernel
theorem d_Judge_gait_82 : decode prog_3_method_13_code 82 = .ok (.iaload, 1) := by decide +kernel
theorem d_Judge_gait_83 : decode prog_3_method_13_code 83 = .ok (.aload_n 0, 1) := by decide +kernel
theorem d_Judge_gait_84 : decode prog_3_method_13_code 84 = .ok (.getfield 19, 3) := by decide +kernel
theorem d_Judge_gait_87 : decode prog_3_method_13_code 87 = .ok (.iload_n 1, 1) := by decide +kernel
theorem d_Judge_gait_88 : decode prog_3_method_13_code 88 = .ok (.iaload, 1) := by decide +kernel
theorem d_Judge_gait_89 : decode prog_3_method_13_code 89 = .ok (.isub, 1) := by decide +kernel
theorem d_Judge_gait_90 : decode prog_3_method_13_code 90 = .ok (.istore_n 3, 1) := by decide +kernel
theorem d_Judge_gait_91 : decode prog_3_method_13_code 91 = .ok (.iload_n 2, 1) := by decide +kernel
theorem d_Judge_gait_92 : decode prog_3_method_13_code 92 = .ok (.invokestatic 173, 3) := by decide +kernel
theorem d_Judge_gait_95 : decode prog_3_method_13_code 95 = .ok (.ifCond .eq 14, 3) := by decide +kernel
theorem d_Judge_gait_98 : decode prog_3_method_13_code 98 = .ok (.iload_n 3, 1) := by decide +kernel
theorem d_Judge_gait_99 : decode prog_3_method_13_code 99 = .ok (.invokestatic 173, 3) := by decide +kernel
theorem d_Judge_gait_102 : decode prog_3_method_13_code 102 = .ok (.ifCond .eq 7, 3) := by decide +kernel
theorem d_Judge_gait_105 : decode prog_3_method_13_code 105 = .ok (.iconst 1, 1) := by decide +kernel
theorem d_Judge_gait_106 : decode prog_3_method_13_code 106 = .ok (.goto 4, 3) := by decide +kernel
theorem d_Judge_gait_109 : decode prog_3_method_13_code 109 = .ok (.iconst 0, 1) := by decide +kernel
theorem d_Judge_gait_110 : decode prog_3_method_13_code 110 = .ok (.istore 4, 2) := by decide +kernel
theorem d_Judge_gait_112 : decode prog_3_method_13_code 112 = .ok (.iload_n 2, 1) := by decide +kernel
theorem d_Judge_gait_113 : decode prog_3_method_13_code 113 = .ok (.ineg, 1) := by decide +kernel
theorem d_Judge_gait_114 : decode prog_3_method_13_code 114 = .ok (.invokestatic 173, 3) := by decide +kernel
theorem d_Judge_gait_117 : decode prog_3_method_13_code 117 = .ok (.ifCond .eq 15, 3) := by decide +kernel
theorem d_Judge_gait_120 : decode prog_3_method_13_code 120 = .ok (.iload_n 3, 1) := by decide +kernel
theorem d_Judge_gait_121 : decode prog_3_method_13_code 121 = .ok (.ineg, 1) := by decide +kernel
theorem d_Judge_gait_122 : decode prog_3_method_13_code 122 = .ok (.invokestatic 173, 3) := by decide +kernel
theorem d_Judge_gait_125 : decode prog_3_method_13_code 125 = .ok (.ifCond .eq 7, 3) := by decide +kernel
theorem d_Judge_gait_128 : decode prog_3_method_13_code 128 = .ok (.iconst 1, 1) := by decide +kernel
theorem d_Judge_gait_129 : decode prog_3_method_13_code 129 = .ok (.goto 4, 3) := by decide +kernel
theorem d_Judge_gait_132 : decode prog_3_method_13_code 132 = .ok (.iconst 0, 1) := by decide +kernel
theorem d_Judge_gait_133 : decode prog_3_method_13_code 133 = .ok (.istore 5, 2) := by decide +kernel
theorem d_Judge_gait_135 : decode prog_3_method_13_code 135 = .ok (.iload 4, 2) := by decide +kernel
theorem d_Judge_gait_137 : decode prog_3_method_13_code 137 = .ok (.ifCond .ne 8, 3) := by decide +kernel
theorem d_Judge_gait_140 : decode prog_3_method_13_code 140 = .ok (.iload 5, 2) := by decide +kernel
theorem d_Judge_gait_142 : decode prog_3_method_13_code 142 = .ok (.ifCond .eq 7, 3) := by decide +kernel
theorem d_Judge_gait_145 : decode prog_3_method_13_code 145 = .ok (.iconst 2, 1) := by decide +kernel
theorem d_Judge_gait_146 : decode prog_3_method_13_code 146 = .ok (.goto 4, 3) := by decide +kernel
theorem d_Judge_gait_149 : decode prog_3_method_13_code 149 = .ok (.iconst 3, 1) := by decide +kernel
theorem d_Judge_gait_150 : decode prog_3_method_13_code 150 = .ok (.ireturn, 1) := by decide +kernel
abbrev rm_Judge_gait : Room := { frames := 1, cells := 0, slots := 0, locals := 20 }
set_option maxHeartbeats 4000000 in
set_option maxRecDepth 100000 in
theorem c_Judge_gait (l : Launch) (D : va_G) (cs : Nat → ClassId) (ad : Nat → Nat) (zt : Nat) (hi : cm_inj ad) (c I : Wo) (hw : wfN c) (hS : wfS c) (hV : wfV c) (t : Int) (hH : HrA c I t) (v : Nat) (hv : v < 4) (hdv : ¬ dPt c t v = 1000) : cm_C l D cs ad zt y_Judge_gait ws_Judge_gait rm_Judge_gait [.ref (ad 36), .int (zi (v : Int))] I (mk_pi (fun r J => I = J ∧ r = gai (dPt c t v) (dSk c t v) (dOb c t v) (dNb c t v))) := by
  refine mk_meti (own := "CanonMaker$Judge") (Ts := wA) hi (Nat.le_refl _) (by decide) rfl (fun w h => List.mem_cons_of_mem _ h) rfl (Nat.le_of_ble_eq_true rfl) [(0, .ref (ad 36)), (1, .int (zi (v : Int)))] rfl ?_
  intro p_ e_ s_ m_ as_ bl_ me_ co_ Q_ X hret
  have hHv := HrA_v hH
  have hpv := dPt_b (t := t) hw hV hv
  have hsv := dSk_b c t v
  obtain ⟨hov, hnv⟩ := dOb_b hw hV hv hdv
  have L112 : ∀ (up : Int), ((up = 1 ∧ 1 ≤ dPt c t v - dOb c t v ∧ dPt c t v - dOb c t v ≤ 2 ∧ 1 ≤ dNb c t v - dPt c t v ∧ dNb c t v - dPt c t v ≤ 2) ∨ (up = 0 ∧ ¬ (1 ≤ dPt c t v - dOb c t v ∧ dPt c t v - dOb c t v ≤ 2 ∧ 1 ≤ dNb c t v - dPt c t v ∧ dNb c t v - dPt c t v ≤ 2))) → (dSk c t v = 1) → (¬ (dOb c t v = 1000 ∨ dNb c t v = 1000)) → (¬ (dOb c t v = 1001 ∨ dNb c t v = 1001)) → mk_A p_ l e_ rm_Judge_gait s_ m_ as_ bl_ me_ co_ Q_ 6 D cmcl (cm_sh cs ad) 48 48 ad I [(0, .ref (ad 36)), (1, .int (zi (v : Int))), (2, .int (zi ((dPt c t v) - (dOb c t v)))), (3, .int (zi ((dNb c t v) - (dPt c t v)))), (4, .int (zi up))] 112 [] := by
    intro up hup hg1 hg2 hg3
    refine mk_iloadn (nx := 113) X 2 d_Judge_gait_112 rfl rfl ?_
    refine mk_ineg (nx := 114) X d_Judge_gait_113 rfl ?_
    refine mk_callSi (nx := 117) (n := 1) (As := [.int (zi (-((dPt c t v) - (dOb c t v))))]) (rest := []) X (c_Judge_isStepUp l D cs ad zt hi I (-((dPt c t v) - (dOb c t v))) (by omega)) (g_Judge_isStepUp wd_524) rfl ⟨rfl, rfl⟩ (by decide +kernel) ⟨by decide, by decide⟩ rfl (Nat.le_of_ble_eq_true rfl) rfl d_Judge_gait_114 rfl ?_
    intro r114 J1 hJ1
    obtain ⟨rfl, hr114⟩ := hJ1
    refine mk_if_eq (tgt := 132) (nx := 120) X d_Judge_gait_117 (by omega) (by decide) rfl (fun c117 => ?_) (fun c117 => ?_)
    · skip
      refine mk_iconst (nx := 133) X d_Judge_gait_132 rfl ?_
      refine mk_istore (nx := 135) X [(5, .int (zi 0)), (0, .ref (ad 36)), (1, .int (zi (v : Int))), (2, .int (zi ((dPt c t v) - (dOb c t v)))), (3, .int (zi ((dNb c t v) - (dPt c t v)))), (4, .int (zi up))] d_Judge_gait_133 (by decide) rfl rfl ?_
      refine mk_iload (nx := 137) X 5 d_Judge_gait_135 rfl rfl ?_
      refine mk_if_ne (tgt := 145) (nx := 140) X d_Judge_gait_137 (by omega) (by decide) rfl (fun c137 => ?_) (fun c137 => ?_)
      · skip
        refine mk_iconst (nx := 146) X d_Judge_gait_145 rfl ?_
        refine mk_goto (tgt := 150) X d_Judge_gait_146 (by decide) ?_
        exact hret _ _ _ _ d_Judge_gait_150 (by refine ⟨rfl, ?_⟩; unfold gai; rw [if_pos hg1, if_neg hg2, if_neg hg3]; first | (exfalso; omega) | (rw [if_pos (by unfold stw; omega)]) | (rw [if_neg (by unfold stw; omega)]))
      · skip
        refine mk_iload (nx := 142) X 0 d_Judge_gait_140 rfl rfl ?_
        refine mk_if_eq (tgt := 149) (nx := 145) X d_Judge_gait_142 (by omega) (by decide) rfl (fun c142 => ?_) (fun c142 => ?_)
        · skip
          refine mk_iconst (nx := 150) X d_Judge_gait_149 rfl ?_
          exact hret _ _ _ _ d_Judge_gait_150 (by refine ⟨rfl, ?_⟩; unfold gai; rw [if_pos hg1, if_neg hg2, if_neg hg3]; first | (exfalso; omega) | (rw [if_pos (by unfold stw; omega)]) | (rw [if_neg (by unfold stw; omega)]))
        · skip
          refine mk_iconst (nx := 146) X d_Judge_gait_145 rfl ?_
          refine mk_goto (tgt := 150) X d_Judge_gait_146 (by decide) ?_
          exact hret _ _ _ _ d_Judge_gait_150 (by refine ⟨rfl, ?_⟩; unfold gai; rw [if_pos hg1, if_neg hg2, if_neg hg3]; first | (exfalso; omega) | (rw [if_pos (by unfold stw; omega)]) | (rw [if_neg (by unfold stw; omega)]))
    · skip
      refine mk_iloadn (nx := 121) X 3 d_Judge_gait_120 rfl rfl ?_
      refine mk_ineg (nx := 122) X d_Judge_gait_121 rfl ?_
      refine mk_callSi (nx := 125) (n := 1) (As := [.int (zi (-((dNb c t v) - (dPt c t v))))]) (rest := []) X (c_Judge_isStepUp l D cs ad zt hi I (-((dNb c t v) - (dPt c t v))) (by omega)) (g_Judge_isStepUp wd_524) rfl ⟨rfl, rfl⟩ (by decide +kernel) ⟨by decide, by decide⟩ rfl (Nat.le_of_ble_eq_true rfl) rfl d_Judge_gait_122 rfl ?_
      intro r122 J2 hJ2
      obtain ⟨rfl, hr122⟩ := hJ2
      refine mk_if_eq (tgt := 132) (nx := 128) X d_Judge_gait_125 (by omega) (by decide) rfl (fun c125 => ?_) (fun c125 => ?_)
      · skip
        refine mk_iconst (nx := 133) X d_Judge_gait_132 rfl ?_
        refine mk_istore (nx := 135) X [(5, .int (zi 0)), (0, .ref (ad 36)), (1, .int (zi (v : Int))), (2, .int (zi ((dPt c t v) - (dOb c t v)))), (3, .int (zi ((dNb c t v) - (dPt c t v)))), (4, .int (zi up))] d_Judge_gait_133 (by decide) rfl rfl ?_
        refine mk_iload (nx := 137) X 5 d_Judge_gait_135 rfl rfl ?_
        refine mk_if_ne (tgt := 145) (nx := 140) X d_Judge_gait_137 (by omega) (by decide) rfl (fun c137 => ?_) (fun c137 => ?_)
        · skip
          refine mk_iconst (nx := 146) X d_Judge_gait_145 rfl ?_
          refine mk_goto (tgt := 150) X d_Judge_gait_146 (by decide) ?_
          exact hret _ _ _ _ d_Judge_gait_150 (by refine ⟨rfl, ?_⟩; unfold gai; rw [if_pos hg1, if_neg hg2, if_neg hg3]; first | (exfalso; omega) | (rw [if_pos (by unfold stw; omega)]) | (rw [if_neg (by unfold stw; omega)]))
        · skip
          refine mk_iload (nx := 142) X 0 d_Judge_gait_140 rfl rfl ?_
          refine mk_if_eq (tgt := 149) (nx := 145) X d_Judge_gait_142 (by omega) (by decide) rfl (fun c142 => ?_) (fun c142 => ?_)
          · skip
            refine mk_iconst (nx := 150) X d_Judge_gait_149 rfl ?_
            exact hret _ _ _ _ d_Judge_gait_150 (by refine ⟨rfl, ?_⟩; unfold gai; rw [if_pos hg1, if_neg hg2, if_neg hg3]; first | (exfalso; omega) | (rw [if_pos (by unfold stw; omega)]) | (rw [if_neg (by unfold stw; omega)]))
          · skip
            refine mk_iconst (nx := 146) X d_Judge_gait_145 rfl ?_
            refine mk_goto (tgt := 150) X d_Judge_gait_146 (by decide) ?_
            exact hret _ _ _ _ d_Judge_gait_150 (by refine ⟨rfl, ?_⟩; unfold gai; rw [if_pos hg1, if_neg hg2, if_neg hg3]; first | (exfalso; omega) | (rw [if_pos (by unfold stw; omega)]) | (rw [if_neg (by unfold stw; omega)]))
      · skip
        refine mk_iconst (nx := 129) X d_Judge_gait_128 rfl ?_
        refine mk_goto (tgt := 133) X d_Judge_gait_129 (by decide) ?_
        refine mk_istore (nx := 135) X [(5, .int (zi 1)), (0, .ref (ad 36)), (1, .int (zi (v : Int))), (2, .int (zi ((dPt c t v) - (dOb c t v)))), (3, .int (zi ((dNb c t v) - (dPt c t v)))), (4, .int (zi up))] d_Judge_gait_133 (by decide) rfl rfl ?_
        refine mk_iload (nx := 137) X 5 d_Judge_gait_135 rfl rfl ?_
        refine mk_if_ne (tgt := 145) (nx := 140) X d_Judge_gait_137 (by omega) (by decide) rfl (fun c137 => ?_) (fun c137 => ?_)
        · skip
          refine mk_iconst (nx := 146) X d_Judge_gait_145 rfl ?_
          refine mk_goto (tgt := 150) X d_Judge_gait_146 (by decide) ?_
          exact hret _ _ _ _ d_Judge_gait_150 (by refine ⟨rfl, ?_⟩; unfold gai; rw [if_pos hg1, if_neg hg2, if_neg hg3]; first | (exfalso; omega) | (rw [if_pos (by unfold stw; omega)]) | (rw [if_neg (by unfold stw; omega)]))
        · skip
          refine mk_iload (nx := 142) X 0 d_Judge_gait_140 rfl rfl ?_
          refine mk_if_eq (tgt := 149) (nx := 145) X d_Judge_gait_142 (by omega) (by decide) rfl (fun c142 => ?_) (fun c142 => ?_)
          · skip
            refine mk_iconst (nx := 150) X d_Judge_gait_149 rfl ?_
            exact hret _ _ _ _ d_Judge_gait_150 (by refine ⟨rfl, ?_⟩; unfold gai; rw [if_pos hg1, if_neg hg2, if_neg hg3]; first | (exfalso; omega) | (rw [if_pos (by unfold stw; omega)]) | (rw [if_neg (by unfold stw; omega)]))
          · skip
            refine mk_iconst (nx := 146) X d_Judge_gait_145 rfl ?_
            refine mk_goto (tgt := 150) X d_Judge_gait_146 (by decide) ?_
            exact hret _ _ _ _ d_Judge_gait_150 (by refine ⟨rfl, ?_⟩; unfold gai; rw [if_pos hg1, if_neg hg2, if_neg hg3]; first | (exfalso; omega) | (rw [if_pos (by unfold stw; omega)]) | (rw [if_neg (by unfold stw; omega)]))
  refine mk_aloadn (nx := 1) X 0 d_Judge_gait_0 rfl rfl ?_
  refine mk_get (nx := 4) (v := .ref (ad 38)) X 36 (by decide) (sh_Judge cs ad _) rfl in_Judge 3 (by decide) wd_212 rfl rfl d_Judge_gait_1 rfl ?_
  refine mk_iloadn (nx := 5) X 1 d_Judge_gait_4 rfl rfl ?_
  refine mk_zald (nx := 6) (j := v) X 38 1 (by decide) (sh_struck cs ad _) rfl (by omega) (by omega) (by decide) rfl d_Judge_gait_5 rfl ?_
  rw [show I 38 v = dSk c t v from (hHv v (by omega) (by assumption)).1]
  refine mk_if_ne (tgt := 11) (nx := 9) X d_Judge_gait_6 (by omega) (by decide) rfl (fun c6 => ?_) (fun c6 => ?_)
  · skip
    refine mk_aloadn (nx := 12) X 0 d_Judge_gait_11 rfl rfl ?_
    refine mk_get (nx := 15) (v := .ref (ad 40)) X 36 (by decide) (sh_Judge cs ad _) rfl in_Judge 5 (by decide) wd_214 rfl rfl d_Judge_gait_12 rfl ?_
    refine mk_iloadn (nx := 16) X 1 d_Judge_gait_15 rfl rfl ?_
    refine mk_iald (nx := 17) (j := v) X 40 0 (by decide) (sh_old cs ad _) rfl (by omega) (by omega) (by decide) rfl d_Judge_gait_16 rfl ?_
    rw [show I 40 v = dOb c t v from (hHv v (by omega) (by assumption)).2.2.1]
    refine mk_sipush (nx := 20) X d_Judge_gait_17 (by decide) rfl ?_
    refine mk_icmp_eq (tgt := 35) (nx := 23) X d_Judge_gait_20 (by omega) (by omega) (by decide) rfl (fun c20 => ?_) (fun c20 => ?_)
    · skip
      refine mk_iconst (nx := 36) X d_Judge_gait_35 rfl ?_
      exact hret _ _ _ _ d_Judge_gait_36 (by exact ⟨rfl, by unfold gai; rw [if_pos (by omega), if_pos (by omega)]⟩)
    · skip
      refine mk_aloadn (nx := 24) X 0 d_Judge_gait_23 rfl rfl ?_
      refine mk_get (nx := 27) (v := .ref (ad 41)) X 36 (by decide) (sh_Judge cs ad _) rfl in_Judge 6 (by decide) wd_215 rfl rfl d_Judge_gait_24 rfl ?_
      refine mk_iloadn (nx := 28) X 1 d_Judge_gait_27 rfl rfl ?_
      refine mk_iald (nx := 29) (j := v) X 41 0 (by decide) (sh_next cs ad _) rfl (by omega) (by omega) (by decide) rfl d_Judge_gait_28 rfl ?_
      rw [show I 41 v = dNb c t v from (hHv v (by omega) (by assumption)).2.2.2]
      refine mk_sipush (nx := 32) X d_Judge_gait_29 (by decide) rfl ?_
      refine mk_icmp_ne (tgt := 37) (nx := 35) X d_Judge_gait_32 (by omega) (by omega) (by decide) rfl (fun c32 => ?_) (fun c32 => ?_)
      · skip
        refine mk_aloadn (nx := 38) X 0 d_Judge_gait_37 rfl rfl ?_
        refine mk_get (nx := 41) (v := .ref (ad 40)) X 36 (by decide) (sh_Judge cs ad _) rfl in_Judge 5 (by decide) wd_214 rfl rfl d_Judge_gait_38 rfl ?_
        refine mk_iloadn (nx := 42) X 1 d_Judge_gait_41 rfl rfl ?_
        refine mk_iald (nx := 43) (j := v) X 40 0 (by decide) (sh_old cs ad _) rfl (by omega) (by omega) (by decide) rfl d_Judge_gait_42 rfl ?_
        rw [show I 40 v = dOb c t v from (hHv v (by omega) (by assumption)).2.2.1]
        refine mk_sipush (nx := 46) X d_Judge_gait_43 (by decide) rfl ?_
        refine mk_icmp_eq (tgt := 61) (nx := 49) X d_Judge_gait_46 (by omega) (by omega) (by decide) rfl (fun c46 => ?_) (fun c46 => ?_)
        · skip
          refine mk_iconst (nx := 62) X d_Judge_gait_61 rfl ?_
          exact hret _ _ _ _ d_Judge_gait_62 (by exact ⟨rfl, by unfold gai; rw [if_pos (by omega), if_neg (by omega), if_pos (by omega)]⟩)
        · skip
          refine mk_aloadn (nx := 50) X 0 d_Judge_gait_49 rfl rfl ?_
          refine mk_get (nx := 53) (v := .ref (ad 41)) X 36 (by decide) (sh_Judge cs ad _) rfl in_Judge 6 (by decide) wd_215 rfl rfl d_Judge_gait_50 rfl ?_
          refine mk_iloadn (nx := 54) X 1 d_Judge_gait_53 rfl rfl ?_
          refine mk_iald (nx := 55) (j := v) X 41 0 (by decide) (sh_next cs ad _) rfl (by omega) (by omega) (by decide) rfl d_Judge_gait_54 rfl ?_
          rw [show I 41 v = dNb c t v from (hHv v (by omega) (by assumption)).2.2.2]
          refine mk_sipush (nx := 58) X d_Judge_gait_55 (by decide) rfl ?_
          refine mk_icmp_ne (tgt := 63) (nx := 61) X d_Judge_gait_58 (by omega) (by omega) (by decide) rfl (fun c58 => ?_) (fun c58 => ?_)
          · skip
            refine mk_aloadn (nx := 64) X 0 d_Judge_gait_63 rfl rfl ?_
            refine mk_get (nx := 67) (v := .ref (ad 39)) X 36 (by decide) (sh_Judge cs ad _) rfl in_Judge 4 (by decide) wd_213 rfl rfl d_Judge_gait_64 rfl ?_
            refine mk_iloadn (nx := 68) X 1 d_Judge_gait_67 rfl rfl ?_
            refine mk_iald (nx := 69) (j := v) X 39 0 (by decide) (sh_now cs ad _) rfl (by omega) (by omega) (by decide) rfl d_Judge_gait_68 rfl ?_
            rw [show I 39 v = dPt c t v from (hHv v (by omega) (by assumption)).2.1]
            refine mk_aloadn (nx := 70) X 0 d_Judge_gait_69 rfl rfl ?_
            refine mk_get (nx := 73) (v := .ref (ad 40)) X 36 (by decide) (sh_Judge cs ad _) rfl in_Judge 5 (by decide) wd_214 rfl rfl d_Judge_gait_70 rfl ?_
            refine mk_iloadn (nx := 74) X 1 d_Judge_gait_73 rfl rfl ?_
            refine mk_iald (nx := 75) (j := v) X 40 0 (by decide) (sh_old cs ad _) rfl (by omega) (by omega) (by decide) rfl d_Judge_gait_74 rfl ?_
            rw [show I 40 v = dOb c t v from (hHv v (by omega) (by assumption)).2.2.1]
            refine mk_isub (nx := 76) X d_Judge_gait_75 rfl ?_
            refine mk_istoren (nx := 77) X [(2, .int (zi ((dPt c t v) - (dOb c t v)))), (0, .ref (ad 36)), (1, .int (zi (v : Int)))] d_Judge_gait_76 (by decide) rfl rfl ?_
            refine mk_aloadn (nx := 78) X 1 d_Judge_gait_77 rfl rfl ?_
            refine mk_get (nx := 81) (v := .ref (ad 41)) X 36 (by decide) (sh_Judge cs ad _) rfl in_Judge 6 (by decide) wd_215 rfl rfl d_Judge_gait_78 rfl ?_
            refine mk_iloadn (nx := 82) X 2 d_Judge_gait_81 rfl rfl ?_
            refine mk_iald (nx := 83) (j := v) X 41 0 (by decide) (sh_next cs ad _) rfl (by omega) (by omega) (by decide) rfl d_Judge_gait_82 rfl ?_
            rw [show I 41 v = dNb c t v from (hHv v (by omega) (by assumption)).2.2.2]
            refine mk_aloadn (nx := 84) X 1 d_Judge_gait_83 rfl rfl ?_
            refine mk_get (nx := 87) (v := .ref (ad 39)) X 36 (by decide) (sh_Judge cs ad _) rfl in_Judge 4 (by decide) wd_213 rfl rfl d_Judge_gait_84 rfl ?_
            refine mk_iloadn (nx := 88) X 2 d_Judge_gait_87 rfl rfl ?_
            refine mk_iald (nx := 89) (j := v) X 39 0 (by decide) (sh_now cs ad _) rfl (by omega) (by omega) (by decide) rfl d_Judge_gait_88 rfl ?_
            rw [show I 39 v = dPt c t v from (hHv v (by omega) (by assumption)).2.1]
            refine mk_isub (nx := 90) X d_Judge_gait_89 rfl ?_
            refine mk_istoren (nx := 91) X [(3, .int (zi ((dNb c t v) - (dPt c t v)))), (2, .int (zi ((dPt c t v) - (dOb c t v)))), (0, .ref (ad 36)), (1, .int (zi (v : Int)))] d_Judge_gait_90 (by decide) rfl rfl ?_
            refine mk_iloadn (nx := 92) X 1 d_Judge_gait_91 rfl rfl ?_
            refine mk_callSi (nx := 95) (n := 1) (As := [.int (zi ((dPt c t v) - (dOb c t v)))]) (rest := []) X (c_Judge_isStepUp l D cs ad zt hi I ((dPt c t v) - (dOb c t v)) (by omega)) (g_Judge_isStepUp wd_524) rfl ⟨rfl, rfl⟩ (by decide +kernel) ⟨by decide, by decide⟩ rfl (Nat.le_of_ble_eq_true rfl) rfl d_Judge_gait_92 rfl ?_
            intro r92 J3 hJ3
            obtain ⟨rfl, hr92⟩ := hJ3
            refine mk_if_eq (tgt := 109) (nx := 98) X d_Judge_gait_95 (by omega) (by decide) rfl (fun c95 => ?_) (fun c95 => ?_)
            · skip
              refine mk_iconst (nx := 110) X d_Judge_gait_109 rfl ?_
              refine mk_istore (nx := 112) X [(4, .int (zi 0)), (3, .int (zi ((dNb c t v) - (dPt c t v)))), (2, .int (zi ((dPt c t v) - (dOb c t v)))), (0, .ref (ad 36)), (1, .int (zi (v : Int)))] d_Judge_gait_110 (by decide) rfl rfl ?_
              refine mk_lv [3, 4, 2, 1, 0] rfl ?_
              exact L112 0 (by omega) (by omega) (by omega) (by omega)
            · skip
              refine mk_iloadn (nx := 99) X 0 d_Judge_gait_98 rfl rfl ?_
              refine mk_callSi (nx := 102) (n := 1) (As := [.int (zi ((dNb c t v) - (dPt c t v)))]) (rest := []) X (c_Judge_isStepUp l D cs ad zt hi I ((dNb c t v) - (dPt c t v)) (by omega)) (g_Judge_isStepUp wd_524) rfl ⟨rfl, rfl⟩ (by decide +kernel) ⟨by decide, by decide⟩ rfl (Nat.le_of_ble_eq_true rfl) rfl d_Judge_gait_99 rfl ?_
              intro r99 J4 hJ4
              obtain ⟨rfl, hr99⟩ := hJ4
              refine mk_if_eq (tgt := 109) (nx := 105) X d_Judge_gait_102 (by omega) (by decide) rfl (fun c102 => ?_) (fun c102 => ?_)
              · skip
                refine mk_iconst (nx := 110) X d_Judge_gait_109 rfl ?_
                refine mk_istore (nx := 112) X [(4, .int (zi 0)), (3, .int (zi ((dNb c t v) - (dPt c t v)))), (2, .int (zi ((dPt c t v) - (dOb c t v)))), (0, .ref (ad 36)), (1, .int (zi (v : Int)))] d_Judge_gait_110 (by decide) rfl rfl ?_
                refine mk_lv [3, 4, 2, 1, 0] rfl ?_
                exact L112 0 (by omega) (by omega) (by omega) (by omega)
              · skip
                refine mk_iconst (nx := 106) X d_Judge_gait_105 rfl ?_
                refine mk_goto (tgt := 110) X d_Judge_gait_106 (by decide) ?_
                refine mk_istore (nx := 112) X [(4, .int (zi 1)), (3, .int (zi ((dNb c t v) - (dPt c t v)))), (2, .int (zi ((dPt c t v) - (dOb c t v)))), (0, .ref (ad 36)), (1, .int (zi (v : Int)))] d_Judge_gait_110 (by decide) rfl rfl ?_
                refine mk_lv [3, 4, 2, 1, 0] rfl ?_
                exact L112 1 (by omega) (by omega) (by omega) (by omega)
          · skip
            refine mk_iconst (nx := 62) X d_Judge_gait_61 rfl ?_
            exact hret _ _ _ _ d_Judge_gait_62 (by exact ⟨rfl, by unfold gai; rw [if_pos (by omega), if_neg (by omega), if_pos (by omega)]⟩)
      · skip
        refine mk_iconst (nx := 36) X d_Judge_gait_35 rfl ?_
        exact hret _ _ _ _ d_Judge_gait_36 (by exact ⟨rfl, by unfold gai; rw [if_pos (by omega), if_pos (by omega)]⟩)
  · skip
    refine mk_iconst (nx := 10) X d_Judge_gait_9 rfl ?_
    exact hret _ _ _ _ d_Judge_gait_10 (by exact ⟨rfl, by unfold gai; rw [if_neg (by omega)]⟩)

-- CanonMaker$Judge.moveAlike(II)Z
theorem d_Judge_moveAlike_0 : decode prog_3_method_15_code 0 = .ok (.aload_n 0, 1) := by decide +kernel
theorem d_Judge_moveAlike_1 : decode prog_3_method_15_code 1 = .ok (.getfield 19, 3) := by decide +kernel
theorem d_Judge_moveAlike_4 : decode prog_3_method_15_code 4 = .ok (.iload_n 1, 1) := by decide +kernel
theorem d_Judge_moveAlike_5 : decode prog_3_method_15_code 5 = .ok (.iaload, 1) := by decide +kernel
theorem d_Judge_moveAlike_6 : decode prog_3_method_15_code 6 = .ok (.aload_n 0, 1) := by decide +kernel
theorem d_Judge_moveAlike_7 : decode prog_3_method_15_code 7 = .ok (.getfield 19, 3) := by decide +kernel
theorem d_Judge_moveAlike_10 : decode prog_3_method_15_code 10 = .ok (.iload_n 2, 1) := by decide +kernel
theorem d_Judge_moveAlike_11 : decode prog_3_method_15_code 11 = .ok (.iaload, 1) := by decide +kernel
theorem d_Judge_moveAlike_12 : decode prog_3_method_15_code 12 = .ok (.isub, 1) := by decide +kernel
theorem d_Judge_moveAlike_13 : decode prog_3_method_15_code 13 = .ok (.invokestatic 154, 3) := by decide +kernel
theorem d_Judge_moveAlike_16 : decode prog_3_method_15_code 16 = .ok (.bipush 12, 2) := by decide +kernel
theorem d_Judge_moveAlike_18 : decode prog_3_method_15_code 18 = .ok (.irem, 1) := by decide +kernel
theorem d_Judge_moveAlike_19 : decode prog_3_method_15_code 19 = .ok (.istore_n 3, 1) := by decide +kernel
theorem d_Judge_moveAlike_20 : decode prog_3_method_15_code 20 = .ok (.aload_n 0, 1) := by decide +kernel
theorem d_Judge_moveAlike_21 : decode prog_3_method_15_code 21 = .ok (.getfield 15, 3) := by decide +kernel
theorem d_Judge_moveAlike_24 : decode prog_3_method_15_code 24 = .ok (.iload_n 1, 1) := by decide +kernel
theorem d_Judge_moveAlike_25 : decode prog_3_method_15_code 25 = .ok (.baload, 1) := by decide +kernel
theorem d_Judge_moveAlike_26 : decode prog_3_method_15_code 26 = .ok (.ifCond .eq 22, 3) := by decide +kernel
theorem d_Judge_moveAlike_29 : decode prog_3_method_15_code 29 = .ok (.aload_n 0, 1) := by decide +kernel
theorem d_Judge_moveAlike_30 : decode prog_3_method_15_code 30 = .ok (.getfield 15, 3) := by decide +kernel
theorem d_Judge_moveAlike_33 : decode prog_3_method_15_code 33 = .ok (.iload_n 2, 1) := by decide +kernel
theorem d_Judge_moveAlike_34 : decode prog_3_method_15_code 34 = .ok (.baload, 1) := by decide +kernel
theorem d_Judge_moveAlike_35 : decode prog_3_method_15_code 35 = .ok (.ifCond .eq 13, 3) := by decide +kernel
theorem d_Judge_moveAlike_38 : decode prog_3_method_15_code 38 = .ok (.iload_n 3, 1) := by decide +kernel
theorem d_Judge_moveAlike_39 : decode prog_3_method_15_code 39 = .ok (.ifCond .eq 11, 3) := by decide +kernel
theorem d_Judge_moveAlike_42 : decode prog_3_method_15_code 42 = .ok (.iload_n 3, 1) := by decide +kernel
theorem d_Judge_moveAlike_43 : decode prog_3_method_15_code 43 = .ok (.bipush 7, 2) := by decide +kernel
theorem d_Judge_moveAlike_45 : decode prog_3_method_15_code 45 = .ok (.if_icmp .eq 5, 3) := by decide +kernel
theorem d_Judge_moveAlike_48 : decode prog_3_method_15_code 48 = .ok (.iconst 0, 1) := by decide +kernel
theorem d_Judge_moveAlike_49 : decode prog_3_method_15_code 49 = .ok (.ireturn, 1) := by decide +kernel
theorem d_Judge_moveAlike_50 : decode prog_3_method_15_code 50 = .ok (.aload_n 0, 1) := by decide +kernel
theorem d_Judge_moveAlike_51 : decode prog_3_method_15_code 51 = .ok (.getfield 22, 3) := by decide +kernel
theorem d_Judge_moveAlike_54 : decode prog_3_method_15_code 54 = .ok (.iload_n 1, 1) := by decide +kernel
theorem d_Judge_moveAlike_55 : decode prog_3_method_15_code 55 = .ok (.iaload, 1) := by decide +kernel
theorem d_Judge_moveAlike_56 : decode prog_3_method_15_code 56 = .ok (.invokestatic 158, 3) := by decide +kernel
theorem d_Judge_moveAlike_59 : decode prog_3_method_15_code 59 = .ok (.ifCond .eq 15, 3) := by decide +kernel
theorem d_Judge_moveAlike_62 : decode prog_3_method_15_code 62 = .ok (.aload_n 0, 1) := by decide +kernel
theorem d_Judge_moveAlike_63 : decode prog_3_method_15_code 63 = .ok (.getfield 22, 3) := by decide +kernel
theorem d_Judge_moveAlike_66 : decode prog_3_method_15_code 66 = .ok (.iload_n 2, 1) := by decide +kernel
theorem d_Judge_moveAlike_67 : decode prog_3_method_15_code 67 = .ok (.iaload, 1) := by decide +kernel
theorem d_Judge_moveAlike_68 : decode prog_3_method_15_code 68 = .ok (.invokestatic 158, 3) := by decide +kernel
theorem d_Judge_moveAlike_71 : decode prog_3_method_15_code 71 = .ok (.ifCond .ne 5, 3) := by decide +kernel
theorem d_Judge_moveAlike_74 : decode prog_3_method_15_code 74 = .ok (.iconst 0, 1) := by decide +kernel
theorem d_Judge_moveAlike_75 : decode prog_3_method_15_code 75 = .ok (.ireturn, 1) := by decide +kernel
theorem d_Judge_moveAlike_76 : decode prog_3_method_15_code 76 = .ok (.aload_n 0, 1) := by decide +kernel
theorem d_Judge_moveAlike_77 : decode prog_3_method_15_code 77 = .ok (.getfield 19, 3) := by decide +kernel
theorem d_Judge_moveAlike_80 : decode prog_3_method_15_code 80 = .ok (.iload_n 1, 1) := by decide +kernel
theorem d_Judge_moveAlike_81 : decode prog_3_method_15_code 81 = .ok (.iaload, 1) := by decide +kernel
theorem d_Judge_moveAlike_82 : decode prog_3_method_15_code 82 = .ok (.aload_n 0, 1) := by decide +kernel
theorem d_Judge_moveAlike_83 : decode prog_3_method_15_code 83 = .ok (.getfield 22, 3) := by decide +kernel
theorem d_Judge_moveAlike_86 : decode prog_3_method_15_code 86 = .ok (.iload_n 1, 1) := by decide +kernel
theorem d_Judge_moveAlike_87 : decode prog_3_method_15_code 87 = .ok (.iaload, 1) := by decide +kernel
theorem d_Judge_moveAlike_88 : decode prog_3_method_15_code 88 = .ok (.if_icmp .le 18, 3) := by decide +kernel
theorem d_Judge_moveAlike_91 : decode prog_3_method_15_code 91 = .ok (.aload_n 0, 1) := by decide +kernel
theorem d_Judge_moveAlike_92 : decode prog_3_method_15_code 92 = .ok (.getfield 19, 3) := by decide +kernel
theorem d_Judge_moveAlike_95 : decode prog_3_method_15_code 95 = .ok (.iload_n 2, 1) := by decide +kernel
theorem d_Judge_moveAlike_96 : decode prog_3_method_15_code 96 = .ok (.iaload, 1) := by decide +kernel
theorem d_Judge_moveAlike_97 : decode prog_3_method_15_code 97 = .ok (.aload_n 0, 1) := by decide +kernel
theorem d_Judge_moveAlike_98 : decode prog_3_method_15_code 98 = .ok (.getfield 22, 3) := by decide +kernel
theorem d_Judge_moveAlike_101 : decode prog_3_method_15_code 101 = .ok (.iload_n 2, 1) := by decide +kernel
theorem d_Judge_moveAlike_102 : decode prog_3_method_15_code 102 = .ok (.iaload, 1) := by decide +kernel
theorem d_Judge_moveAlike_103 : decode prog_3_method_15_code 103 = .ok (.if_icmp .gt 33, 3) := by decide +kernel
theorem d_Judge_moveAlike_106 : decode prog_3_method_15_code 106 = .ok (.aload_n 0, 1) := by decide +kernel
theorem d_Judge_moveAlike_107 : decode prog_3_method_15_code 107 = .ok (.getfield 19, 3) := by decide +kernel
theorem d_Judge_moveAlike_110 : decode prog_3_method_15_code 110 = .ok (.iload_n 1, 1) := by decide +kernel
theorem d_Judge_moveAlike_111 : decode prog_3_method_15_code 111 = .ok (.iaload, 1) := by decide +kernel
theorem d_Judge_moveAlike_112 : decode prog_3_method_15_code 112 = .ok (.aload_n 0, 1) := by decide +kernel
theorem d_Judge_moveAlike_113 : decode prog_3_method_15_code 113 = .ok (.getfield 22, 3) := by decide +kernel
theorem d_Judge_moveAlike_116 : decode prog_3_method_15_code 116 = .ok (.iload_n 1, 1) := by decide +kernel
theorem d_Judge_moveAlike_117 : decode prog_3_method_15_code 117 = .ok (.iaload, 1) := by decide +kernel
theorem d_Judge_moveAlike_118 : decode prog_3_method_15_code 118 = .ok (.if_icmp .ge 22, 3) := by decide +kernel
theorem d_Judge_moveAlike_121 : decode prog_3_method_15_code 121 = .ok (.aload_n 0, 1) := by decide +kernel
theorem d_Judge_moveAlike_122 : decode prog_3_method_15_code 122 = .ok (.getfield 19, 3) := by decide +kernel
theorem d_Judge_moveAlike_125 : decode prog_3_method_15_code 125 = .ok (.iload_n 2, 1) := by decide +kernel
theorem d_Judge_moveAlike_126 : decode prog_3_method_15_code 126 = .ok (.iaload, 1) := by decide +kernel
theorem d_Judge_moveAlike_127 : decode prog_3_method_15_code 127 = .ok (.aload_n 0, 1) := by decide +kernel
theorem d_Judge_moveAlike_128 : decode prog_3_method_15_code 128 = .ok (.getfield 22, 3) := by decide +kernel
theorem d_Judge_moveAlike_131 : decode prog_3_method_15_code 131 = .ok (.iload_n 2, 1) := by decide +kernel
theorem d_Judge_moveAlike_132 : decode prog_3_method_15_code 132 = .ok (.iaload, 1) := by decide +kernel
theorem d_Judge_moveAlike_133 : decode prog_3_method_15_code 133 = .ok (.if_icmp .ge 7, 3) := by decide +kernel
theorem d_Judge_moveAlike_136 : decode prog_3_method_15_code 136 = .ok (.iconst 1, 1) := by decide +kernel
theorem d_Judge_moveAlike_137 : decode prog_3_method_15_code 137 = .ok (.goto 4, 3) := by decide +kernel
theorem d_Judge_moveAlike_140 : decode prog_3_method_15_code 140 = .ok (.iconst 0, 1) := by decide +kernel
theorem d_Judge_moveAlike_141 : decode prog_3_method_15_code 141 = .ok (.ireturn, 1) := by decide +kernel
abbrev rm_Judge_moveAlike : Room := { frames := 1, cells := 0, slots := 0, locals := 20 }
set_option maxHeartbeats 4000000 in
set_option maxRecDepth 100000 in
theorem c_Judge_moveAlike (l : Launch) (D : va_G) (cs : Nat → ClassId) (ad : Nat → Nat) (zt : Nat) (hi : cm_inj ad) (c I : Wo) (hw : wfN c) (hS : wfS c) (hV : wfV c) (t : Int) (hH : HrA c I t) (a : Nat) (ha : a < 4) (hda : ¬ dPt c t a = 1000) (b : Nat) (hb : b < 4) (hdb : ¬ dPt c t b = 1000) : cm_C l D cs ad zt y_Judge_moveAlike ws_Judge_moveAlike rm_Judge_moveAlike [.ref (ad 36), .int (zi (a : Int)), .int (zi (b : Int))] I (mk_pi (fun r J => I = J ∧ ((r = 1 ∧ mvA (dPt c t a) (dPt c t b) (dSk c t a) (dSk c t b) (dOb c t a) (dOb c t b)) ∨ (r = 0 ∧ ¬ (mvA (dPt c t a) (dPt c t b) (dSk c t a) (dSk c t b) (dOb c t a) (dOb c t b)))))) := by
  refine mk_metz (own := "CanonMaker$Judge") (Ts := wA) hi (Nat.le_refl _) (by decide) rfl (fun w h => List.mem_cons_of_mem _ h) rfl (Nat.le_of_ble_eq_true rfl) [(0, .ref (ad 36)), (1, .int (zi (a : Int))), (2, .int (zi (b : Int)))] rfl ?_
  intro p_ e_ s_ m_ as_ bl_ me_ co_ Q_ X hret
  have hHv := HrA_v hH
  have hpa := dPt_b (t := t) hw hV ha
  have hsa := dSk_b c t a
  obtain ⟨hoa, hna⟩ := dOb_b hw hV ha hda
  have hpb := dPt_b (t := t) hw hV hb
  have hsb := dSk_b c t b
  obtain ⟨hob, hnb⟩ := dOb_b hw hV hb hdb
  refine mk_aloadn (nx := 1) X 0 d_Judge_moveAlike_0 rfl rfl ?_
  refine mk_get (nx := 4) (v := .ref (ad 39)) X 36 (by decide) (sh_Judge cs ad _) rfl in_Judge 4 (by decide) wd_213 rfl rfl d_Judge_moveAlike_1 rfl ?_
  refine mk_iloadn (nx := 5) X 1 d_Judge_moveAlike_4 rfl rfl ?_
  refine mk_iald (nx := 6) (j := a) X 39 0 (by decide) (sh_now cs ad _) rfl (by omega) (by omega) (by decide) rfl d_Judge_moveAlike_5 rfl ?_
  rw [show I 39 a = dPt c t a from (hHv a (by omega) (by assumption)).2.1]
  refine mk_aloadn (nx := 7) X 0 d_Judge_moveAlike_6 rfl rfl ?_
  refine mk_get (nx := 10) (v := .ref (ad 39)) X 36 (by decide) (sh_Judge cs ad _) rfl in_Judge 4 (by decide) wd_213 rfl rfl d_Judge_moveAlike_7 rfl ?_
  refine mk_iloadn (nx := 11) X 2 d_Judge_moveAlike_10 rfl rfl ?_
  refine mk_iald (nx := 12) (j := b) X 39 0 (by decide) (sh_now cs ad _) rfl (by omega) (by omega) (by decide) rfl d_Judge_moveAlike_11 rfl ?_
  rw [show I 39 b = dPt c t b from (hHv b (by omega) (by assumption)).2.1]
  refine mk_isub (nx := 13) X d_Judge_moveAlike_12 rfl ?_
  refine mk_mabs (nx := 16) X wd_494 wd_495 wd_48 wd_496 (Nat.le_of_ble_eq_true rfl) (Nat.le_of_ble_eq_true rfl) (by omega) d_Judge_moveAlike_13 rfl ?_
  refine mk_bipush (nx := 18) X d_Judge_moveAlike_16 (by decide) rfl ?_
  refine mk_irem (nx := 19) X d_Judge_moveAlike_18 (by omega) (by omega) (by omega) rfl ?_
  refine mk_nm (fun k hk => ?_)
  have hk2 : k = gp (dPt c t a) (dPt c t b) := by rw [hk]; exact gp_tm _ _
  have hkb := gp_b (dPt c t a) (dPt c t b)
  refine mk_istoren (nx := 20) X [(3, .int (zi k)), (0, .ref (ad 36)), (1, .int (zi (a : Int))), (2, .int (zi (b : Int)))] d_Judge_moveAlike_19 (by decide) rfl rfl ?_
  refine mk_aloadn (nx := 21) X 1 d_Judge_moveAlike_20 rfl rfl ?_
  refine mk_get (nx := 24) (v := .ref (ad 38)) X 36 (by decide) (sh_Judge cs ad _) rfl in_Judge 3 (by decide) wd_212 rfl rfl d_Judge_moveAlike_21 rfl ?_
  refine mk_iloadn (nx := 25) X 2 d_Judge_moveAlike_24 rfl rfl ?_
  refine mk_zald (nx := 26) (j := a) X 38 1 (by decide) (sh_struck cs ad _) rfl (by omega) (by omega) (by decide) rfl d_Judge_moveAlike_25 rfl ?_
  rw [show I 38 a = dSk c t a from (hHv a (by omega) (by assumption)).1]
  refine mk_if_eq (tgt := 48) (nx := 29) X d_Judge_moveAlike_26 (by omega) (by decide) rfl (fun c26 => ?_) (fun c26 => ?_)
  · skip
    refine mk_iconst (nx := 49) X d_Judge_moveAlike_48 rfl ?_
    exact hret _ _ _ _ d_Judge_moveAlike_49 (by omega) (by exact ⟨rfl, by unfold mvA; rw [← hk2]; omega⟩)
  · skip
    refine mk_aloadn (nx := 30) X 1 d_Judge_moveAlike_29 rfl rfl ?_
    refine mk_get (nx := 33) (v := .ref (ad 38)) X 36 (by decide) (sh_Judge cs ad _) rfl in_Judge 3 (by decide) wd_212 rfl rfl d_Judge_moveAlike_30 rfl ?_
    refine mk_iloadn (nx := 34) X 3 d_Judge_moveAlike_33 rfl rfl ?_
    refine mk_zald (nx := 35) (j := b) X 38 1 (by decide) (sh_struck cs ad _) rfl (by omega) (by omega) (by decide) rfl d_Judge_moveAlike_34 rfl ?_
    rw [show I 38 b = dSk c t b from (hHv b (by omega) (by assumption)).1]
    refine mk_if_eq (tgt := 48) (nx := 38) X d_Judge_moveAlike_35 (by omega) (by decide) rfl (fun c35 => ?_) (fun c35 => ?_)
    · skip
      refine mk_iconst (nx := 49) X d_Judge_moveAlike_48 rfl ?_
      exact hret _ _ _ _ d_Judge_moveAlike_49 (by omega) (by exact ⟨rfl, by unfold mvA; rw [← hk2]; omega⟩)
    · skip
      refine mk_iloadn (nx := 39) X 0 d_Judge_moveAlike_38 rfl rfl ?_
      refine mk_if_eq (tgt := 50) (nx := 42) X d_Judge_moveAlike_39 (by omega) (by decide) rfl (fun c39 => ?_) (fun c39 => ?_)
      · skip
        refine mk_aloadn (nx := 51) X 1 d_Judge_moveAlike_50 rfl rfl ?_
        refine mk_get (nx := 54) (v := .ref (ad 40)) X 36 (by decide) (sh_Judge cs ad _) rfl in_Judge 5 (by decide) wd_214 rfl rfl d_Judge_moveAlike_51 rfl ?_
        refine mk_iloadn (nx := 55) X 2 d_Judge_moveAlike_54 rfl rfl ?_
        refine mk_iald (nx := 56) (j := a) X 40 0 (by decide) (sh_old cs ad _) rfl (by omega) (by omega) (by decide) rfl d_Judge_moveAlike_55 rfl ?_
        rw [show I 40 a = dOb c t a from (hHv a (by omega) (by assumption)).2.2.1]
        refine mk_callSi (nx := 59) (n := 1) (As := [.int (zi (dOb c t a))]) (rest := []) X (c_Judge_isKnown l D cs ad zt hi I (dOb c t a) (by omega)) (g_Judge_isKnown wd_497) rfl ⟨rfl, rfl⟩ (by decide +kernel) ⟨by decide, by decide⟩ rfl (Nat.le_of_ble_eq_true rfl) rfl d_Judge_moveAlike_56 rfl ?_
        intro r56 J1 hJ1
        obtain ⟨rfl, hr56⟩ := hJ1
        refine mk_if_eq (tgt := 74) (nx := 62) X d_Judge_moveAlike_59 (by omega) (by decide) rfl (fun c59 => ?_) (fun c59 => ?_)
        · skip
          refine mk_iconst (nx := 75) X d_Judge_moveAlike_74 rfl ?_
          exact hret _ _ _ _ d_Judge_moveAlike_75 (by omega) (by exact ⟨rfl, by unfold mvA; rw [← hk2]; omega⟩)
        · skip
          refine mk_aloadn (nx := 63) X 1 d_Judge_moveAlike_62 rfl rfl ?_
          refine mk_get (nx := 66) (v := .ref (ad 40)) X 36 (by decide) (sh_Judge cs ad _) rfl in_Judge 5 (by decide) wd_214 rfl rfl d_Judge_moveAlike_63 rfl ?_
          refine mk_iloadn (nx := 67) X 3 d_Judge_moveAlike_66 rfl rfl ?_
          refine mk_iald (nx := 68) (j := b) X 40 0 (by decide) (sh_old cs ad _) rfl (by omega) (by omega) (by decide) rfl d_Judge_moveAlike_67 rfl ?_
          rw [show I 40 b = dOb c t b from (hHv b (by omega) (by assumption)).2.2.1]
          refine mk_callSi (nx := 71) (n := 1) (As := [.int (zi (dOb c t b))]) (rest := []) X (c_Judge_isKnown l D cs ad zt hi I (dOb c t b) (by omega)) (g_Judge_isKnown wd_497) rfl ⟨rfl, rfl⟩ (by decide +kernel) ⟨by decide, by decide⟩ rfl (Nat.le_of_ble_eq_true rfl) rfl d_Judge_moveAlike_68 rfl ?_
          intro r68 J2 hJ2
          obtain ⟨rfl, hr68⟩ := hJ2
          refine mk_if_ne (tgt := 76) (nx := 74) X d_Judge_moveAlike_71 (by omega) (by decide) rfl (fun c71 => ?_) (fun c71 => ?_)
          · skip
            refine mk_aloadn (nx := 77) X 1 d_Judge_moveAlike_76 rfl rfl ?_
            refine mk_get (nx := 80) (v := .ref (ad 39)) X 36 (by decide) (sh_Judge cs ad _) rfl in_Judge 4 (by decide) wd_213 rfl rfl d_Judge_moveAlike_77 rfl ?_
            refine mk_iloadn (nx := 81) X 2 d_Judge_moveAlike_80 rfl rfl ?_
            refine mk_iald (nx := 82) (j := a) X 39 0 (by decide) (sh_now cs ad _) rfl (by omega) (by omega) (by decide) rfl d_Judge_moveAlike_81 rfl ?_
            rw [show I 39 a = dPt c t a from (hHv a (by omega) (by assumption)).2.1]
            refine mk_aloadn (nx := 83) X 1 d_Judge_moveAlike_82 rfl rfl ?_
            refine mk_get (nx := 86) (v := .ref (ad 40)) X 36 (by decide) (sh_Judge cs ad _) rfl in_Judge 5 (by decide) wd_214 rfl rfl d_Judge_moveAlike_83 rfl ?_
            refine mk_iloadn (nx := 87) X 2 d_Judge_moveAlike_86 rfl rfl ?_
            refine mk_iald (nx := 88) (j := a) X 40 0 (by decide) (sh_old cs ad _) rfl (by omega) (by omega) (by decide) rfl d_Judge_moveAlike_87 rfl ?_
            rw [show I 40 a = dOb c t a from (hHv a (by omega) (by assumption)).2.2.1]
            refine mk_icmp_le (tgt := 106) (nx := 91) X d_Judge_moveAlike_88 (by omega) (by omega) (by decide) rfl (fun c88 => ?_) (fun c88 => ?_)
            · skip
              refine mk_aloadn (nx := 107) X 1 d_Judge_moveAlike_106 rfl rfl ?_
              refine mk_get (nx := 110) (v := .ref (ad 39)) X 36 (by decide) (sh_Judge cs ad _) rfl in_Judge 4 (by decide) wd_213 rfl rfl d_Judge_moveAlike_107 rfl ?_
              refine mk_iloadn (nx := 111) X 2 d_Judge_moveAlike_110 rfl rfl ?_
              refine mk_iald (nx := 112) (j := a) X 39 0 (by decide) (sh_now cs ad _) rfl (by omega) (by omega) (by decide) rfl d_Judge_moveAlike_111 rfl ?_
              rw [show I 39 a = dPt c t a from (hHv a (by omega) (by assumption)).2.1]
              refine mk_aloadn (nx := 113) X 1 d_Judge_moveAlike_112 rfl rfl ?_
              refine mk_get (nx := 116) (v := .ref (ad 40)) X 36 (by decide) (sh_Judge cs ad _) rfl in_Judge 5 (by decide) wd_214 rfl rfl d_Judge_moveAlike_113 rfl ?_
              refine mk_iloadn (nx := 117) X 2 d_Judge_moveAlike_116 rfl rfl ?_
              refine mk_iald (nx := 118) (j := a) X 40 0 (by decide) (sh_old cs ad _) rfl (by omega) (by omega) (by decide) rfl d_Judge_moveAlike_117 rfl ?_
              rw [show I 40 a = dOb c t a from (hHv a (by omega) (by assumption)).2.2.1]
              refine mk_icmp_ge (tgt := 140) (nx := 121) X d_Judge_moveAlike_118 (by omega) (by omega) (by decide) rfl (fun c118 => ?_) (fun c118 => ?_)
              · skip
                refine mk_iconst (nx := 141) X d_Judge_moveAlike_140 rfl ?_
                exact hret _ _ _ _ d_Judge_moveAlike_141 (by omega) (by exact ⟨rfl, by unfold mvA; rw [← hk2]; omega⟩)
              · skip
                refine mk_aloadn (nx := 122) X 1 d_Judge_moveAlike_121 rfl rfl ?_
                refine mk_get (nx := 125) (v := .ref (ad 39)) X 36 (by decide) (sh_Judge cs ad _) rfl in_Judge 4 (by decide) wd_213 rfl rfl d_Judge_moveAlike_122 rfl ?_
                refine mk_iloadn (nx := 126) X 3 d_Judge_moveAlike_125 rfl rfl ?_
                refine mk_iald (nx := 127) (j := b) X 39 0 (by decide) (sh_now cs ad _) rfl (by omega) (by omega) (by decide) rfl d_Judge_moveAlike_126 rfl ?_
                rw [show I 39 b = dPt c t b from (hHv b (by omega) (by assumption)).2.1]
                refine mk_aloadn (nx := 128) X 1 d_Judge_moveAlike_127 rfl rfl ?_
                refine mk_get (nx := 131) (v := .ref (ad 40)) X 36 (by decide) (sh_Judge cs ad _) rfl in_Judge 5 (by decide) wd_214 rfl rfl d_Judge_moveAlike_128 rfl ?_
                refine mk_iloadn (nx := 132) X 3 d_Judge_moveAlike_131 rfl rfl ?_
                refine mk_iald (nx := 133) (j := b) X 40 0 (by decide) (sh_old cs ad _) rfl (by omega) (by omega) (by decide) rfl d_Judge_moveAlike_132 rfl ?_
                rw [show I 40 b = dOb c t b from (hHv b (by omega) (by assumption)).2.2.1]
                refine mk_icmp_ge (tgt := 140) (nx := 136) X d_Judge_moveAlike_133 (by omega) (by omega) (by decide) rfl (fun c133 => ?_) (fun c133 => ?_)
                · skip
                  refine mk_iconst (nx := 141) X d_Judge_moveAlike_140 rfl ?_
                  exact hret _ _ _ _ d_Judge_moveAlike_141 (by omega) (by exact ⟨rfl, by unfold mvA; rw [← hk2]; omega⟩)
                · skip
                  refine mk_iconst (nx := 137) X d_Judge_moveAlike_136 rfl ?_
                  refine mk_goto (tgt := 141) X d_Judge_moveAlike_137 (by decide) ?_
                  exact hret _ _ _ _ d_Judge_moveAlike_141 (by omega) (by exact ⟨rfl, by unfold mvA; rw [← hk2]; omega⟩)
            · skip
              refine mk_aloadn (nx := 92) X 1 d_Judge_moveAlike_91 rfl rfl ?_
              refine mk_get (nx := 95) (v := .ref (ad 39)) X 36 (by decide) (sh_Judge cs ad _) rfl in_Judge 4 (by decide) wd_213 rfl rfl d_Judge_moveAlike_92 rfl ?_
              refine mk_iloadn (nx := 96) X 3 d_Judge_moveAlike_95 rfl rfl ?_
              refine mk_iald (nx := 97) (j := b) X 39 0 (by decide) (sh_now cs ad _) rfl (by omega) (by omega) (by decide) rfl d_Judge_moveAlike_96 rfl ?_
              rw [show I 39 b = dPt c t b from (hHv b (by omega) (by assumption)).2.1]
              refine mk_aloadn (nx := 98) X 1 d_Judge_moveAlike_97 rfl rfl ?_
              refine mk_get (nx := 101) (v := .ref (ad 40)) X 36 (by decide) (sh_Judge cs ad _) rfl in_Judge 5 (by decide) wd_214 rfl rfl d_Judge_moveAlike_98 rfl ?_
              refine mk_iloadn (nx := 102) X 3 d_Judge_moveAlike_101 rfl rfl ?_
              refine mk_iald (nx := 103) (j := b) X 40 0 (by decide) (sh_old cs ad _) rfl (by omega) (by omega) (by decide) rfl d_Judge_moveAlike_102 rfl ?_
              rw [show I 40 b = dOb c t b from (hHv b (by omega) (by assumption)).2.2.1]
              refine mk_icmp_gt (tgt := 136) (nx := 106) X d_Judge_moveAlike_103 (by omega) (by omega) (by decide) rfl (fun c103 => ?_) (fun c103 => ?_)
              · skip
                refine mk_iconst (nx := 137) X d_Judge_moveAlike_136 rfl ?_
                refine mk_goto (tgt := 141) X d_Judge_moveAlike_137 (by decide) ?_
                exact hret _ _ _ _ d_Judge_moveAlike_141 (by omega) (by exact ⟨rfl, by unfold mvA; rw [← hk2]; omega⟩)
              · skip
                refine mk_aloadn (nx := 107) X 1 d_Judge_moveAlike_106 rfl rfl ?_
                refine mk_get (nx := 110) (v := .ref (ad 39)) X 36 (by decide) (sh_Judge cs ad _) rfl in_Judge 4 (by decide) wd_213 rfl rfl d_Judge_moveAlike_107 rfl ?_
                refine mk_iloadn (nx := 111) X 2 d_Judge_moveAlike_110 rfl rfl ?_
                refine mk_iald (nx := 112) (j := a) X 39 0 (by decide) (sh_now cs ad _) rfl (by omega) (by omega) (by decide) rfl d_Judge_moveAlike_111 rfl ?_
                rw [show I 39 a = dPt c t a from (hHv a (by omega) (by assumption)).2.1]
                refine mk_aloadn (nx := 113) X 1 d_Judge_moveAlike_112 rfl rfl ?_
                refine mk_get (nx := 116) (v := .ref (ad 40)) X 36 (by decide) (sh_Judge cs ad _) rfl in_Judge 5 (by decide) wd_214 rfl rfl d_Judge_moveAlike_113 rfl ?_
                refine mk_iloadn (nx := 117) X 2 d_Judge_moveAlike_116 rfl rfl ?_
                refine mk_iald (nx := 118) (j := a) X 40 0 (by decide) (sh_old cs ad _) rfl (by omega) (by omega) (by decide) rfl d_Judge_moveAlike_117 rfl ?_
                rw [show I 40 a = dOb c t a from (hHv a (by omega) (by assumption)).2.2.1]
                refine mk_icmp_ge (tgt := 140) (nx := 121) X d_Judge_moveAlike_118 (by omega) (by omega) (by decide) rfl (fun c118 => ?_) (fun c118 => ?_)
                · skip
                  refine mk_iconst (nx := 141) X d_Judge_moveAlike_140 rfl ?_
                  exact hret _ _ _ _ d_Judge_moveAlike_141 (by omega) (by exact ⟨rfl, by unfold mvA; rw [← hk2]; omega⟩)
                · skip
                  refine mk_aloadn (nx := 122) X 1 d_Judge_moveAlike_121 rfl rfl ?_
                  refine mk_get (nx := 125) (v := .ref (ad 39)) X 36 (by decide) (sh_Judge cs ad _) rfl in_Judge 4 (by decide) wd_213 rfl rfl d_Judge_moveAlike_122 rfl ?_
                  refine mk_iloadn (nx := 126) X 3 d_Judge_moveAlike_125 rfl rfl ?_
                  refine mk_iald (nx := 127) (j := b) X 39 0 (by decide) (sh_now cs ad _) rfl (by omega) (by omega) (by decide) rfl d_Judge_moveAlike_126 rfl ?_
                  rw [show I 39 b = dPt c t b from (hHv b (by omega) (by assumption)).2.1]
                  refine mk_aloadn (nx := 128) X 1 d_Judge_moveAlike_127 rfl rfl ?_
                  refine mk_get (nx := 131) (v := .ref (ad 40)) X 36 (by decide) (sh_Judge cs ad _) rfl in_Judge 5 (by decide) wd_214 rfl rfl d_Judge_moveAlike_128 rfl ?_
                  refine mk_iloadn (nx := 132) X 3 d_Judge_moveAlike_131 rfl rfl ?_
                  refine mk_iald (nx := 133) (j := b) X 40 0 (by decide) (sh_old cs ad _) rfl (by omega) (by omega) (by decide) rfl d_Judge_moveAlike_132 rfl ?_
                  rw [show I 40 b = dOb c t b from (hHv b (by omega) (by assumption)).2.2.1]
                  refine mk_icmp_ge (tgt := 140) (nx := 136) X d_Judge_moveAlike_133 (by omega) (by omega) (by decide) rfl (fun c133 => ?_) (fun c133 => ?_)
                  · skip
                    refine mk_iconst (nx := 141) X d_Judge_moveAlike_140 rfl ?_
                    exact hret _ _ _ _ d_Judge_moveAlike_141 (by omega) (by exact ⟨rfl, by unfold mvA; rw [← hk2]; omega⟩)
                  · skip
                    refine mk_iconst (nx := 137) X d_Judge_moveAlike_136 rfl ?_
                    refine mk_goto (tgt := 141) X d_Judge_moveAlike_137 (by decide) ?_
                    exact hret _ _ _ _ d_Judge_moveAlike_141 (by omega) (by exact ⟨rfl, by unfold mvA; rw [← hk2]; omega⟩)
          · skip
            refine mk_iconst (nx := 75) X d_Judge_moveAlike_74 rfl ?_
            exact hret _ _ _ _ d_Judge_moveAlike_75 (by omega) (by exact ⟨rfl, by unfold mvA; rw [← hk2]; omega⟩)
      · skip
        refine mk_iloadn (nx := 43) X 0 d_Judge_moveAlike_42 rfl rfl ?_
        refine mk_bipush (nx := 45) X d_Judge_moveAlike_43 (by decide) rfl ?_
        refine mk_icmp_eq (tgt := 50) (nx := 48) X d_Judge_moveAlike_45 (by omega) (by omega) (by decide) rfl (fun c45 => ?_) (fun c45 => ?_)
        · skip
          refine mk_aloadn (nx := 51) X 1 d_Judge_moveAlike_50 rfl rfl ?_
          refine mk_get (nx := 54) (v := .ref (ad 40)) X 36 (by decide) (sh_Judge cs ad _) rfl in_Judge 5 (by decide) wd_214 rfl rfl d_Judge_moveAlike_51 rfl ?_
          refine mk_iloadn (nx := 55) X 2 d_Judge_moveAlike_54 rfl rfl ?_
          refine mk_iald (nx := 56) (j := a) X 40 0 (by decide) (sh_old cs ad _) rfl (by omega) (by omega) (by decide) rfl d_Judge_moveAlike_55 rfl ?_
          rw [show I 40 a = dOb c t a from (hHv a (by omega) (by assumption)).2.2.1]
          refine mk_callSi (nx := 59) (n := 1) (As := [.int (zi (dOb c t a))]) (rest := []) X (c_Judge_isKnown l D cs ad zt hi I (dOb c t a) (by omega)) (g_Judge_isKnown wd_497) rfl ⟨rfl, rfl⟩ (by decide +kernel) ⟨by decide, by decide⟩ rfl (Nat.le_of_ble_eq_true rfl) rfl d_Judge_moveAlike_56 rfl ?_
          intro r56 J3 hJ3
          obtain ⟨rfl, hr56⟩ := hJ3
          refine mk_if_eq (tgt := 74) (nx := 62) X d_Judge_moveAlike_59 (by omega) (by decide) rfl (fun c59 => ?_) (fun c59 => ?_)
          · skip
            refine mk_iconst (nx := 75) X d_Judge_moveAlike_74 rfl ?_
            exact hret _ _ _ _ d_Judge_moveAlike_75 (by omega) (by exact ⟨rfl, by unfold mvA; rw [← hk2]; omega⟩)
          · skip
            refine mk_aloadn (nx := 63) X 1 d_Judge_moveAlike_62 rfl rfl ?_
            refine mk_get (nx := 66) (v := .ref (ad 40)) X 36 (by decide) (sh_Judge cs ad _) rfl in_Judge 5 (by decide) wd_214 rfl rfl d_Judge_moveAlike_63 rfl ?_
            refine mk_iloadn (nx := 67) X 3 d_Judge_moveAlike_66 rfl rfl ?_
            refine mk_iald (nx := 68) (j := b) X 40 0 (by decide) (sh_old cs ad _) rfl (by omega) (by omega) (by decide) rfl d_Judge_moveAlike_67 rfl ?_
            rw [show I 40 b = dOb c t b from (hHv b (by omega) (by assumption)).2.2.1]
            refine mk_callSi (nx := 71) (n := 1) (As := [.int (zi (dOb c t b))]) (rest := []) X (c_Judge_isKnown l D cs ad zt hi I (dOb c t b) (by omega)) (g_Judge_isKnown wd_497) rfl ⟨rfl, rfl⟩ (by decide +kernel) ⟨by decide, by decide⟩ rfl (Nat.le_of_ble_eq_true rfl) rfl d_Judge_moveAlike_68 rfl ?_
            intro r68 J4 hJ4
            obtain ⟨rfl, hr68⟩ := hJ4
            refine mk_if_ne (tgt := 76) (nx := 74) X d_Judge_moveAlike_71 (by omega) (by decide) rfl (fun c71 => ?_) (fun c71 => ?_)
            · skip
              refine mk_aloadn (nx := 77) X 1 d_Judge_moveAlike_76 rfl rfl ?_
              refine mk_get (nx := 80) (v := .ref (ad 39)) X 36 (by decide) (sh_Judge cs ad _) rfl in_Judge 4 (by decide) wd_213 rfl rfl d_Judge_moveAlike_77 rfl ?_
              refine mk_iloadn (nx := 81) X 2 d_Judge_moveAlike_80 rfl rfl ?_
              refine mk_iald (nx := 82) (j := a) X 39 0 (by decide) (sh_now cs ad _) rfl (by omega) (by omega) (by decide) rfl d_Judge_moveAlike_81 rfl ?_
              rw [show I 39 a = dPt c t a from (hHv a (by omega) (by assumption)).2.1]
              refine mk_aloadn (nx := 83) X 1 d_Judge_moveAlike_82 rfl rfl ?_
              refine mk_get (nx := 86) (v := .ref (ad 40)) X 36 (by decide) (sh_Judge cs ad _) rfl in_Judge 5 (by decide) wd_214 rfl rfl d_Judge_moveAlike_83 rfl ?_
              refine mk_iloadn (nx := 87) X 2 d_Judge_moveAlike_86 rfl rfl ?_
              refine mk_iald (nx := 88) (j := a) X 40 0 (by decide) (sh_old cs ad _) rfl (by omega) (by omega) (by decide) rfl d_Judge_moveAlike_87 rfl ?_
              rw [show I 40 a = dOb c t a from (hHv a (by omega) (by assumption)).2.2.1]
              refine mk_icmp_le (tgt := 106) (nx := 91) X d_Judge_moveAlike_88 (by omega) (by omega) (by decide) rfl (fun c88 => ?_) (fun c88 => ?_)
              · skip
                refine mk_aloadn (nx := 107) X 1 d_Judge_moveAlike_106 rfl rfl ?_
                refine mk_get (nx := 110) (v := .ref (ad 39)) X 36 (by decide) (sh_Judge cs ad _) rfl in_Judge 4 (by decide) wd_213 rfl rfl d_Judge_moveAlike_107 rfl ?_
                refine mk_iloadn (nx := 111) X 2 d_Judge_moveAlike_110 rfl rfl ?_
                refine mk_iald (nx := 112) (j := a) X 39 0 (by decide) (sh_now cs ad _) rfl (by omega) (by omega) (by decide) rfl d_Judge_moveAlike_111 rfl ?_
                rw [show I 39 a = dPt c t a from (hHv a (by omega) (by assumption)).2.1]
                refine mk_aloadn (nx := 113) X 1 d_Judge_moveAlike_112 rfl rfl ?_
                refine mk_get (nx := 116) (v := .ref (ad 40)) X 36 (by decide) (sh_Judge cs ad _) rfl in_Judge 5 (by decide) wd_214 rfl rfl d_Judge_moveAlike_113 rfl ?_
                refine mk_iloadn (nx := 117) X 2 d_Judge_moveAlike_116 rfl rfl ?_
                refine mk_iald (nx := 118) (j := a) X 40 0 (by decide) (sh_old cs ad _) rfl (by omega) (by omega) (by decide) rfl d_Judge_moveAlike_117 rfl ?_
                rw [show I 40 a = dOb c t a from (hHv a (by omega) (by assumption)).2.2.1]
                refine mk_icmp_ge (tgt := 140) (nx := 121) X d_Judge_moveAlike_118 (by omega) (by omega) (by decide) rfl (fun c118 => ?_) (fun c118 => ?_)
                · skip
                  refine mk_iconst (nx := 141) X d_Judge_moveAlike_140 rfl ?_
                  exact hret _ _ _ _ d_Judge_moveAlike_141 (by omega) (by exact ⟨rfl, by unfold mvA; rw [← hk2]; omega⟩)
                · skip
                  refine mk_aloadn (nx := 122) X 1 d_Judge_moveAlike_121 rfl rfl ?_
                  refine mk_get (nx := 125) (v := .ref (ad 39)) X 36 (by decide) (sh_Judge cs ad _) rfl in_Judge 4 (by decide) wd_213 rfl rfl d_Judge_moveAlike_122 rfl ?_
                  refine mk_iloadn (nx := 126) X 3 d_Judge_moveAlike_125 rfl rfl ?_
                  refine mk_iald (nx := 127) (j := b) X 39 0 (by decide) (sh_now cs ad _) rfl (by omega) (by omega) (by decide) rfl d_Judge_moveAlike_126 rfl ?_
                  rw [show I 39 b = dPt c t b from (hHv b (by omega) (by assumption)).2.1]
                  refine mk_aloadn (nx := 128) X 1 d_Judge_moveAlike_127 rfl rfl ?_
                  refine mk_get (nx := 131) (v := .ref (ad 40)) X 36 (by decide) (sh_Judge cs ad _) rfl in_Judge 5 (by decide) wd_214 rfl rfl d_Judge_moveAlike_128 rfl ?_
                  refine mk_iloadn (nx := 132) X 3 d_Judge_moveAlike_131 rfl rfl ?_
                  refine mk_iald (nx := 133) (j := b) X 40 0 (by decide) (sh_old cs ad _) rfl (by omega) (by omega) (by decide) rfl d_Judge_moveAlike_132 rfl ?_
                  rw [show I 40 b = dOb c t b from (hHv b (by omega) (by assumption)).2.2.1]
                  refine mk_icmp_ge (tgt := 140) (nx := 136) X d_Judge_moveAlike_133 (by omega) (by omega) (by decide) rfl (fun c133 => ?_) (fun c133 => ?_)
                  · skip
                    refine mk_iconst (nx := 141) X d_Judge_moveAlike_140 rfl ?_
                    exact hret _ _ _ _ d_Judge_moveAlike_141 (by omega) (by exact ⟨rfl, by unfold mvA; rw [← hk2]; omega⟩)
                  · skip
                    refine mk_iconst (nx := 137) X d_Judge_moveAlike_136 rfl ?_
                    refine mk_goto (tgt := 141) X d_Judge_moveAlike_137 (by decide) ?_
                    exact hret _ _ _ _ d_Judge_moveAlike_141 (by omega) (by exact ⟨rfl, by unfold mvA; rw [← hk2]; omega⟩)
              · skip
                refine mk_aloadn (nx := 92) X 1 d_Judge_moveAlike_91 rfl rfl ?_
                refine mk_get (nx := 95) (v := .ref (ad 39)) X 36 (by decide) (sh_Judge cs ad _) rfl in_Judge 4 (by decide) wd_213 rfl rfl d_Judge_moveAlike_92 rfl ?_
                refine mk_iloadn (nx := 96) X 3 d_Judge_moveAlike_95 rfl rfl ?_
                refine mk_iald (nx := 97) (j := b) X 39 0 (by decide) (sh_now cs ad _) rfl (by omega) (by omega) (by decide) rfl d_Judge_moveAlike_96 rfl ?_
                rw [show I 39 b = dPt c t b from (hHv b (by omega) (by assumption)).2.1]
                refine mk_aloadn (nx := 98) X 1 d_Judge_moveAlike_97 rfl rfl ?_
                refine mk_get (nx := 101) (v := .ref (ad 40)) X 36 (by decide) (sh_Judge cs ad _) rfl in_Judge 5 (by decide) wd_214 rfl rfl d_Judge_moveAlike_98 rfl ?_
                refine mk_iloadn (nx := 102) X 3 d_Judge_moveAlike_101 rfl rfl ?_
                refine mk_iald (nx := 103) (j := b) X 40 0 (by decide) (sh_old cs ad _) rfl (by omega) (by omega) (by decide) rfl d_Judge_moveAlike_102 rfl ?_
                rw [show I 40 b = dOb c t b from (hHv b (by omega) (by assumption)).2.2.1]
                refine mk_icmp_gt (tgt := 136) (nx := 106) X d_Judge_moveAlike_103 (by omega) (by omega) (by decide) rfl (fun c103 => ?_) (fun c103 => ?_)
                · skip
                  refine mk_iconst (nx := 137) X d_Judge_moveAlike_136 rfl ?_
                  refine mk_goto (tgt := 141) X d_Judge_moveAlike_137 (by decide) ?_
                  exact hret _ _ _ _ d_Judge_moveAlike_141 (by omega) (by exact ⟨rfl, by unfold mvA; rw [← hk2]; omega⟩)
                · skip
                  refine mk_aloadn (nx := 107) X 1 d_Judge_moveAlike_106 rfl rfl ?_
                  refine mk_get (nx := 110) (v := .ref (ad 39)) X 36 (by decide) (sh_Judge cs ad _) rfl in_Judge 4 (by decide) wd_213 rfl rfl d_Judge_moveAlike_107 rfl ?_
                  refine mk_iloadn (nx := 111) X 2 d_Judge_moveAlike_110 rfl rfl ?_
                  refine mk_iald (nx := 112) (j := a) X 39 0 (by decide) (sh_now cs ad _) rfl (by omega) (by omega) (by decide) rfl d_Judge_moveAlike_111 rfl ?_
                  rw [show I 39 a = dPt c t a from (hHv a (by omega) (by assumption)).2.1]
                  refine mk_aloadn (nx := 113) X 1 d_Judge_moveAlike_112 rfl rfl ?_
                  refine mk_get (nx := 116) (v := .ref (ad 40)) X 36 (by decide) (sh_Judge cs ad _) rfl in_Judge 5 (by decide) wd_214 rfl rfl d_Judge_moveAlike_113 rfl ?_
                  refine mk_iloadn (nx := 117) X 2 d_Judge_moveAlike_116 rfl rfl ?_
                  refine mk_iald (nx := 118) (j := a) X 40 0 (by decide) (sh_old cs ad _) rfl (by omega) (by omega) (by decide) rfl d_Judge_moveAlike_117 rfl ?_
                  rw [show I 40 a = dOb c t a from (hHv a (by omega) (by assumption)).2.2.1]
                  refine mk_icmp_ge (tgt := 140) (nx := 121) X d_Judge_moveAlike_118 (by omega) (by omega) (by decide) rfl (fun c118 => ?_) (fun c118 => ?_)
                  · skip
                    refine mk_iconst (nx := 141) X d_Judge_moveAlike_140 rfl ?_
                    exact hret _ _ _ _ d_Judge_moveAlike_141 (by omega) (by exact ⟨rfl, by unfold mvA; rw [← hk2]; omega⟩)
                  · skip
                    refine mk_aloadn (nx := 122) X 1 d_Judge_moveAlike_121 rfl rfl ?_
                    refine mk_get (nx := 125) (v := .ref (ad 39)) X 36 (by decide) (sh_Judge cs ad _) rfl in_Judge 4 (by decide) wd_213 rfl rfl d_Judge_moveAlike_122 rfl ?_
                    refine mk_iloadn (nx := 126) X 3 d_Judge_moveAlike_125 rfl rfl ?_
                    refine mk_iald (nx := 127) (j := b) X 39 0 (by decide) (sh_now cs ad _) rfl (by omega) (by omega) (by decide) rfl d_Judge_moveAlike_126 rfl ?_
                    rw [show I 39 b = dPt c t b from (hHv b (by omega) (by assumption)).2.1]
                    refine mk_aloadn (nx := 128) X 1 d_Judge_moveAlike_127 rfl rfl ?_
                    refine mk_get (nx := 131) (v := .ref (ad 40)) X 36 (by decide) (sh_Judge cs ad _) rfl in_Judge 5 (by decide) wd_214 rfl rfl d_Judge_moveAlike_128 rfl ?_
                    refine mk_iloadn (nx := 132) X 3 d_Judge_moveAlike_131 rfl rfl ?_
                    refine mk_iald (nx := 133) (j := b) X 40 0 (by decide) (sh_old cs ad _) rfl (by omega) (by omega) (by decide) rfl d_Judge_moveAlike_132 rfl ?_
                    rw [show I 40 b = dOb c t b from (hHv b (by omega) (by assumption)).2.2.1]
                    refine mk_icmp_ge (tgt := 140) (nx := 136) X d_Judge_moveAlike_133 (by omega) (by omega) (by decide) rfl (fun c133 => ?_) (fun c133 => ?_)
                    · skip
                      refine mk_iconst (nx := 141) X d_Judge_moveAlike_140 rfl ?_
                      exact hret _ _ _ _ d_Judge_moveAlike_141 (by omega) (by exact ⟨rfl, by unfold mvA; rw [← hk2]; omega⟩)
                    · skip
                      refine mk_iconst (nx := 137) X d_Judge_moveAlike_136 rfl ?_
                      refine mk_goto (tgt := 141) X d_Judge_moveAlike_137 (by decide) ?_
                      exact hret _ _ _ _ d_Judge_moveAlike_141 (by omega) (by exact ⟨rfl, by unfold mvA; rw [← hk2]; omega⟩)
            · skip
              refine mk_iconst (nx := 75) X d_Judge_moveAlike_74 rfl ?_
              exact hret _ _ _ _ d_Judge_moveAlike_75 (by omega) (by exact ⟨rfl, by unfold mvA; rw [← hk2]; omega⟩)
        · skip
          refine mk_iconst (nx := 49) X d_Judge_moveAlike_48 rfl ?_
          exact hret _ _ _ _ d_Judge_moveAlike_49 (by omega) (by exact ⟨rfl, by unfold mvA; rw [← hk2]; omega⟩)

-- CanonMaker$Judge.changeDistance(II)Z
theorem d_Judge_changeDistance_0 : decode prog_3_method_16_code 0 = .ok (.aload_n 0, 1) := by decide +kernel
theorem d_Judge_changeDistance_1 : decode prog_3_method_16_code 1 = .ok (.getfield 19, 3) := by decide +kernel
theorem d_Judge_changeDistance_4 : decode prog_3_method_16_code 4 = .ok (.iload_n 1, 1) := by decide +kernel
theorem d_Judge_changeDistance_5 : decode prog_3_method_16_code 5 = .ok (.iaload, 1) := by decide +kernel
theorem d_Judge_changeDistance_6 : decode prog_3_method_16_code 6 = .ok (.aload_n 0, 1) := by decide +kernel
theorem d_Judge_changeDistance_7 : decode prog_3_method_16_code 7 = .ok (.getfield 19, 3) := by decide +kernel
theorem d_Judge_changeDistance_10 : decode prog_3_method_16_code 10 = .ok (.iload_n 2, 1) := by decide +kernel
theorem d_Judge_changeDistance_11 : decode prog_3_method_16_code 11 = .ok (.iaload, 1) := by decide +kernel
theorem d_Judge_changeDistance_12 : decode prog_3_method_16_code 12 = .ok (.isub, 1) := by decide +kernel
theorem d_Judge_changeDistance_13 : decode prog_3_method_16_code 13 = .ok (.invokestatic 154, 3) := by decide +kernel
theorem d_Judge_changeDistance_16 : decode prog_3_method_16_code 16 = .ok (.bipush 12, 2) := by decide +kernel
theorem d_Judge_changeDistance_18 : decode prog_3_method_16_code 18 = .ok (.irem, 1) := by decide +kernel
theorem d_Judge_changeDistance_19 : decode prog_3_method_16_code 19 = .ok (.istore_n 3, 1) := by decide +kernel
theorem d_Judge_changeDistance_20 : decode prog_3_method_16_code 20 = .ok (.iload_n 3, 1) := by decide +kernel
theorem d_Judge_changeDistance_21 : decode prog_3_method_16_code 21 = .ok (.aload_n 0, 1) := by decide +kernel
theorem d_Judge_changeDistance_22 : decode prog_3_method_16_code 22 = .ok (.getfield 22, 3) := by decide +kernel
theorem d_Judge_changeDistance_25 : decode prog_3_method_16_code 25 = .ok (.iload_n 1, 1) := by decide +kernel
theorem d_Judge_changeDistance_26 : decode prog_3_method_16_code 26 = .ok (.iaload, 1) := by decide +kernel
theorem d_Judge_changeDistance_27 : decode prog_3_method_16_code 27 = .ok (.aload_n 0, 1) := by decide +kernel
theorem d_Judge_changeDistance_28 : decode prog_3_method_16_code 28 = .ok (.getfield 22, 3) := by decide +kernel
theorem d_Judge_changeDistance_31 : decode prog_3_method_16_code 31 = .ok (.iload_n 2, 1) := by decide +kernel
theorem d_Judge_changeDistance_32 : decode prog_3_method_16_code 32 = .ok (.iaload, 1) := by decide +kernel
theorem d_Judge_changeDistance_33 : decode prog_3_method_16_code 33 = .ok (.isub, 1) := by decide +kernel
theorem d_Judge_changeDistance_34 : decode prog_3_method_16_code 34 = .ok (.invokestatic 154, 3) := by decide +kernel
theorem d_Judge_changeDistance_37 : decode prog_3_method_16_code 37 = .ok (.bipush 12, 2) := by decide +kernel
theorem d_Judge_changeDistance_39 : decode prog_3_method_16_code 39 = .ok (.irem, 1) := by decide +kernel
theorem d_Judge_changeDistance_40 : decode prog_3_method_16_code 40 = .ok (.if_icmp .eq 7, 3) := by decide +kernel
theorem d_Judge_changeDistance_43 : decode prog_3_method_16_code 43 = .ok (.iconst 1, 1) := by decide +kernel
theorem d_Judge_changeDistance_44 : decode prog_3_method_16_code 44 = .ok (.goto 4, 3) := by decide +kernel
theorem d_Judge_changeDistance_47 : decode prog_3_method_16_code 47 = .ok (.iconst 0, 1) := by decide +kernel
theorem d_Judge_changeDistance_48 : decode prog_3_method_16_code 48 = .ok (.ireturn, 1) := by decide +kernel
abbrev rm_Judge_changeDistance : Room := { frames := 1, cells := 0, slots := 0, locals := 20 }
set_option maxHeartbeats 4000000 in
set_option maxRecDepth 100000 in
theorem c_Judge_changeDistance (l : Launch) (D : va_G) (cs : Nat → ClassId) (ad : Nat → Nat) (zt : Nat) (hi : cm_inj ad) (c I : Wo) (hw : wfN c) (hS : wfS c) (hV : wfV c) (t : Int) (hH : HrA c I t) (a : Nat) (ha : a < 4) (hda : ¬ dPt c t a = 1000) (b : Nat) (hb : b < 4) (hdb : ¬ dPt c t b = 1000) : cm_C l D cs ad zt y_Judge_changeDistance ws_Judge_changeDistance rm_Judge_changeDistance [.ref (ad 36), .int (zi (a : Int)), .int (zi (b : Int))] I (mk_pi (fun r J => I = J ∧ ((r = 1 ∧ ¬ gp (dPt c t a) (dPt c t b) = gp (dOb c t a) (dOb c t b)) ∨ (r = 0 ∧ ¬ (¬ gp (dPt c t a) (dPt c t b) = gp (dOb c t a) (dOb c t b)))))) := by
  refine mk_metz (own := "CanonMaker$Judge") (Ts := wA) hi (Nat.le_refl _) (by decide) rfl (fun w h => List.mem_cons_of_mem _ h) rfl (Nat.le_of_ble_eq_true rfl) [(0, .ref (ad 36)), (1, .int (zi (a : Int))), (2, .int (zi (b : Int)))] rfl ?_
  intro p_ e_ s_ m_ as_ bl_ me_ co_ Q_ X hret
  have hHv := HrA_v hH
  have hpa := dPt_b (t := t) hw hV ha
  have hsa := dSk_b c t a
  obtain ⟨hoa, hna⟩ := dOb_b hw hV ha hda
  have hpb := dPt_b (t := t) hw hV hb
  have hsb := dSk_b c t b
  obtain ⟨hob, hnb⟩ := dOb_b hw hV hb hdb
  refine mk_aloadn (nx := 1) X 0 d_Judge_changeDistance_0 rfl rfl ?_
  refine mk_get (nx := 4) (v := .ref (ad 39)) X 36 (by decide) (sh_Judge cs ad _) rfl in_Judge 4 (by decide) wd_213 rfl rfl d_Judge_changeDistance_1 rfl ?_
  refine mk_iloadn (nx := 5) X 1 d_Judge_changeDistance_4 rfl rfl ?_
  refine mk_iald (nx := 6) (j := a) X 39 0 (by decide) (sh_now cs ad _) rfl (by omega) (by omega) (by decide) rfl d_Judge_changeDistance_5 rfl ?_
  rw [show I 39 a = dPt c t a from (hHv a (by omega) (by assumption)).2.1]
  refine mk_aloadn (nx := 7) X 0 d_Judge_changeDistance_6 rfl rfl ?_
  refine mk_get (nx := 10) (v := .ref (ad 39)) X 36 (by decide) (sh_Judge cs ad _) rfl in_Judge 4 (by decide) wd_213 rfl rfl d_Judge_changeDistance_7 rfl ?_
  refine mk_iloadn (nx := 11) X 2 d_Judge_changeDistance_10 rfl rfl ?_
  refine mk_iald (nx := 12) (j := b) X 39 0 (by decide) (sh_now cs ad _) rfl (by omega) (by omega) (by decide) rfl d_Judge_changeDistance_11 rfl ?_
  rw [show I 39 b = dPt c t b from (hHv b (by omega) (by assumption)).2.1]
  refine mk_isub (nx := 13) X d_Judge_changeDistance_12 rfl ?_
  refine mk_mabs (nx := 16) X wd_494 wd_495 wd_48 wd_496 (Nat.le_of_ble_eq_true rfl) (Nat.le_of_ble_eq_true rfl) (by omega) d_Judge_changeDistance_13 rfl ?_
  refine mk_bipush (nx := 18) X d_Judge_changeDistance_16 (by decide) rfl ?_
  refine mk_irem (nx := 19) X d_Judge_changeDistance_18 (by omega) (by omega) (by omega) rfl ?_
  refine mk_nm (fun k hk => ?_)
  have hk4 : k = gp (dPt c t a) (dPt c t b) := by rw [hk]; exact gp_tm _ _
  have hkb := gp_b (dPt c t a) (dPt c t b)
  refine mk_istoren (nx := 20) X [(3, .int (zi k)), (0, .ref (ad 36)), (1, .int (zi (a : Int))), (2, .int (zi (b : Int)))] d_Judge_changeDistance_19 (by decide) rfl rfl ?_
  refine mk_iloadn (nx := 21) X 0 d_Judge_changeDistance_20 rfl rfl ?_
  refine mk_aloadn (nx := 22) X 1 d_Judge_changeDistance_21 rfl rfl ?_
  refine mk_get (nx := 25) (v := .ref (ad 40)) X 36 (by decide) (sh_Judge cs ad _) rfl in_Judge 5 (by decide) wd_214 rfl rfl d_Judge_changeDistance_22 rfl ?_
  refine mk_iloadn (nx := 26) X 2 d_Judge_changeDistance_25 rfl rfl ?_
  refine mk_iald (nx := 27) (j := a) X 40 0 (by decide) (sh_old cs ad _) rfl (by omega) (by omega) (by decide) rfl d_Judge_changeDistance_26 rfl ?_
  rw [show I 40 a = dOb c t a from (hHv a (by omega) (by assumption)).2.2.1]
  refine mk_aloadn (nx := 28) X 1 d_Judge_changeDistance_27 rfl rfl ?_
  refine mk_get (nx := 31) (v := .ref (ad 40)) X 36 (by decide) (sh_Judge cs ad _) rfl in_Judge 5 (by decide) wd_214 rfl rfl d_Judge_changeDistance_28 rfl ?_
  refine mk_iloadn (nx := 32) X 3 d_Judge_changeDistance_31 rfl rfl ?_
  refine mk_iald (nx := 33) (j := b) X 40 0 (by decide) (sh_old cs ad _) rfl (by omega) (by omega) (by decide) rfl d_Judge_changeDistance_32 rfl ?_
  rw [show I 40 b = dOb c t b from (hHv b (by omega) (by assumption)).2.2.1]
  refine mk_isub (nx := 34) X d_Judge_changeDistance_33 rfl ?_
  refine mk_mabs (nx := 37) X wd_494 wd_495 wd_48 wd_496 (Nat.le_of_ble_eq_true rfl) (Nat.le_of_ble_eq_true rfl) (by omega) d_Judge_changeDistance_34 rfl ?_
  refine mk_bipush (nx := 39) X d_Judge_changeDistance_37 (by decide) rfl ?_
  refine mk_irem (nx := 40) X d_Judge_changeDistance_39 (by omega) (by omega) (by omega) rfl ?_
  refine mk_nm (fun k2 hk2 => ?_)
  have hk3 : k2 = gp (dOb c t a) (dOb c t b) := by rw [hk2]; exact gp_tm _ _
  have hkb2 := gp_b (dOb c t a) (dOb c t b)
  refine mk_icmp_eq (tgt := 47) (nx := 43) X d_Judge_changeDistance_40 (by omega) (by omega) (by decide) rfl (fun c40 => ?_) (fun c40 => ?_)
  · skip
    refine mk_iconst (nx := 48) X d_Judge_changeDistance_47 rfl ?_
    exact hret _ _ _ _ d_Judge_changeDistance_48 (by omega) (by exact ⟨rfl, by omega⟩)
  · skip
    refine mk_iconst (nx := 44) X d_Judge_changeDistance_43 rfl ?_
    refine mk_goto (tgt := 48) X d_Judge_changeDistance_44 (by decide) ?_
    exact hret _ _ _ _ d_Judge_changeDistance_48 (by omega) (by exact ⟨rfl, by omega⟩)

-- CanonMaker$Judge.upperJumps(II)Z
theorem d_Judge_upperJumps_0 : decode prog_3_method_17_code 0 = .ok (.aload_n 0, 1) := by decide +kernel
theorem d_Judge_upperJumps_1 : decode prog_3_method_17_code 1 = .ok (.getfield 19, 3) := by decide +kernel
theorem d_Judge_upperJumps_4 : decode prog_3_method_17_code 4 = .ok (.iload_n 2, 1) := by decide +kernel
theorem d_Judge_upperJumps_5 : decode prog_3_method_17_code 5 = .ok (.iaload, 1) := by decide +kernel
theorem d_Judge_upperJumps_6 : decode prog_3_method_17_code 6 = .ok (.aload_n 0, 1) := by decide +kernel
theorem d_Judge_upperJumps_7 : decode prog_3_method_17_code 7 = .ok (.getfield 19, 3) := by decide +kernel
theorem d_Judge_upperJumps_10 : decode prog_3_method_17_code 10 = .ok (.iload_n 1, 1) := by decide +kernel
theorem d_Judge_upperJumps_11 : decode prog_3_method_17_code 11 = .ok (.iaload, 1) := by decide +kernel
theorem d_Judge_upperJumps_12 : decode prog_3_method_17_code 12 = .ok (.if_icmp .le 7, 3) := by decide +kernel
theorem d_Judge_upperJumps_15 : decode prog_3_method_17_code 15 = .ok (.iload_n 2, 1) := by decide +kernel
theorem d_Judge_upperJumps_16 : decode prog_3_method_17_code 16 = .ok (.goto 4, 3) := by decide +kernel
theorem d_Judge_upperJumps_19 : decode prog_3_method_17_code 19 = .ok (.iload_n 1, 1) := by decide +kernel
theorem d_Judge_upperJumps_20 : decode prog_3_method_17_code 20 = .ok (.istore_n 3, 1) := by decide +kernel
theorem d_Judge_upperJumps_21 : decode prog_3_method_17_code 21 = .ok (.aload_n 0, 1) := by decide +kernel
theorem d_Judge_upperJumps_22 : decode prog_3_method_17_code 22 = .ok (.getfield 19, 3) := by decide +kernel
theorem d_Judge_upperJumps_25 : decode prog_3_method_17_code 25 = .ok (.iload_n 3, 1) := by decide +kernel
theorem d_Judge_upperJumps_26 : decode prog_3_method_17_code 26 = .ok (.iaload, 1) := by decide +kernel
theorem d_Judge_upperJumps_27 : decode prog_3_method_17_code 27 = .ok (.aload_n 0, 1) := by decide +kernel
theorem d_Judge_upperJumps_28 : decode prog_3_method_17_code 28 = .ok (.getfield 22, 3) := by decide +kernel
theorem d_Judge_upperJumps_31 : decode prog_3_method_17_code 31 = .ok (.iload_n 3, 1) := by decide +kernel
theorem d_Judge_upperJumps_32 : decode prog_3_method_17_code 32 = .ok (.iaload, 1) := by decide +kernel
theorem d_Judge_upperJumps_33 : decode prog_3_method_17_code 33 = .ok (.isub, 1) := by decide +kernel
theorem d_Judge_upperJumps_34 : decode prog_3_method_17_code 34 = .ok (.invokestatic 154, 3) := by decide +kernel
theorem d_Judge_upperJumps_37 : decode prog_3_method_17_code 37 = .ok (.iconst 2, 1) := by decide +kernel
theorem d_Judge_upperJumps_38 : decode prog_3_method_17_code 38 = .ok (.if_icmp .le 7, 3) := by decide +kernel
theorem d_Judge_upperJumps_41 : decode prog_3_method_17_code 41 = .ok (.iconst 1, 1) := by decide +kernel
theorem d_Judge_upperJumps_42 : decode prog_3_method_17_code 42 = .ok (.goto 4, 3) := by decide +kernel
theorem d_Judge_upperJumps_45 : decode prog_3_method_17_code 45 = .ok (.iconst 0, 1) := by decide +kernel
theorem d_Judge_upperJumps_46 : decode prog_3_method_17_code 46 = .ok (.ireturn, 1) := by decide +kernel
abbrev rm_Judge_upperJumps : Room := { frames := 1, cells := 0, slots := 0, locals := 20 }
set_option maxHeartbeats 4000000 in
set_option maxRecDepth 100000 in
theorem c_Judge_upperJumps (l : Launch) (D : va_G) (cs : Nat → ClassId) (ad : Nat → Nat) (zt : Nat) (hi : cm_inj ad) (c I : Wo) (hw : wfN c) (hS : wfS c) (hV : wfV c) (t : Int) (hH : HrA c I t) (a : Nat) (ha : a < 4) (hda : ¬ dPt c t a = 1000) (b : Nat) (hb : b < 4) (hdb : ¬ dPt c t b = 1000) : cm_C l D cs ad zt y_Judge_upperJumps ws_Judge_upperJumps rm_Judge_upperJumps [.ref (ad 36), .int (zi (a : Int)), .int (zi (b : Int))] I (mk_pi (fun r J => I = J ∧ ((r = 1 ∧ upj (dPt c t a) (dPt c t b) (dOb c t a) (dOb c t b)) ∨ (r = 0 ∧ ¬ (upj (dPt c t a) (dPt c t b) (dOb c t a) (dOb c t b)))))) := by
  refine mk_metz (own := "CanonMaker$Judge") (Ts := wA) hi (Nat.le_refl _) (by decide) rfl (fun w h => List.mem_cons_of_mem _ h) rfl (Nat.le_of_ble_eq_true rfl) [(0, .ref (ad 36)), (1, .int (zi (a : Int))), (2, .int (zi (b : Int)))] rfl ?_
  intro p_ e_ s_ m_ as_ bl_ me_ co_ Q_ X hret
  have hHv := HrA_v hH
  have hpa := dPt_b (t := t) hw hV ha
  have hsa := dSk_b c t a
  obtain ⟨hoa, hna⟩ := dOb_b hw hV ha hda
  have hpb := dPt_b (t := t) hw hV hb
  have hsb := dSk_b c t b
  obtain ⟨hob, hnb⟩ := dOb_b hw hV hb hdb
  refine mk_aloadn (nx := 1) X 0 d_Judge_upperJumps_0 rfl rfl ?_
  refine mk_get (nx := 4) (v := .ref (ad 39)) X 36 (by decide) (sh_Judge cs ad _) rfl in_Judge 4 (by decide) wd_213 rfl rfl d_Judge_upperJumps_1 rfl ?_
  refine mk_iloadn (nx := 5) X 2 d_Judge_upperJumps_4 rfl rfl ?_
  refine mk_iald (nx := 6) (j := b) X 39 0 (by decide) (sh_now cs ad _) rfl (by omega) (by omega) (by decide) rfl d_Judge_upperJumps_5 rfl ?_
  rw [show I 39 b = dPt c t b from (hHv b (by omega) (by assumption)).2.1]
  refine mk_aloadn (nx := 7) X 0 d_Judge_upperJumps_6 rfl rfl ?_
  refine mk_get (nx := 10) (v := .ref (ad 39)) X 36 (by decide) (sh_Judge cs ad _) rfl in_Judge 4 (by decide) wd_213 rfl rfl d_Judge_upperJumps_7 rfl ?_
  refine mk_iloadn (nx := 11) X 1 d_Judge_upperJumps_10 rfl rfl ?_
  refine mk_iald (nx := 12) (j := a) X 39 0 (by decide) (sh_now cs ad _) rfl (by omega) (by omega) (by decide) rfl d_Judge_upperJumps_11 rfl ?_
  rw [show I 39 a = dPt c t a from (hHv a (by omega) (by assumption)).2.1]
  refine mk_icmp_le (tgt := 19) (nx := 15) X d_Judge_upperJumps_12 (by omega) (by omega) (by decide) rfl (fun c12 => ?_) (fun c12 => ?_)
  · skip
    refine mk_iloadn (nx := 20) X 1 d_Judge_upperJumps_19 rfl rfl ?_
    refine mk_istoren (nx := 21) X [(3, .int (zi (a : Int))), (0, .ref (ad 36)), (1, .int (zi (a : Int))), (2, .int (zi (b : Int)))] d_Judge_upperJumps_20 (by decide) rfl rfl ?_
    refine mk_aloadn (nx := 22) X 1 d_Judge_upperJumps_21 rfl rfl ?_
    refine mk_get (nx := 25) (v := .ref (ad 39)) X 36 (by decide) (sh_Judge cs ad _) rfl in_Judge 4 (by decide) wd_213 rfl rfl d_Judge_upperJumps_22 rfl ?_
    refine mk_iloadn (nx := 26) X 0 d_Judge_upperJumps_25 rfl rfl ?_
    refine mk_iald (nx := 27) (j := a) X 39 0 (by decide) (sh_now cs ad _) rfl (by omega) (by omega) (by decide) rfl d_Judge_upperJumps_26 rfl ?_
    rw [show I 39 a = dPt c t a from (hHv a (by omega) (by assumption)).2.1]
    refine mk_aloadn (nx := 28) X 1 d_Judge_upperJumps_27 rfl rfl ?_
    refine mk_get (nx := 31) (v := .ref (ad 40)) X 36 (by decide) (sh_Judge cs ad _) rfl in_Judge 5 (by decide) wd_214 rfl rfl d_Judge_upperJumps_28 rfl ?_
    refine mk_iloadn (nx := 32) X 0 d_Judge_upperJumps_31 rfl rfl ?_
    refine mk_iald (nx := 33) (j := a) X 40 0 (by decide) (sh_old cs ad _) rfl (by omega) (by omega) (by decide) rfl d_Judge_upperJumps_32 rfl ?_
    rw [show I 40 a = dOb c t a from (hHv a (by omega) (by assumption)).2.2.1]
    refine mk_isub (nx := 34) X d_Judge_upperJumps_33 rfl ?_
    refine mk_mabs (nx := 37) X wd_494 wd_495 wd_48 wd_496 (Nat.le_of_ble_eq_true rfl) (Nat.le_of_ble_eq_true rfl) (by omega) d_Judge_upperJumps_34 rfl ?_
    refine mk_iconst (nx := 38) X d_Judge_upperJumps_37 rfl ?_
    refine mk_icmp_le (tgt := 45) (nx := 41) X d_Judge_upperJumps_38 (by omega) (by omega) (by decide) rfl (fun c38 => ?_) (fun c38 => ?_)
    · skip
      refine mk_iconst (nx := 46) X d_Judge_upperJumps_45 rfl ?_
      exact hret _ _ _ _ d_Judge_upperJumps_46 (by omega) (by exact ⟨rfl, by unfold upj; omega⟩)
    · skip
      refine mk_iconst (nx := 42) X d_Judge_upperJumps_41 rfl ?_
      refine mk_goto (tgt := 46) X d_Judge_upperJumps_42 (by decide) ?_
      exact hret _ _ _ _ d_Judge_upperJumps_46 (by omega) (by exact ⟨rfl, by unfold upj; omega⟩)
  · skip
    refine mk_iloadn (nx := 16) X 2 d_Judge_upperJumps_15 rfl rfl ?_
    refine mk_goto (tgt := 20) X d_Judge_upperJumps_16 (by decide) ?_
    refine mk_istoren (nx := 21) X [(3, .int (zi (b : Int))), (0, .ref (ad 36)), (1, .int (zi (a : Int))), (2, .int (zi (b : Int)))] d_Judge_upperJumps_20 (by decide) rfl rfl ?_
    refine mk_aloadn (nx := 22) X 1 d_Judge_upperJumps_21 rfl rfl ?_
    refine mk_get (nx := 25) (v := .ref (ad 39)) X 36 (by decide) (sh_Judge cs ad _) rfl in_Judge 4 (by decide) wd_213 rfl rfl d_Judge_upperJumps_22 rfl ?_
    refine mk_iloadn (nx := 26) X 0 d_Judge_upperJumps_25 rfl rfl ?_
    refine mk_iald (nx := 27) (j := b) X 39 0 (by decide) (sh_now cs ad _) rfl (by omega) (by omega) (by decide) rfl d_Judge_upperJumps_26 rfl ?_
    rw [show I 39 b = dPt c t b from (hHv b (by omega) (by assumption)).2.1]
    refine mk_aloadn (nx := 28) X 1 d_Judge_upperJumps_27 rfl rfl ?_
    refine mk_get (nx := 31) (v := .ref (ad 40)) X 36 (by decide) (sh_Judge cs ad _) rfl in_Judge 5 (by decide) wd_214 rfl rfl d_Judge_upperJumps_28 rfl ?_
    refine mk_iloadn (nx := 32) X 0 d_Judge_upperJumps_31 rfl rfl ?_
    refine mk_iald (nx := 33) (j := b) X 40 0 (by decide) (sh_old cs ad _) rfl (by omega) (by omega) (by decide) rfl d_Judge_upperJumps_32 rfl ?_
    rw [show I 40 b = dOb c t b from (hHv b (by omega) (by assumption)).2.2.1]
    refine mk_isub (nx := 34) X d_Judge_upperJumps_33 rfl ?_
    refine mk_mabs (nx := 37) X wd_494 wd_495 wd_48 wd_496 (Nat.le_of_ble_eq_true rfl) (Nat.le_of_ble_eq_true rfl) (by omega) d_Judge_upperJumps_34 rfl ?_
    refine mk_iconst (nx := 38) X d_Judge_upperJumps_37 rfl ?_
    refine mk_icmp_le (tgt := 45) (nx := 41) X d_Judge_upperJumps_38 (by omega) (by omega) (by decide) rfl (fun c38 => ?_) (fun c38 => ?_)
    · skip
      refine mk_iconst (nx := 46) X d_Judge_upperJumps_45 rfl ?_
      exact hret _ _ _ _ d_Judge_upperJumps_46 (by omega) (by exact ⟨rfl, by unfold upj; omega⟩)
    · skip
      refine mk_iconst (nx := 42) X d_Judge_upperJumps_41 rfl ?_
      refine mk_goto (tgt := 46) X d_Judge_upperJumps_42 (by decide) ?_
      exact hret _ _ _ _ d_Judge_upperJumps_46 (by omega) (by exact ⟨rfl, by unfold upj; omega⟩)
