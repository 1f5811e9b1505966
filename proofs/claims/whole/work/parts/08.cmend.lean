-- CanonMaker.countTimes()I
theorem d_CM_countTimes_0 : decode prog_1_method_24_code 0 = .ok (.aload_n 0, 1) := by decide +kernel
theorem d_CM_countTimes_1 : decode prog_1_method_24_code 1 = .ok (.getfield 105, 3) := by decide +kernel
theorem d_CM_countTimes_4 : decode prog_1_method_24_code 4 = .ok (.ifCond .le 8, 3) := by decide +kernel
theorem d_CM_countTimes_7 : decode prog_1_method_24_code 7 = .ok (.aload_n 0, 1) := by decide +kernel
theorem d_CM_countTimes_8 : decode prog_1_method_24_code 8 = .ok (.getfield 105, 3) := by decide +kernel
theorem d_CM_countTimes_11 : decode prog_1_method_24_code 11 = .ok (.ireturn, 1) := by decide +kernel
theorem d_CM_countTimes_12 : decode prog_1_method_24_code 12 = .ok (.aload_n 0, 1) := by decide +kernel
theorem d_CM_countTimes_13 : decode prog_1_method_24_code 13 = .ok (.getfield 12, 3) := by decide +kernel
theorem d_CM_countTimes_16 : decode prog_1_method_24_code 16 = .ok (.invokevirtual 74, 3) := by decide +kernel
theorem d_CM_countTimes_19 : decode prog_1_method_24_code 19 = .ok (.istore_n 1, 1) := by decide +kernel
theorem d_CM_countTimes_20 : decode prog_1_method_24_code 20 = .ok (.iconst 0, 1) := by decide +kernel
theorem d_CM_countTimes_21 : decode prog_1_method_24_code 21 = .ok (.istore_n 2, 1) := by decide +kernel
theorem d_CM_countTimes_22 : decode prog_1_method_24_code 22 = .ok (.iconst 0, 1) := by decide +kernel
theorem d_CM_countTimes_23 : decode prog_1_method_24_code 23 = .ok (.istore_n 3, 1) := by decide +kernel
theorem d_CM_countTimes_24 : decode prog_1_method_24_code 24 = .ok (.iload_n 3, 1) := by decide +kernel
theorem d_CM_countTimes_25 : decode prog_1_method_24_code 25 = .ok (.iconst 4, 1) := by decide +kernel
theorem d_CM_countTimes_26 : decode prog_1_method_24_code 26 = .ok (.if_icmp .ge 47, 3) := by decide +kernel
theorem d_CM_countTimes_29 : decode prog_1_method_24_code 29 = .ok (.aload_n 0, 1) := by decide +kernel
theorem d_CM_countTimes_30 : decode prog_1_method_24_code 30 = .ok (.getfield 18, 3) := by decide +kernel
theorem d_CM_countTimes_33 : decode prog_1_method_24_code 33 = .ok (.iload_n 3, 1) := by decide +kernel
theorem d_CM_countTimes_34 : decode prog_1_method_24_code 34 = .ok (.aaload, 1) := by decide +kernel
theorem d_CM_countTimes_35 : decode prog_1_method_24_code 35 = .ok (.getfield 53, 3) := by decide +kernel
theorem d_CM_countTimes_38 : decode prog_1_method_24_code 38 = .ok (.ifCond .eq 29, 3) := by decide +kernel
theorem d_CM_countTimes_41 : decode prog_1_method_24_code 41 = .ok (.iload_n 2, 1) := by decide +kernel
theorem d_CM_countTimes_42 : decode prog_1_method_24_code 42 = .ok (.aload_n 0, 1) := by decide +kernel
theorem d_CM_countTimes_43 : decode prog_1_method_24_code 43 = .ok (.getfield 18, 3) := by decide +kernel
theorem d_CM_countTimes_46 : decode prog_1_method_24_code 46 = .ok (.iload_n 3, 1) := by decide +kernel
theorem d_CM_countTimes_47 : decode prog_1_method_24_code 47 = .ok (.aaload, 1) := by decide +kernel
theorem d_CM_countTimes_48 : decode prog_1_method_24_code 48 = .ok (.getfield 81, 3) := by decide +kernel
theorem d_CM_countTimes_51 : decode prog_1_method_24_code 51 = .ok (.iload_n 1, 1) := by decide +kernel
theorem d_CM_countTimes_52 : decode prog_1_method_24_code 52 = .ok (.aload_n 0, 1) := by decide +kernel
theorem d_CM_countTimes_53 : decode prog_1_method_24_code 53 = .ok (.getfield 18, 3) := by decide +kernel
theorem d_CM_countTimes_56 : decode prog_1_method_24_code 56 = .ok (.iload_n 3, 1) := by decide +kernel
theorem d_CM_countTimes_57 : decode prog_1_method_24_code 57 = .ok (.aaload, 1) := by decide +kernel
theorem d_CM_countTimes_58 : decode prog_1_method_24_code 58 = .ok (.getfield 90, 3) := by decide +kernel
theorem d_CM_countTimes_61 : decode prog_1_method_24_code 61 = .ok (.imul, 1) := by decide +kernel
theorem d_CM_countTimes_62 : decode prog_1_method_24_code 62 = .ok (.iadd, 1) := by decide +kernel
theorem d_CM_countTimes_63 : decode prog_1_method_24_code 63 = .ok (.invokestatic 192, 3) := by decide +kernel
theorem d_CM_countTimes_66 : decode prog_1_method_24_code 66 = .ok (.istore_n 2, 1) := by decide +kernel
theorem d_CM_countTimes_67 : decode prog_1_method_24_code 67 = .ok (.iinc 3 1, 3) := by decide +kernel
theorem d_CM_countTimes_70 : decode prog_1_method_24_code 70 = .ok (.goto (-46), 3) := by decide +kernel
theorem d_CM_countTimes_73 : decode prog_1_method_24_code 73 = .ok (.iload_n 2, 1) := by decide +kernel
theorem d_CM_countTimes_74 : decode prog_1_method_24_code 74 = .ok (.ireturn, 1) := by decide +kernel
abbrev rm_CM_countTimes : Room := { frames := 1, cells := 0, slots := 0, locals := 22 }
set_option maxHeartbeats 4000000 in
set_option maxRecDepth 100000 in
theorem c_CM_countTimes (l : Launch) (D : va_G) (cs : Nat → ClassId) (ad : Nat → Nat) (zt : Nat) (hi : cm_inj ad) (c I : Wo) (h : cmR c I) : cm_C l D cs ad zt y_CM_countTimes ws_CM_countTimes rm_CM_countTimes [.ref (ad 0)] I (mk_pi (fun r J => I = J ∧ r = an_end c)) := by
  refine mk_meti (own := "CanonMaker") (Ts := wA) hi (Nat.le_refl _) (by decide) rfl (fun w h => List.mem_cons_of_mem _ h) rfl (Nat.le_of_ble_eq_true rfl) [(0, .ref (ad 0))] rfl ?_
  intro p_ e_ s_ m_ as_ bl_ me_ co_ Q_ X hret
  obtain ⟨⟨⟨hn, hN⟩, ⟨hlo, hsc, hbt, hru, hrd, hst⟩, ⟨hV, hV0⟩, ⟨hfc, hF⟩⟩, ⟨i12, iN⟩, ⟨⟨i50, i51, i52, i53, i54⟩, i07, i09⟩, iV, ⟨i010, iF⟩⟩ := id h
  have L24 : ∀ nf : Nat, ∀ (v : Nat) (x : Int), (v ≤ 4) → (x = eo c v) → (¬ 0 < c 0 6) → 4 - v < nf → mk_A p_ l e_ rm_CM_countTimes s_ m_ as_ bl_ me_ co_ Q_ 4 D cmcl (cm_sh cs ad) 48 48 ad I [(0, .ref (ad 0)), (1, .int (zi (an_size c))), (2, .int (zi x)), (3, .int (zi (v : Int)))] 24 [] := by
    intro nf
    induction nf with
    | zero => intro v x hv hx hr0 hn; exact absurd hn (Nat.not_lt_zero _)
    | succ nf ih24 =>
      intro v x hv hx hr0 hn24
      have hb := eo_b h.1.1 h.1.2.2.1 v hv
      refine mk_iloadn (nx := 25) X 3 d_CM_countTimes_24 rfl rfl ?_
      refine mk_iconst (nx := 26) X d_CM_countTimes_25 rfl ?_
      refine mk_icmp_ge (tgt := 73) (nx := 29) X d_CM_countTimes_26 (by omega) (by omega) (by decide) rfl (fun c26 => ?_) (fun c26 => ?_)
      · skip
        refine mk_iloadn (nx := 74) X 2 d_CM_countTimes_73 rfl rfl ?_
        exact hret _ _ _ _ d_CM_countTimes_74 (by exact ⟨rfl, by rw [an_end, if_neg (by omega), hx, show v = 4 by omega]⟩)
      · skip
        have hv4 := iV v (by omega)
        have hv5 := hV v (by omega)
        have hsz := an_size_b h.1.1
        have hm := mul_rng hsz hv5.2.2.2.2
        refine mk_aloadn (nx := 30) X 0 d_CM_countTimes_29 rfl rfl ?_
        refine mk_get (nx := 33) (v := .ref (ad 4)) X 0 (by decide) (sh_CM cs ad _) rfl in_CM 1 (by decide) wd_288 rfl rfl d_CM_countTimes_30 rfl ?_
        refine mk_iloadn (nx := 34) X 3 d_CM_countTimes_33 rfl rfl ?_
        refine mk_aald (nx := 35) (j := v) X 4 2 (by decide) (sh_voices cs ad _) rfl (by omega) (by omega) (by decide) rfl rfl d_CM_countTimes_34 rfl ?_
        refine mk_get (nx := 38) (v := .int (zi (I (44 + v) 0))) X (44 + v) (by omega) (sh_Voice cs ad (show v < 4 by omega) _) rfl in_Voice 0 (by decide) wd_265 rfl rfl d_CM_countTimes_35 rfl ?_
        refine mk_if_eq (tgt := 67) (nx := 41) X d_CM_countTimes_38 (by omega) (by decide) rfl (fun c38 => ?_) (fun c38 => ?_)
        · skip
          refine mk_iinc (nx := 70) X 3 [(3, .int (zi ((v : Int) + 1))), (0, .ref (ad 0)), (1, .int (zi (an_size c))), (2, .int (zi x))] d_CM_countTimes_67 rfl (by decide) rfl rfl ?_
          refine mk_goto (tgt := 24) X d_CM_countTimes_70 (by decide) ?_
          refine mk_lv [1, 2, 3, 0] rfl ?_
          exact ih24 (v + 1) x (by omega) (by first | rfl | (rw [eo, if_pos (by omega)]; omega) | (rw [eo, if_neg (by omega)]; omega)) (by omega) (by omega)
        · skip
          refine mk_iloadn (nx := 42) X 2 d_CM_countTimes_41 rfl rfl ?_
          refine mk_aloadn (nx := 43) X 0 d_CM_countTimes_42 rfl rfl ?_
          refine mk_get (nx := 46) (v := .ref (ad 4)) X 0 (by decide) (sh_CM cs ad _) rfl in_CM 1 (by decide) wd_288 rfl rfl d_CM_countTimes_43 rfl ?_
          refine mk_iloadn (nx := 47) X 3 d_CM_countTimes_46 rfl rfl ?_
          refine mk_aald (nx := 48) (j := v) X 4 2 (by decide) (sh_voices cs ad _) rfl (by omega) (by omega) (by decide) rfl rfl d_CM_countTimes_47 rfl ?_
          refine mk_get (nx := 51) (v := .int (zi (I (44 + v) 1))) X (44 + v) (by omega) (sh_Voice cs ad (show v < 4 by omega) _) rfl in_Voice 1 (by decide) wd_268 rfl rfl d_CM_countTimes_48 rfl ?_
          rw [show I (44 + v) 1 = c (3 + v) 1 from hv4.2.1]
          refine mk_iloadn (nx := 52) X 1 d_CM_countTimes_51 rfl rfl ?_
          refine mk_aloadn (nx := 53) X 0 d_CM_countTimes_52 rfl rfl ?_
          refine mk_get (nx := 56) (v := .ref (ad 4)) X 0 (by decide) (sh_CM cs ad _) rfl in_CM 1 (by decide) wd_288 rfl rfl d_CM_countTimes_53 rfl ?_
          refine mk_iloadn (nx := 57) X 3 d_CM_countTimes_56 rfl rfl ?_
          refine mk_aald (nx := 58) (j := v) X 4 2 (by decide) (sh_voices cs ad _) rfl (by omega) (by omega) (by decide) rfl rfl d_CM_countTimes_57 rfl ?_
          refine mk_get (nx := 61) (v := .int (zi (I (44 + v) 4))) X (44 + v) (by omega) (sh_Voice cs ad (show v < 4 by omega) _) rfl in_Voice 4 (by decide) wd_275 rfl rfl d_CM_countTimes_58 rfl ?_
          rw [show I (44 + v) 4 = c (3 + v) 4 from hv4.2.2.2.2]
          refine mk_imul (nx := 62) X d_CM_countTimes_61 rfl ?_
          refine mk_iadd (nx := 63) X d_CM_countTimes_62 rfl ?_
          refine mk_mmax (nx := 66) X wd_391 wd_392 wd_48 wd_393 (by decide) (by decide) (by omega) (by omega) d_CM_countTimes_63 rfl ?_
          refine mk_istoren (nx := 67) X [(2, .int (zi (max x ((c (3 + v) 1) + ((an_size c) * (c (3 + v) 4)))))), (0, .ref (ad 0)), (1, .int (zi (an_size c))), (3, .int (zi (v : Int)))] d_CM_countTimes_66 (by decide) rfl rfl ?_
          refine mk_iinc (nx := 70) X 3 [(3, .int (zi ((v : Int) + 1))), (2, .int (zi (max x ((c (3 + v) 1) + ((an_size c) * (c (3 + v) 4)))))), (0, .ref (ad 0)), (1, .int (zi (an_size c)))] d_CM_countTimes_67 rfl (by decide) rfl rfl ?_
          refine mk_goto (tgt := 24) X d_CM_countTimes_70 (by decide) ?_
          refine mk_lv [2, 3, 1, 0] rfl ?_
          exact ih24 (v + 1) (max x ((c (3 + v) 1) + ((an_size c) * (c (3 + v) 4)))) (by omega) (by first | rfl | (rw [eo, if_pos (by omega)]; omega) | (rw [eo, if_neg (by omega)]; omega)) (by omega) (by omega)
  refine mk_aloadn (nx := 1) X 0 d_CM_countTimes_0 rfl rfl ?_
  refine mk_get (nx := 4) (v := .int (zi (I 0 7))) X 0 (by decide) (sh_CM cs ad _) rfl in_CM 7 (by decide) wd_294 rfl rfl d_CM_countTimes_1 rfl ?_
  refine mk_if_le (tgt := 12) (nx := 7) X d_CM_countTimes_4 (by omega) (by decide) rfl (fun c4 => ?_) (fun c4 => ?_)
  · skip
    refine mk_aloadn (nx := 13) X 0 d_CM_countTimes_12 rfl rfl ?_
    refine mk_get (nx := 16) (v := .ref (ad 1)) X 0 (by decide) (sh_CM cs ad _) rfl in_CM 0 (by decide) wd_287 rfl rfl d_CM_countTimes_13 rfl ?_
    refine mk_callVi (nx := 19) (n := 0) (As := []) (rest := []) X 1 (by decide) (sh_Subject cs ad _) rfl (c_Subject_units l D cs ad zt hi c I h.1.1 h.2.1) (g_Subject_units wd_348) rfl ⟨rfl, rfl⟩ (by decide +kernel) ⟨by decide, by decide⟩ rfl (Nat.le_of_ble_eq_true rfl) rfl d_CM_countTimes_16 rfl ?_
    intro r16 J1 hJ1
    obtain ⟨rfl, rfl⟩ := hJ1
    refine mk_istoren (nx := 20) X [(1, .int (zi (an_size c))), (0, .ref (ad 0))] d_CM_countTimes_19 (by decide) rfl rfl ?_
    refine mk_iconst (nx := 21) X d_CM_countTimes_20 rfl ?_
    refine mk_istoren (nx := 22) X [(2, .int (zi 0)), (1, .int (zi (an_size c))), (0, .ref (ad 0))] d_CM_countTimes_21 (by decide) rfl rfl ?_
    refine mk_iconst (nx := 23) X d_CM_countTimes_22 rfl ?_
    refine mk_istoren (nx := 24) X [(3, .int (zi 0)), (2, .int (zi 0)), (1, .int (zi (an_size c))), (0, .ref (ad 0))] d_CM_countTimes_23 (by decide) rfl rfl ?_
    refine mk_lv [3, 2, 1, 0] rfl ?_
    exact L24 _ 0 0 (by omega) (by first | rfl | (rw [eo, if_pos (by omega)]; omega) | (rw [eo, if_neg (by omega)]; omega)) (by omega) (Nat.lt_succ_self _)
  · skip
    refine mk_aloadn (nx := 8) X 0 d_CM_countTimes_7 rfl rfl ?_
    refine mk_get (nx := 11) (v := .int (zi (I 0 7))) X 0 (by decide) (sh_CM cs ad _) rfl in_CM 7 (by decide) wd_294 rfl rfl d_CM_countTimes_8 rfl ?_
    exact hret _ _ _ _ d_CM_countTimes_11 (by exact ⟨rfl, by rw [an_end, if_pos (by omega)]; omega⟩)

-- CanonMaker.end()I
theorem d_CM_end_0 : decode prog_1_method_14_code 0 = .ok (.aload_n 0, 1) := by decide +kernel
theorem d_CM_end_1 : decode prog_1_method_14_code 1 = .ok (.invokevirtual 111, 3) := by decide +kernel
theorem d_CM_end_4 : decode prog_1_method_14_code 4 = .ok (.ireturn, 1) := by decide +kernel
abbrev rm_CM_end : Room := { frames := 2, cells := 0, slots := 0, locals := 45 }
set_option maxHeartbeats 4000000 in
set_option maxRecDepth 100000 in
theorem c_CM_end (l : Launch) (D : va_G) (cs : Nat → ClassId) (ad : Nat → Nat) (zt : Nat) (hi : cm_inj ad) (c I : Wo) (h : cmR c I)  : cm_C l D cs ad zt y_CM_end ws_CM_end rm_CM_end [.ref (ad 0)] I (mk_pi (fun r J => r = an_end c ∧ cmR c J)) := by
  refine mk_meti (own := "CanonMaker") (Ts := wA) hi (Nat.le_refl _) (by decide) rfl (fun w h => List.mem_cons_of_mem _ h) rfl (Nat.le_of_ble_eq_true rfl) [(0, .ref (ad 0))] rfl ?_
  intro p_ e_ s_ m_ as_ bl_ me_ co_ Q_ X hret
  obtain ⟨⟨⟨hn, hN⟩, ⟨hlo, hsc, hbt, hru, hrd, hst⟩, ⟨hV, hV0⟩, ⟨hfc, hF⟩⟩, ⟨i12, iN⟩, ⟨⟨i50, i51, i52, i53, i54⟩, i07, i09⟩, iV, ⟨i010, iF⟩⟩ := id h
  refine mk_aloadn (nx := 1) X 0 d_CM_end_0 rfl rfl ?_
  refine mk_callVi (nx := 4) (n := 0) (As := []) (rest := []) X 0 (by decide) (sh_CM cs ad _) rfl (c_CM_countTimes l D cs ad zt hi c I h) (g_CM_countTimes wd_387) rfl ⟨rfl, rfl⟩ (by decide +kernel) ⟨by decide, by decide⟩ rfl (Nat.le_of_ble_eq_true rfl) rfl d_CM_end_1 rfl ?_
  intro r1 J1 hJ1
  obtain ⟨rfl, rfl⟩ := hJ1
  exact hret _ _ _ _ d_CM_end_4 (by exact ⟨rfl, h⟩)

-- CanonMaker.isTooLong(LCanonMaker$Voice;)Z
theorem d_CM_isTooLong_0 : decode prog_1_method_25_code 0 = .ok (.aload_n 1, 1) := by decide +kernel
theorem d_CM_isTooLong_1 : decode prog_1_method_25_code 1 = .ok (.getfield 53, 3) := by decide +kernel
theorem d_CM_isTooLong_4 : decode prog_1_method_25_code 4 = .ok (.ifCond .eq 33, 3) := by decide +kernel
theorem d_CM_isTooLong_7 : decode prog_1_method_25_code 7 = .ok (.aload_n 0, 1) := by decide +kernel
theorem d_CM_isTooLong_8 : decode prog_1_method_25_code 8 = .ok (.getfield 105, 3) := by decide +kernel
theorem d_CM_isTooLong_11 : decode prog_1_method_25_code 11 = .ok (.ifCond .le 26, 3) := by decide +kernel
theorem d_CM_isTooLong_14 : decode prog_1_method_25_code 14 = .ok (.aload_n 0, 1) := by decide +kernel
theorem d_CM_isTooLong_15 : decode prog_1_method_25_code 15 = .ok (.getfield 12, 3) := by decide +kernel
theorem d_CM_isTooLong_18 : decode prog_1_method_25_code 18 = .ok (.invokevirtual 74, 3) := by decide +kernel
theorem d_CM_isTooLong_21 : decode prog_1_method_25_code 21 = .ok (.aload_n 1, 1) := by decide +kernel
theorem d_CM_isTooLong_22 : decode prog_1_method_25_code 22 = .ok (.getfield 90, 3) := by decide +kernel
theorem d_CM_isTooLong_25 : decode prog_1_method_25_code 25 = .ok (.imul, 1) := by decide +kernel
theorem d_CM_isTooLong_26 : decode prog_1_method_25_code 26 = .ok (.aload_n 0, 1) := by decide +kernel
theorem d_CM_isTooLong_27 : decode prog_1_method_25_code 27 = .ok (.getfield 105, 3) := by decide +kernel
theorem d_CM_isTooLong_30 : decode prog_1_method_25_code 30 = .ok (.if_icmp .le 7, 3) := by decide +kernel
theorem d_CM_isTooLong_33 : decode prog_1_method_25_code 33 = .ok (.iconst 1, 1) := by decide +kernel
theorem d_CM_isTooLong_34 : decode prog_1_method_25_code 34 = .ok (.goto 4, 3) := by decide +kernel
theorem d_CM_isTooLong_37 : decode prog_1_method_25_code 37 = .ok (.iconst 0, 1) := by decide +kernel
theorem d_CM_isTooLong_38 : decode prog_1_method_25_code 38 = .ok (.ireturn, 1) := by decide +kernel
abbrev rm_CM_isTooLong : Room := { frames := 1, cells := 0, slots := 0, locals := 22 }
set_option maxHeartbeats 4000000 in
set_option maxRecDepth 100000 in
theorem c_CM_isTooLong (l : Launch) (D : va_G) (cs : Nat → ClassId) (ad : Nat → Nat) (zt : Nat) (hi : cm_inj ad) (c I : Wo) (h : cmR c I) (v : Nat) (hv : v < 4) : cm_C l D cs ad zt y_CM_isTooLong ws_CM_isTooLong rm_CM_isTooLong [.ref (ad 0), .ref (ad (44 + v))] I (mk_pi (fun r J => I = J ∧ ((r = 1 ∧ tl c v) ∨ (r = 0 ∧ ¬ tl c v)))) := by
  refine mk_metz (own := "CanonMaker") (Ts := wA) hi (Nat.le_refl _) (by decide) rfl (fun w h => List.mem_cons_of_mem _ h) rfl (Nat.le_of_ble_eq_true rfl) [(0, .ref (ad 0)), (1, .ref (ad (44 + v)))] rfl ?_
  intro p_ e_ s_ m_ as_ bl_ me_ co_ Q_ X hret
  obtain ⟨⟨⟨hn, hN⟩, ⟨hlo, hsc, hbt, hru, hrd, hst⟩, ⟨hV, hV0⟩, ⟨hfc, hF⟩⟩, ⟨i12, iN⟩, ⟨⟨i50, i51, i52, i53, i54⟩, i07, i09⟩, iV, ⟨i010, iF⟩⟩ := id h
  have hv4 := iV v (by omega)
  have hv5 := hV v (by omega)
  have hsz := an_size_b h.1.1
  have hm := mul_rng hsz hv5.2.2.2.2
  refine mk_aloadn (nx := 1) X 1 d_CM_isTooLong_0 rfl rfl ?_
  refine mk_get (nx := 4) (v := .int (zi (I (44 + v) 0))) X (44 + v) (by omega) (sh_Voice cs ad (show v < 4 by omega) _) rfl in_Voice 0 (by decide) wd_265 rfl rfl d_CM_isTooLong_1 rfl ?_
  refine mk_if_eq (tgt := 37) (nx := 7) X d_CM_isTooLong_4 (by omega) (by decide) rfl (fun c4 => ?_) (fun c4 => ?_)
  · skip
    refine mk_iconst (nx := 38) X d_CM_isTooLong_37 rfl ?_
    exact hret _ _ _ _ d_CM_isTooLong_38 (by omega) (by exact ⟨rfl, by unfold tl; omega⟩)
  · skip
    refine mk_aloadn (nx := 8) X 0 d_CM_isTooLong_7 rfl rfl ?_
    refine mk_get (nx := 11) (v := .int (zi (I 0 7))) X 0 (by decide) (sh_CM cs ad _) rfl in_CM 7 (by decide) wd_294 rfl rfl d_CM_isTooLong_8 rfl ?_
    refine mk_if_le (tgt := 37) (nx := 14) X d_CM_isTooLong_11 (by omega) (by decide) rfl (fun c11 => ?_) (fun c11 => ?_)
    · skip
      refine mk_iconst (nx := 38) X d_CM_isTooLong_37 rfl ?_
      exact hret _ _ _ _ d_CM_isTooLong_38 (by omega) (by exact ⟨rfl, by unfold tl; omega⟩)
    · skip
      refine mk_aloadn (nx := 15) X 0 d_CM_isTooLong_14 rfl rfl ?_
      refine mk_get (nx := 18) (v := .ref (ad 1)) X 0 (by decide) (sh_CM cs ad _) rfl in_CM 0 (by decide) wd_287 rfl rfl d_CM_isTooLong_15 rfl ?_
      refine mk_callVi (nx := 21) (n := 0) (As := []) (rest := []) X 1 (by decide) (sh_Subject cs ad _) rfl (c_Subject_units l D cs ad zt hi c I h.1.1 h.2.1) (g_Subject_units wd_348) rfl ⟨rfl, rfl⟩ (by decide +kernel) ⟨by decide, by decide⟩ rfl (Nat.le_of_ble_eq_true rfl) rfl d_CM_isTooLong_18 rfl ?_
      intro r18 J1 hJ1
      obtain ⟨rfl, rfl⟩ := hJ1
      refine mk_aloadn (nx := 22) X 1 d_CM_isTooLong_21 rfl rfl ?_
      refine mk_get (nx := 25) (v := .int (zi (I (44 + v) 4))) X (44 + v) (by omega) (sh_Voice cs ad (show v < 4 by omega) _) rfl in_Voice 4 (by decide) wd_275 rfl rfl d_CM_isTooLong_22 rfl ?_
      rw [show I (44 + v) 4 = c (3 + v) 4 from hv4.2.2.2.2]
      refine mk_imul (nx := 26) X d_CM_isTooLong_25 rfl ?_
      refine mk_aloadn (nx := 27) X 0 d_CM_isTooLong_26 rfl rfl ?_
      refine mk_get (nx := 30) (v := .int (zi (I 0 7))) X 0 (by decide) (sh_CM cs ad _) rfl in_CM 7 (by decide) wd_294 rfl rfl d_CM_isTooLong_27 rfl ?_
      refine mk_icmp_le (tgt := 37) (nx := 33) X d_CM_isTooLong_30 (by omega) (by omega) (by decide) rfl (fun c30 => ?_) (fun c30 => ?_)
      · skip
        refine mk_iconst (nx := 38) X d_CM_isTooLong_37 rfl ?_
        exact hret _ _ _ _ d_CM_isTooLong_38 (by omega) (by exact ⟨rfl, by unfold tl; omega⟩)
      · skip
        refine mk_iconst (nx := 34) X d_CM_isTooLong_33 rfl ?_
        refine mk_goto (tgt := 38) X d_CM_isTooLong_34 (by decide) ?_
        exact hret _ _ _ _ d_CM_isTooLong_38 (by omega) (by exact ⟨rfl, by unfold tl; omega⟩)

-- CanonMaker.isAnyTooLong()Z
theorem d_CM_isAnyTooLong_0 : decode prog_1_method_26_code 0 = .ok (.iconst 0, 1) := by decide +kernel
theorem d_CM_isAnyTooLong_1 : decode prog_1_method_26_code 1 = .ok (.istore_n 1, 1) := by decide +kernel
theorem d_CM_isAnyTooLong_2 : decode prog_1_method_26_code 2 = .ok (.iload_n 1, 1) := by decide +kernel
theorem d_CM_isAnyTooLong_3 : decode prog_1_method_26_code 3 = .ok (.iconst 4, 1) := by decide +kernel
theorem d_CM_isAnyTooLong_4 : decode prog_1_method_26_code 4 = .ok (.if_icmp .ge 24, 3) := by decide +kernel
theorem d_CM_isAnyTooLong_7 : decode prog_1_method_26_code 7 = .ok (.aload_n 0, 1) := by decide +kernel
theorem d_CM_isAnyTooLong_8 : decode prog_1_method_26_code 8 = .ok (.aload_n 0, 1) := by decide +kernel
theorem d_CM_isAnyTooLong_9 : decode prog_1_method_26_code 9 = .ok (.getfield 18, 3) := by decide +kernel
theorem d_CM_isAnyTooLong_12 : decode prog_1_method_26_code 12 = .ok (.iload_n 1, 1) := by decide +kernel
theorem d_CM_isAnyTooLong_13 : decode prog_1_method_26_code 13 = .ok (.aaload, 1) := by decide +kernel
theorem d_CM_isAnyTooLong_14 : decode prog_1_method_26_code 14 = .ok (.invokevirtual 172, 3) := by decide +kernel
theorem d_CM_isAnyTooLong_17 : decode prog_1_method_26_code 17 = .ok (.ifCond .eq 5, 3) := by decide +kernel
theorem d_CM_isAnyTooLong_20 : decode prog_1_method_26_code 20 = .ok (.iconst 1, 1) := by decide +kernel
theorem d_CM_isAnyTooLong_21 : decode prog_1_method_26_code 21 = .ok (.ireturn, 1) := by decide +kernel
theorem d_CM_isAnyTooLong_22 : decode prog_1_method_26_code 22 = .ok (.iinc 1 1, 3) := by decide +kernel
theorem d_CM_isAnyTooLong_25 : decode prog_1_method_26_code 25 = .ok (.goto (-23), 3) := by decide +kernel
theorem d_CM_isAnyTooLong_28 : decode prog_1_method_26_code 28 = .ok (.iconst 0, 1) := by decide +kernel
theorem d_CM_isAnyTooLong_29 : decode prog_1_method_26_code 29 = .ok (.ireturn, 1) := by decide +kernel
abbrev rm_CM_isAnyTooLong : Room := { frames := 2, cells := 0, slots := 0, locals := 43 }
set_option maxHeartbeats 4000000 in
set_option maxRecDepth 100000 in
theorem c_CM_isAnyTooLong (l : Launch) (D : va_G) (cs : Nat → ClassId) (ad : Nat → Nat) (zt : Nat) (hi : cm_inj ad) (c I : Wo) (h : cmR c I) : cm_C l D cs ad zt y_CM_isAnyTooLong ws_CM_isAnyTooLong rm_CM_isAnyTooLong [.ref (ad 0)] I (mk_pi (fun r J => I = J ∧ ((r = 1 ∧ ∃ v, v < 4 ∧ tl c v) ∨ (r = 0 ∧ ∀ v, v < 4 → ¬ tl c v)))) := by
  refine mk_metz (own := "CanonMaker") (Ts := wA) hi (Nat.le_refl _) (by decide) rfl (fun w h => List.mem_cons_of_mem _ h) rfl (Nat.le_of_ble_eq_true rfl) [(0, .ref (ad 0))] rfl ?_
  intro p_ e_ s_ m_ as_ bl_ me_ co_ Q_ X hret
  obtain ⟨⟨⟨hn, hN⟩, ⟨hlo, hsc, hbt, hru, hrd, hst⟩, ⟨hV, hV0⟩, ⟨hfc, hF⟩⟩, ⟨i12, iN⟩, ⟨⟨i50, i51, i52, i53, i54⟩, i07, i09⟩, iV, ⟨i010, iF⟩⟩ := id h
  have L2 : ∀ nf : Nat, ∀ (v : Nat), (v ≤ 4) → (∀ u, u < v → ¬ tl c u) → 4 - v < nf → mk_A p_ l e_ rm_CM_isAnyTooLong s_ m_ as_ bl_ me_ co_ Q_ 2 D cmcl (cm_sh cs ad) 48 48 ad I [(0, .ref (ad 0)), (1, .int (zi (v : Int)))] 2 [] := by
    intro nf
    induction nf with
    | zero => intro v hv hb hn; exact absurd hn (Nat.not_lt_zero _)
    | succ nf ih2 =>
      intro v hv hb hn2
      refine mk_iloadn (nx := 3) X 1 d_CM_isAnyTooLong_2 rfl rfl ?_
      refine mk_iconst (nx := 4) X d_CM_isAnyTooLong_3 rfl ?_
      refine mk_icmp_ge (tgt := 28) (nx := 7) X d_CM_isAnyTooLong_4 (by omega) (by omega) (by decide) rfl (fun c4 => ?_) (fun c4 => ?_)
      · skip
        refine mk_iconst (nx := 29) X d_CM_isAnyTooLong_28 rfl ?_
        exact hret _ _ _ _ d_CM_isAnyTooLong_29 (by omega) (by exact ⟨rfl, Or.inr ⟨rfl, fun u hu => hb u (by omega)⟩⟩)
      · skip
        refine mk_aloadn (nx := 8) X 0 d_CM_isAnyTooLong_7 rfl rfl ?_
        refine mk_aloadn (nx := 9) X 0 d_CM_isAnyTooLong_8 rfl rfl ?_
        refine mk_get (nx := 12) (v := .ref (ad 4)) X 0 (by decide) (sh_CM cs ad _) rfl in_CM 1 (by decide) wd_288 rfl rfl d_CM_isAnyTooLong_9 rfl ?_
        refine mk_iloadn (nx := 13) X 1 d_CM_isAnyTooLong_12 rfl rfl ?_
        refine mk_aald (nx := 14) (j := v) X 4 2 (by decide) (sh_voices cs ad _) rfl (by omega) (by omega) (by decide) rfl rfl d_CM_isAnyTooLong_13 rfl ?_
        refine mk_callVi (nx := 17) (n := 1) (As := [.ref (ad (44 + v))]) (rest := []) X 0 (by decide) (sh_CM cs ad _) rfl (c_CM_isTooLong l D cs ad zt hi c I h v (by omega)) (g_CM_isTooLong wd_436) rfl ⟨rfl, rfl⟩ (by decide +kernel) ⟨by decide, by decide⟩ rfl (Nat.le_of_ble_eq_true rfl) rfl d_CM_isAnyTooLong_14 rfl ?_
        intro r14 J1 hJ1
        obtain ⟨rfl, hr14⟩ := hJ1
        refine mk_if_eq (tgt := 22) (nx := 20) X d_CM_isAnyTooLong_17 (by rcases hr14 with q | q <;> omega) (by decide) rfl (fun c17 => ?_) (fun c17 => ?_)
        · skip
          refine mk_iinc (nx := 25) X 1 [(1, .int (zi ((v : Int) + 1))), (0, .ref (ad 0))] d_CM_isAnyTooLong_22 rfl (by decide) rfl rfl ?_
          refine mk_goto (tgt := 2) X d_CM_isAnyTooLong_25 (by decide) ?_
          refine mk_lv [1, 0] rfl ?_
          exact ih2 (v + 1) (by omega) (by first | exact lt_0 | exact lt_s hb (hr14.resolve_left (by omega)).2) (by omega)
        · skip
          refine mk_iconst (nx := 21) X d_CM_isAnyTooLong_20 rfl ?_
          exact hret _ _ _ _ d_CM_isAnyTooLong_21 (by omega) (by exact ⟨rfl, Or.inl ⟨rfl, v, by omega, (hr14.resolve_right (by omega)).2⟩⟩)
  refine mk_iconst (nx := 1) X d_CM_isAnyTooLong_0 rfl ?_
  refine mk_istoren (nx := 2) X [(1, .int (zi 0)), (0, .ref (ad 0))] d_CM_isAnyTooLong_1 (by decide) rfl rfl ?_
  refine mk_lv [1, 0] rfl ?_
  exact L2 _ 0 (by omega) (by first | exact lt_0 | exact lt_s hb (hr14.resolve_left (by omega)).2) (Nat.lt_succ_self _)
