-- CanonMaker$Judge.judgeEach(I)V
theorem d_Judge_judgeEach_0 : decode prog_3_method_4_code 0 = .ok (.iconst 0, 1) := by decide +kernel
theorem d_Judge_judgeEach_1 : decode prog_3_method_4_code 1 = .ok (.istore_n 2, 1) := by decide +kernel
theorem d_Judge_judgeEach_2 : decode prog_3_method_4_code 2 = .ok (.iload_n 2, 1) := by decide +kernel
theorem d_Judge_judgeEach_3 : decode prog_3_method_4_code 3 = .ok (.aload_n 0, 1) := by decide +kernel
theorem d_Judge_judgeEach_4 : decode prog_3_method_4_code 4 = .ok (.getfield 75, 3) := by decide +kernel
theorem d_Judge_judgeEach_7 : decode prog_3_method_4_code 7 = .ok (.if_icmp .ge 53, 3) := by decide +kernel
theorem d_Judge_judgeEach_10 : decode prog_3_method_4_code 10 = .ok (.aload_n 0, 1) := by decide +kernel
theorem d_Judge_judgeEach_11 : decode prog_3_method_4_code 11 = .ok (.getfield 9, 3) := by decide +kernel
theorem d_Judge_judgeEach_14 : decode prog_3_method_4_code 14 = .ok (.iload_n 2, 1) := by decide +kernel
theorem d_Judge_judgeEach_15 : decode prog_3_method_4_code 15 = .ok (.iaload, 1) := by decide +kernel
theorem d_Judge_judgeEach_16 : decode prog_3_method_4_code 16 = .ok (.istore_n 3, 1) := by decide +kernel
theorem d_Judge_judgeEach_17 : decode prog_3_method_4_code 17 = .ok (.aload_n 0, 1) := by decide +kernel
theorem d_Judge_judgeEach_18 : decode prog_3_method_4_code 18 = .ok (.getfield 15, 3) := by decide +kernel
theorem d_Judge_judgeEach_21 : decode prog_3_method_4_code 21 = .ok (.iload_n 3, 1) := by decide +kernel
theorem d_Judge_judgeEach_22 : decode prog_3_method_4_code 22 = .ok (.baload, 1) := by decide +kernel
theorem d_Judge_judgeEach_23 : decode prog_3_method_4_code 23 = .ok (.ifCond .eq 31, 3) := by decide +kernel
theorem d_Judge_judgeEach_26 : decode prog_3_method_4_code 26 = .ok (.aload_n 0, 1) := by decide +kernel
theorem d_Judge_judgeEach_27 : decode prog_3_method_4_code 27 = .ok (.getfield 19, 3) := by decide +kernel
theorem d_Judge_judgeEach_30 : decode prog_3_method_4_code 30 = .ok (.iload_n 3, 1) := by decide +kernel
theorem d_Judge_judgeEach_31 : decode prog_3_method_4_code 31 = .ok (.iaload, 1) := by decide +kernel
theorem d_Judge_judgeEach_32 : decode prog_3_method_4_code 32 = .ok (.sipush 1001, 3) := by decide +kernel
theorem d_Judge_judgeEach_35 : decode prog_3_method_4_code 35 = .ok (.if_icmp .eq 19, 3) := by decide +kernel
theorem d_Judge_judgeEach_38 : decode prog_3_method_4_code 38 = .ok (.aload_n 0, 1) := by decide +kernel
theorem d_Judge_judgeEach_39 : decode prog_3_method_4_code 39 = .ok (.iload_n 1, 1) := by decide +kernel
theorem d_Judge_judgeEach_40 : decode prog_3_method_4_code 40 = .ok (.iload_n 3, 1) := by decide +kernel
theorem d_Judge_judgeEach_41 : decode prog_3_method_4_code 41 = .ok (.invokevirtual 99, 3) := by decide +kernel
theorem d_Judge_judgeEach_44 : decode prog_3_method_4_code 44 = .ok (.ifCond .eq 10, 3) := by decide +kernel
theorem d_Judge_judgeEach_47 : decode prog_3_method_4_code 47 = .ok (.aload_n 0, 1) := by decide +kernel
theorem d_Judge_judgeEach_48 : decode prog_3_method_4_code 48 = .ok (.iload_n 1, 1) := by decide +kernel
theorem d_Judge_judgeEach_49 : decode prog_3_method_4_code 49 = .ok (.iload_n 3, 1) := by decide +kernel
theorem d_Judge_judgeEach_50 : decode prog_3_method_4_code 50 = .ok (.iload_n 3, 1) := by decide +kernel
theorem d_Judge_judgeEach_51 : decode prog_3_method_4_code 51 = .ok (.invokevirtual 103, 3) := by decide +kernel
theorem d_Judge_judgeEach_54 : decode prog_3_method_4_code 54 = .ok (.iinc 2 1, 3) := by decide +kernel
theorem d_Judge_judgeEach_57 : decode prog_3_method_4_code 57 = .ok (.goto (-55), 3) := by decide +kernel
theorem d_Judge_judgeEach_60 : decode prog_3_method_4_code 60 = .ok (.return_, 1) := by decide +kernel
abbrev rm_Judge_judgeEach : Room := { frames := 3, cells := 0, slots := 0, locals := 64 }
set_option maxHeartbeats 4000000 in
set_option maxRecDepth 100000 in
theorem c_Judge_judgeEach (l : Launch) (D : va_G) (cs : Nat → ClassId) (ad : Nat → Nat) (zt : Nat) (hi : cm_inj ad) (c I : Wo) (hw : wfN c) (hS : wfS c) (hV : wfV c) (t : Int) (hH : HrA c I t) (hBd : BdE c I) (s : Int) (hs : 0 ≤ s ∧ s < 2147483648) (L : List Ft) (hK0 : KfI I s L) (hL : L.length ≤ 500000) (rule : Int) (hru : rule = 1 ∨ rule = 2 ∨ rule = 128) : cm_C l D cs ad zt y_Judge_judgeEach ws_Judge_judgeEach rm_Judge_judgeEach [.ref (ad 36), .int (zi rule)] I (mk_pv (fun J => KfI J s (L ++ fas c t rule 4) ∧ (∀ a b, ¬ (a = 36 ∧ 8 < b) → J a b = I a b))) := by
  refine mk_metv (own := "CanonMaker$Judge") (Ts := wA) hi (Nat.le_refl _) (by decide) rfl (fun w h => List.mem_cons_of_mem _ h) rfl (Nat.le_of_ble_eq_true rfl) [(0, .ref (ad 36)), (1, .int (zi rule))] rfl ?_
  intro p_ e_ s_ m_ as_ bl_ me_ co_ Q_ X hret
  have hp4 := pcn_v (c := c) (t := t) 4
  have hrr : rule < 4 ∨ rule = 128 := by omega
  have L2 : ∀ nf : Nat, ∀ (i : Nat) (k : Nat) (J : Wo), (k ≤ 4) → (pcn c t k = i) → (KfI J s (L ++ fas c t rule k)) → (∀ a b, ¬ (a = 36 ∧ 8 < b) → J a b = I a b) → pcn c t 4 - i < nf → mk_A p_ l e_ rm_Judge_judgeEach s_ m_ as_ bl_ me_ co_ Q_ 4 D cmcl (cm_sh cs ad) 48 48 ad J [(0, .ref (ad 36)), (1, .int (zi rule)), (2, .int (zi (i : Int)))] 2 [] := by
    intro nf
    induction nf with
    | zero => intro i k J hk4 hki hK hfr hn; exact absurd hn (Nat.not_lt_zero _)
    | succ nf ih2 =>
      intro i k J hk4 hki hK hfr hn2
      have hkle := pcn_le (c := c) (t := t) (k := k) 4 hk4
      have hHJ : HrA c J t := HrA_fr hH hfr
      have hHv := HrA_v hHJ
      have hBJ : BdE c J := BdE_fr hBd (fun b => hfr 5 b (by omega))
      refine mk_iloadn (nx := 3) X 2 d_Judge_judgeEach_2 rfl rfl ?_
      refine mk_aloadn (nx := 4) X 0 d_Judge_judgeEach_3 rfl rfl ?_
      refine mk_get (nx := 7) (v := .int (zi (J 36 7))) X 36 (by decide) (sh_Judge cs ad _) rfl in_Judge 7 (by decide) wd_216 rfl rfl d_Judge_judgeEach_4 rfl ?_
      rw [show J 36 7 = (pcn c t 4 : Int) from hHJ.2.1]
      refine mk_icmp_ge (tgt := 60) (nx := 10) X d_Judge_judgeEach_7 (by omega) (by omega) (by decide) rfl (fun c7 => ?_) (fun c7 => ?_)
      · skip
        exact hret _ _ _ d_Judge_judgeEach_60 (by exact ⟨by rw [fas_sk hk4 (pcn_end hk4 (by omega))]; exact hK, hfr⟩)
      · skip
        obtain ⟨v, hkv, hv4, hvd, hvi, hsk2⟩ := pcn_nx (c := c) (t := t) (4 - k) k (by omega) hki (by omega)
        have hpv := dPt_b (t := t) hw hV hv4
        have hsv := dSk_b c t v
        have hfl := fas_len (c := c) (t := t) (rule := rule) k
        refine mk_aloadn (nx := 11) X 0 d_Judge_judgeEach_10 rfl rfl ?_
        refine mk_get (nx := 14) (v := .ref (ad 37)) X 36 (by decide) (sh_Judge cs ad _) rfl in_Judge 2 (by decide) wd_211 rfl rfl d_Judge_judgeEach_11 rfl ?_
        refine mk_iloadn (nx := 15) X 2 d_Judge_judgeEach_14 rfl rfl ?_
        refine mk_iald (nx := 16) (j := i) X 37 0 (by decide) (sh_present cs ad _) rfl (by omega) (by omega) (by decide) rfl d_Judge_judgeEach_15 rfl ?_
        rw [show J 37 i = (v : Int) from (HrA_p hHJ hv4 hvd hvi)]
        refine mk_istoren (nx := 17) X [(3, .int (zi (v : Int))), (0, .ref (ad 36)), (1, .int (zi rule)), (2, .int (zi (i : Int)))] d_Judge_judgeEach_16 (by decide) rfl rfl ?_
        refine mk_aloadn (nx := 18) X 1 d_Judge_judgeEach_17 rfl rfl ?_
        refine mk_get (nx := 21) (v := .ref (ad 38)) X 36 (by decide) (sh_Judge cs ad _) rfl in_Judge 3 (by decide) wd_212 rfl rfl d_Judge_judgeEach_18 rfl ?_
        refine mk_iloadn (nx := 22) X 0 d_Judge_judgeEach_21 rfl rfl ?_
        refine mk_zald (nx := 23) (j := v) X 38 1 (by decide) (sh_struck cs ad _) rfl (by omega) (by omega) (by decide) rfl d_Judge_judgeEach_22 rfl ?_
        rw [show J 38 v = dSk c t v from (hHv v hv4 hvd).1]
        refine mk_if_eq (tgt := 54) (nx := 26) X d_Judge_judgeEach_23 (by omega) (by decide) rfl (fun c23 => ?_) (fun c23 => ?_)
        · skip
          refine mk_iinc (nx := 57) X 3 [(2, .int (zi ((i : Int) + 1))), (3, .int (zi (v : Int))), (0, .ref (ad 36)), (1, .int (zi rule))] d_Judge_judgeEach_54 rfl (by decide) rfl rfl ?_
          refine mk_goto (tgt := 2) X d_Judge_judgeEach_57 (by decide) ?_
          refine mk_lv [2, 3, 0] rfl ?_
          exact ih2 (i + 1) (v + 1) J (by omega) (by first | rfl | (rw [pcn_y hvd]; omega)) (by first | (rw [show fas c t rule 0 = [] from rfl, List.append_nil]; exact hK0) | (rw [fas_y hrr hkv hsk2 (brA_d.mpr (fA_of.mpr ⟨by omega, by omega, (hr41.resolve_right (fun y => absurd y.1 (by omega))).2⟩)), ← List.append_assoc]; exact hJA.1) | (rw [fas_z hrr hkv hsk2 (fun z => by have z2 := fA_of.mp (brA_d.mp z); first | exact absurd z2.1 (by omega) | exact absurd (by omega) z2.2.1 | exact (hr41.resolve_left (fun y => absurd y.1 (by omega))).2 z2.2.2)]; exact hK)) (by first | exact fun _ _ _ => rfl | exact fun a b x => (hJA.2 a b x).trans (hfr a b x) | exact hfr) (by omega)
        · skip
          refine mk_aloadn (nx := 27) X 1 d_Judge_judgeEach_26 rfl rfl ?_
          refine mk_get (nx := 30) (v := .ref (ad 39)) X 36 (by decide) (sh_Judge cs ad _) rfl in_Judge 4 (by decide) wd_213 rfl rfl d_Judge_judgeEach_27 rfl ?_
          refine mk_iloadn (nx := 31) X 0 d_Judge_judgeEach_30 rfl rfl ?_
          refine mk_iald (nx := 32) (j := v) X 39 0 (by decide) (sh_now cs ad _) rfl (by omega) (by omega) (by decide) rfl d_Judge_judgeEach_31 rfl ?_
          rw [show J 39 v = dPt c t v from (hHv v hv4 hvd).2.1]
          refine mk_sipush (nx := 35) X d_Judge_judgeEach_32 (by decide) rfl ?_
          refine mk_icmp_eq (tgt := 54) (nx := 38) X d_Judge_judgeEach_35 (by omega) (by omega) (by decide) rfl (fun c35 => ?_) (fun c35 => ?_)
          · skip
            refine mk_iinc (nx := 57) X 3 [(2, .int (zi ((i : Int) + 1))), (3, .int (zi (v : Int))), (0, .ref (ad 36)), (1, .int (zi rule))] d_Judge_judgeEach_54 rfl (by decide) rfl rfl ?_
            refine mk_goto (tgt := 2) X d_Judge_judgeEach_57 (by decide) ?_
            refine mk_lv [2, 3, 0] rfl ?_
            exact ih2 (i + 1) (v + 1) J (by omega) (by first | rfl | (rw [pcn_y hvd]; omega)) (by first | (rw [show fas c t rule 0 = [] from rfl, List.append_nil]; exact hK0) | (rw [fas_y hrr hkv hsk2 (brA_d.mpr (fA_of.mpr ⟨by omega, by omega, (hr41.resolve_right (fun y => absurd y.1 (by omega))).2⟩)), ← List.append_assoc]; exact hJA.1) | (rw [fas_z hrr hkv hsk2 (fun z => by have z2 := fA_of.mp (brA_d.mp z); first | exact absurd z2.1 (by omega) | exact absurd (by omega) z2.2.1 | exact (hr41.resolve_left (fun y => absurd y.1 (by omega))).2 z2.2.2)]; exact hK)) (by first | exact fun _ _ _ => rfl | exact fun a b x => (hJA.2 a b x).trans (hfr a b x) | exact hfr) (by omega)
          · skip
            refine mk_aloadn (nx := 39) X 1 d_Judge_judgeEach_38 rfl rfl ?_
            refine mk_iloadn (nx := 40) X 2 d_Judge_judgeEach_39 rfl rfl ?_
            refine mk_iloadn (nx := 41) X 0 d_Judge_judgeEach_40 rfl rfl ?_
            refine mk_callVi (nx := 44) (n := 2) (As := [.int (zi rule), .int (zi (v : Int))]) (rest := []) X 36 (by decide) (sh_Judge cs ad _) rfl (c_Judge_breaksAlone l D cs ad zt hi c J hw hS hV t hHJ v hv4 hvd hBJ rule hru) (g_Judge_breaksAlone wd_485) rfl ⟨rfl, rfl⟩ (by decide +kernel) ⟨by decide, by decide⟩ rfl (Nat.le_of_ble_eq_true rfl) rfl d_Judge_judgeEach_41 rfl ?_
            intro r41 J1 hJ1
            obtain ⟨rfl, hr41⟩ := hJ1
            have hr41b : r41 = 1 ∨ r41 = 0 := hr41.elim (fun e => Or.inl e.1) (fun e => Or.inr e.1)
            refine mk_if_eq (tgt := 54) (nx := 47) X d_Judge_judgeEach_44 (by omega) (by decide) rfl (fun c44 => ?_) (fun c44 => ?_)
            · skip
              refine mk_iinc (nx := 57) X 3 [(2, .int (zi ((i : Int) + 1))), (3, .int (zi (v : Int))), (0, .ref (ad 36)), (1, .int (zi rule))] d_Judge_judgeEach_54 rfl (by decide) rfl rfl ?_
              refine mk_goto (tgt := 2) X d_Judge_judgeEach_57 (by decide) ?_
              refine mk_lv [2, 3, 0] rfl ?_
              exact ih2 (i + 1) (v + 1) J (by omega) (by first | rfl | (rw [pcn_y hvd]; omega)) (by first | (rw [show fas c t rule 0 = [] from rfl, List.append_nil]; exact hK0) | (rw [fas_y hrr hkv hsk2 (brA_d.mpr (fA_of.mpr ⟨by omega, by omega, (hr41.resolve_right (fun y => absurd y.1 (by omega))).2⟩)), ← List.append_assoc]; exact hJA.1) | (rw [fas_z hrr hkv hsk2 (fun z => by have z2 := fA_of.mp (brA_d.mp z); first | exact absurd z2.1 (by omega) | exact absurd (by omega) z2.2.1 | exact (hr41.resolve_left (fun y => absurd y.1 (by omega))).2 z2.2.2)]; exact hK)) (by first | exact fun _ _ _ => rfl | exact fun a b x => (hJA.2 a b x).trans (hfr a b x) | exact hfr) (by omega)
            · skip
              refine mk_aloadn (nx := 48) X 1 d_Judge_judgeEach_47 rfl rfl ?_
              refine mk_iloadn (nx := 49) X 2 d_Judge_judgeEach_48 rfl rfl ?_
              refine mk_iloadn (nx := 50) X 0 d_Judge_judgeEach_49 rfl rfl ?_
              refine mk_iloadn (nx := 51) X 0 d_Judge_judgeEach_50 rfl rfl ?_
              refine mk_callVv (nx := 54) (n := 3) (As := [.int (zi rule), .int (zi (v : Int)), .int (zi (v : Int))]) (rest := []) X 36 (by decide) (sh_Judge cs ad _) rfl (c_Judge_keepFault l D cs ad zt hi J s hs (L ++ fas c t rule k) hK (by simp only [List.length_append]; omega) t hHJ.1 rule v v) (g_Judge_keepFault wd_500) rfl ⟨rfl, rfl⟩ (by decide +kernel) ⟨by decide, by decide⟩ rfl (Nat.le_of_ble_eq_true rfl) rfl d_Judge_judgeEach_51 rfl ?_
              intro JA hJA
              refine mk_iinc (nx := 57) X 3 [(2, .int (zi ((i : Int) + 1))), (3, .int (zi (v : Int))), (0, .ref (ad 36)), (1, .int (zi rule))] d_Judge_judgeEach_54 rfl (by decide) rfl rfl ?_
              refine mk_goto (tgt := 2) X d_Judge_judgeEach_57 (by decide) ?_
              refine mk_lv [2, 3, 0] rfl ?_
              exact ih2 (i + 1) (v + 1) JA (by omega) (by first | rfl | (rw [pcn_y hvd]; omega)) (by first | (rw [show fas c t rule 0 = [] from rfl, List.append_nil]; exact hK0) | (rw [fas_y hrr hkv hsk2 (brA_d.mpr (fA_of.mpr ⟨by omega, by omega, (hr41.resolve_right (fun y => absurd y.1 (by omega))).2⟩)), ← List.append_assoc]; exact hJA.1) | (rw [fas_z hrr hkv hsk2 (fun z => by have z2 := fA_of.mp (brA_d.mp z); first | exact absurd z2.1 (by omega) | exact absurd (by omega) z2.2.1 | exact (hr41.resolve_left (fun y => absurd y.1 (by omega))).2 z2.2.2)]; exact hK)) (by first | exact fun _ _ _ => rfl | exact fun a b x => (hJA.2 a b x).trans (hfr a b x) | exact hfr) (by omega)
  refine mk_iconst (nx := 1) X d_Judge_judgeEach_0 rfl ?_
  refine mk_istoren (nx := 2) X [(2, .int (zi 0)), (0, .ref (ad 36)), (1, .int (zi rule))] d_Judge_judgeEach_1 (by decide) rfl rfl ?_
  refine mk_lv [1, 2, 0] rfl ?_
  exact L2 _ 0 0 I (by omega) (by first | rfl | (rw [pcn_y hvd]; omega)) (by first | (rw [show fas c t rule 0 = [] from rfl, List.append_nil]; exact hK0) | (rw [fas_y hrr hkv hsk2 (brA_d.mpr (fA_of.mpr ⟨by omega, by omega, (hr41.resolve_right (fun y => absurd y.1 (by omega))).2⟩)), ← List.append_assoc]; exact hJA.1) | (rw [fas_z hrr hkv hsk2 (fun z => by have z2 := fA_of.mp (brA_d.mp z); first | exact absurd z2.1 (by omega) | exact absurd (by omega) z2.2.1 | exact (hr41.resolve_left (fun y => absurd y.1 (by omega))).2 z2.2.2)]; exact hK)) (by first | exact fun _ _ _ => rfl | exact fun a b x => (hJA.2 a b x).trans (hfr a b x) | exact hfr) (Nat.lt_succ_self _)

-- CanonMaker$Judge.judgePairs(I)V
theorem d_Judge_judgePairs_0 : decode prog_3_method_5_code 0 = .ok (.iconst 0, 1) := by decide +kernel
theorem d_Judge_judgePairs_1 : decode prog_3_method_5_code 1 = .ok (.istore_n 2, 1) := by decide +kernel
theorem d_Judge_judgePairs_2 : decode prog_3_method_5_code 2 = .ok (.iload_n 2, 1) := by decide +kernel
theorem d_Judge_judgePairs_3 : decode prog_3_method_5_code 3 = .ok (.aload_n 0, 1) := by decide +kernel
theorem d_Judge_judgePairs_4 : decode prog_3_method_5_code 4 = .ok (.getfield 75, 3) := by decide +kernel
theorem d_Judge_judgePairs_7 : decode prog_3_method_5_code 7 = .ok (.if_icmp .ge 120, 3) := by decide +kernel
theorem d_Judge_judgePairs_10 : decode prog_3_method_5_code 10 = .ok (.aload_n 0, 1) := by decide +kernel
theorem d_Judge_judgePairs_11 : decode prog_3_method_5_code 11 = .ok (.getfield 9, 3) := by decide +kernel
theorem d_Judge_judgePairs_14 : decode prog_3_method_5_code 14 = .ok (.iload_n 2, 1) := by decide +kernel
theorem d_Judge_judgePairs_15 : decode prog_3_method_5_code 15 = .ok (.iaload, 1) := by decide +kernel
theorem d_Judge_judgePairs_16 : decode prog_3_method_5_code 16 = .ok (.istore_n 3, 1) := by decide +kernel
theorem d_Judge_judgePairs_17 : decode prog_3_method_5_code 17 = .ok (.iload_n 2, 1) := by decide +kernel
theorem d_Judge_judgePairs_18 : decode prog_3_method_5_code 18 = .ok (.iconst 1, 1) := by decide +kernel
theorem d_Judge_judgePairs_19 : decode prog_3_method_5_code 19 = .ok (.iadd, 1) := by decide +kernel
theorem d_Judge_judgePairs_20 : decode prog_3_method_5_code 20 = .ok (.istore 4, 2) := by decide +kernel
theorem d_Judge_judgePairs_22 : decode prog_3_method_5_code 22 = .ok (.iload 4, 2) := by decide +kernel
theorem d_Judge_judgePairs_24 : decode prog_3_method_5_code 24 = .ok (.aload_n 0, 1) := by decide +kernel
theorem d_Judge_judgePairs_25 : decode prog_3_method_5_code 25 = .ok (.getfield 75, 3) := by decide +kernel
theorem d_Judge_judgePairs_28 : decode prog_3_method_5_code 28 = .ok (.if_icmp .ge 93, 3) := by decide +kernel
theorem d_Judge_judgePairs_31 : decode prog_3_method_5_code 31 = .ok (.aload_n 0, 1) := by decide +kernel
theorem d_Judge_judgePairs_32 : decode prog_3_method_5_code 32 = .ok (.getfield 9, 3) := by decide +kernel
theorem d_Judge_judgePairs_35 : decode prog_3_method_5_code 35 = .ok (.iload 4, 2) := by decide +kernel
theorem d_Judge_judgePairs_37 : decode prog_3_method_5_code 37 = .ok (.iaload, 1) := by decide +kernel
theorem d_Judge_judgePairs_38 : decode prog_3_method_5_code 38 = .ok (.istore 5, 2) := by decide +kernel
theorem d_Judge_judgePairs_40 : decode prog_3_method_5_code 40 = .ok (.aload_n 0, 1) := by decide +kernel
theorem d_Judge_judgePairs_41 : decode prog_3_method_5_code 41 = .ok (.getfield 19, 3) := by decide +kernel
theorem d_Judge_judgePairs_44 : decode prog_3_method_5_code 44 = .ok (.iload_n 3, 1) := by decide +kernel
theorem d_Judge_judgePairs_45 : decode prog_3_method_5_code 45 = .ok (.iaload, 1) := by decide +kernel
theorem d_Judge_judgePairs_46 : decode prog_3_method_5_code 46 = .ok (.sipush 1001, 3) := by decide +kernel
theorem d_Judge_judgePairs_49 : decode prog_3_method_5_code 49 = .ok (.if_icmp .eq 20, 3) := by decide +kernel
theorem d_Judge_judgePairs_52 : decode prog_3_method_5_code 52 = .ok (.aload_n 0, 1) := by decide +kernel
theorem d_Judge_judgePairs_53 : decode prog_3_method_5_code 53 = .ok (.getfield 19, 3) := by decide +kernel
theorem d_Judge_judgePairs_56 : decode prog_3_method_5_code 56 = .ok (.iload 5, 2) := by decide +kernel
theorem d_Judge_judgePairs_58 : decode prog_3_method_5_code 58 = .ok (.iaload, 1) := by decide +kernel
theorem d_Judge_judgePairs_59 : decode prog_3_method_5_code 59 = .ok (.sipush 1001, 3) := by decide +kernel
theorem d_Judge_judgePairs_62 : decode prog_3_method_5_code 62 = .ok (.if_icmp .eq 7, 3) := by decide +kernel
theorem d_Judge_judgePairs_65 : decode prog_3_method_5_code 65 = .ok (.iconst 1, 1) := by decide +kernel
theorem d_Judge_judgePairs_66 : decode prog_3_method_5_code 66 = .ok (.goto 4, 3) := by decide +kernel
theorem d_Judge_judgePairs_69 : decode prog_3_method_5_code 69 = .ok (.iconst 0, 1) := by decide +kernel
theorem d_Judge_judgePairs_70 : decode prog_3_method_5_code 70 = .ok (.istore 6, 2) := by decide +kernel
theorem d_Judge_judgePairs_72 : decode prog_3_method_5_code 72 = .ok (.iload 6, 2) := by decide +kernel
theorem d_Judge_judgePairs_74 : decode prog_3_method_5_code 74 = .ok (.ifCond .eq 41, 3) := by decide +kernel
theorem d_Judge_judgePairs_77 : decode prog_3_method_5_code 77 = .ok (.aload_n 0, 1) := by decide +kernel
theorem d_Judge_judgePairs_78 : decode prog_3_method_5_code 78 = .ok (.getfield 15, 3) := by decide +kernel
theorem d_Judge_judgePairs_81 : decode prog_3_method_5_code 81 = .ok (.iload_n 3, 1) := by decide +kernel
theorem d_Judge_judgePairs_82 : decode prog_3_method_5_code 82 = .ok (.baload, 1) := by decide +kernel
theorem d_Judge_judgePairs_83 : decode prog_3_method_5_code 83 = .ok (.ifCond .ne 13, 3) := by decide +kernel
theorem d_Judge_judgePairs_86 : decode prog_3_method_5_code 86 = .ok (.aload_n 0, 1) := by decide +kernel
theorem d_Judge_judgePairs_87 : decode prog_3_method_5_code 87 = .ok (.getfield 15, 3) := by decide +kernel
theorem d_Judge_judgePairs_90 : decode prog_3_method_5_code 90 = .ok (.iload 5, 2) := by decide +kernel
theorem d_Judge_judgePairs_92 : decode prog_3_method_5_code 92 = .ok (.baload, 1) := by decide +kernel
theorem d_Judge_judgePairs_93 : decode prog_3_method_5_code 93 = .ok (.ifCond .eq 22, 3) := by decide +kernel
theorem d_Judge_judgePairs_96 : decode prog_3_method_5_code 96 = .ok (.aload_n 0, 1) := by decide +kernel
theorem d_Judge_judgePairs_97 : decode prog_3_method_5_code 97 = .ok (.iload_n 1, 1) := by decide +kernel
theorem d_Judge_judgePairs_98 : decode prog_3_method_5_code 98 = .ok (.iload_n 3, 1) := by decide +kernel
theorem d_Judge_judgePairs_99 : decode prog_3_method_5_code 99 = .ok (.iload 5, 2) := by decide +kernel
theorem d_Judge_judgePairs_101 : decode prog_3_method_5_code 101 = .ok (.invokevirtual 107, 3) := by decide +kernel
theorem d_Judge_judgePairs_104 : decode prog_3_method_5_code 104 = .ok (.ifCond .eq 11, 3) := by decide +kernel
theorem d_Judge_judgePairs_107 : decode prog_3_method_5_code 107 = .ok (.aload_n 0, 1) := by decide +kernel
theorem d_Judge_judgePairs_108 : decode prog_3_method_5_code 108 = .ok (.iload_n 1, 1) := by decide +kernel
theorem d_Judge_judgePairs_109 : decode prog_3_method_5_code 109 = .ok (.iload_n 3, 1) := by decide +kernel
theorem d_Judge_judgePairs_110 : decode prog_3_method_5_code 110 = .ok (.iload 5, 2) := by decide +kernel
theorem d_Judge_judgePairs_112 : decode prog_3_method_5_code 112 = .ok (.invokevirtual 103, 3) := by decide +kernel
theorem d_Judge_judgePairs_115 : decode prog_3_method_5_code 115 = .ok (.iinc 4 1, 3) := by decide +kernel
theorem d_Judge_judgePairs_118 : decode prog_3_method_5_code 118 = .ok (.goto (-96), 3) := by decide +kernel
theorem d_Judge_judgePairs_121 : decode prog_3_method_5_code 121 = .ok (.iinc 2 1, 3) := by decide +kernel
theorem d_Judge_judgePairs_124 : decode prog_3_method_5_code 124 = .ok (.goto (-122), 3) := by decide +kernel
theorem d_Judge_judgePairs_127 : decode prog_3_method_5_code 127 = .ok (.return_, 1) := by decide +kernel
abbrev rm_Judge_judgePairs : Room := { frames := 4, cells := 0, slots := 0, locals := 92 }
set_option maxHeartbeats 4000000 in
set_option maxRecDepth 100000 in
theorem c_Judge_judgePairs (l : Launch) (D : va_G) (cs : Nat → ClassId) (ad : Nat → Nat) (zt : Nat) (hi : cm_inj ad) (c I : Wo) (hw : wfN c) (hS : wfS c) (hV : wfV c) (t : Int) (hH : HrA c I t) (hBd : BdE c I) (s : Int) (hs : 0 ≤ s ∧ s < 2147483648) (L : List Ft) (hK0 : KfI I s L) (hL : L.length ≤ 500000) (hn : NTL c) (ht2 : 0 ≤ t ∧ t < an_end c) (rule : Int) (hru : rule = 4 ∨ rule = 16 ∨ rule = 32 ∨ rule = 64) : cm_C l D cs ad zt y_Judge_judgePairs ws_Judge_judgePairs rm_Judge_judgePairs [.ref (ad 36), .int (zi rule)] I (mk_pv (fun J => KfI J s (L ++ fas c t rule 4) ∧ (∀ a b, ¬ (a = 36 ∧ 8 < b) → J a b = I a b))) := by
  refine mk_metv (own := "CanonMaker$Judge") (Ts := wA) hi (Nat.le_refl _) (by decide) rfl (fun w h => List.mem_cons_of_mem _ h) rfl (Nat.le_of_ble_eq_true rfl) [(0, .ref (ad 36)), (1, .int (zi rule))] rfl ?_
  intro p_ e_ s_ m_ as_ bl_ me_ co_ Q_ X hret
  have hp4 := pcn_v (c := c) (t := t) 4
  have hrr : ¬ (rule < 4 ∨ rule = 128) := by omega
  have heb := an_end_b hw hS hV
  have L2 : ∀ nf : Nat, ∀ (i : Nat) (k : Nat) (J : Wo), (k ≤ 4) → (pcn c t k = i) → (KfI J s (L ++ fas c t rule k)) → (∀ a b, ¬ (a = 36 ∧ 8 < b) → J a b = I a b) → pcn c t 4 - i < nf → mk_A p_ l e_ rm_Judge_judgePairs s_ m_ as_ bl_ me_ co_ Q_ 7 D cmcl (cm_sh cs ad) 48 48 ad J [(0, .ref (ad 36)), (1, .int (zi rule)), (2, .int (zi (i : Int)))] 2 [] := by
    intro nf
    induction nf with
    | zero => intro i k J hk4 hki hK hfr hn; exact absurd hn (Nat.not_lt_zero _)
    | succ nf ih2 =>
      intro i k J hk4 hki hK hfr hn2
      have hkle := pcn_le (c := c) (t := t) (k := k) 4 hk4
      have hHJ : HrA c J t := HrA_fr hH hfr
      have L22 : ∀ nf : Nat, ∀ (a : Nat) (j : Nat) (kb : Nat) (Jb : Wo), (a < 4) → (¬ dPt c t a = 1000) → (pcn c t a = i) → (k ≤ a) → (∀ u, k ≤ u → u < a → dPt c t u = 1000) → (a < kb ∧ kb ≤ 4) → (pcn c t kb = j) → (KfI Jb s (L ++ (fas c t rule k ++ fbs c t rule a kb))) → (∀ a b, ¬ (a = 36 ∧ 8 < b) → Jb a b = I a b) → pcn c t 4 - j < nf → mk_A p_ l e_ rm_Judge_judgePairs s_ m_ as_ bl_ me_ co_ Q_ 7 D cmcl (cm_sh cs ad) 48 48 ad Jb [(0, .ref (ad 36)), (1, .int (zi rule)), (2, .int (zi (i : Int))), (3, .int (zi (a : Int))), (4, .int (zi (j : Int)))] 22 [] := by
        intro nf
        induction nf with
        | zero => intro a j kb Jb ha4 had hai hka hsa hkb hjb hKb hfb hn; exact absurd hn (Nat.not_lt_zero _)
        | succ nf ih22 =>
          intro a j kb Jb ha4 had hai hka hsa hkb hjb hKb hfb hn22
          have hia := pcn_le (c := c) (t := t) (k := a + 1) 4 (by omega)
          rw [pcn_y had] at hia
          have hjle := pcn_le (c := c) (t := t) (k := kb) 4 hkb.2
          have hHb : HrA c Jb t := HrA_fr hH hfb
          have hHvb := HrA_v hHb
          have hBb : BdE c Jb := BdE_fr hBd (fun b => hfb 5 b (by omega))
          have hpa := dPt_b (t := t) hw hV ha4
          have hska := dSk_b c t a
          refine mk_iload (nx := 24) X 4 d_Judge_judgePairs_22 rfl rfl ?_
          refine mk_aloadn (nx := 25) X 0 d_Judge_judgePairs_24 rfl rfl ?_
          refine mk_get (nx := 28) (v := .int (zi (Jb 36 7))) X 36 (by decide) (sh_Judge cs ad _) rfl in_Judge 7 (by decide) wd_216 rfl rfl d_Judge_judgePairs_25 rfl ?_
          rw [show Jb 36 7 = (pcn c t 4 : Int) from hHb.2.1]
          refine mk_icmp_ge (tgt := 121) (nx := 31) X d_Judge_judgePairs_28 (by omega) (by omega) (by decide) rfl (fun c28 => ?_) (fun c28 => ?_)
          · skip
            refine mk_iinc (nx := 124) X 2 [(2, .int (zi ((i : Int) + 1))), (0, .ref (ad 36)), (1, .int (zi rule)), (3, .int (zi (a : Int))), (4, .int (zi (j : Int)))] d_Judge_judgePairs_121 rfl (by decide) rfl rfl ?_
            refine mk_goto (tgt := 2) X d_Judge_judgePairs_124 (by decide) ?_
            refine mk_lv [1, 2, 0] rfl ?_
            exact ih2 (i + 1) (a + 1) Jb (by omega) (by first | rfl | (rw [pcn_y had]; omega)) (by first | (rw [show fas c t rule 0 = [] from rfl, List.append_nil]; exact hK0) | (rw [fas_p hrr hka hsa, fbs_sk (show kb ≤ 4 by omega) (pcn_end (by omega) (by omega))]; exact hKb)) (by first | exact fun _ _ _ => rfl | exact hfb) (by omega)
          · skip
            obtain ⟨b, hkb2, hb4, hbd, hbj, hsb⟩ := pcn_nx (c := c) (t := t) (4 - kb) kb (by omega) hjb (by omega)
            have hpb := dPt_b (t := t) hw hV hb4
            have hskb := dSk_b c t b
            have hfl := fas_len (c := c) (t := t) (rule := rule) k
            have hfl2 := fbs_len (c := c) (t := t) (rule := rule) (a := a) kb
            refine mk_aloadn (nx := 32) X 0 d_Judge_judgePairs_31 rfl rfl ?_
            refine mk_get (nx := 35) (v := .ref (ad 37)) X 36 (by decide) (sh_Judge cs ad _) rfl in_Judge 2 (by decide) wd_211 rfl rfl d_Judge_judgePairs_32 rfl ?_
            refine mk_iload (nx := 37) X 4 d_Judge_judgePairs_35 rfl rfl ?_
            refine mk_iald (nx := 38) (j := j) X 37 0 (by decide) (sh_present cs ad _) rfl (by omega) (by omega) (by decide) rfl d_Judge_judgePairs_37 rfl ?_
            rw [show Jb 37 j = (b : Int) from (HrA_p hHb hb4 hbd hbj)]
            refine mk_istore (nx := 40) X [(5, .int (zi (b : Int))), (0, .ref (ad 36)), (1, .int (zi rule)), (2, .int (zi (i : Int))), (3, .int (zi (a : Int))), (4, .int (zi (j : Int)))] d_Judge_judgePairs_38 (by decide) rfl rfl ?_
            refine mk_aloadn (nx := 41) X 1 d_Judge_judgePairs_40 rfl rfl ?_
            refine mk_get (nx := 44) (v := .ref (ad 39)) X 36 (by decide) (sh_Judge cs ad _) rfl in_Judge 4 (by decide) wd_213 rfl rfl d_Judge_judgePairs_41 rfl ?_
            refine mk_iloadn (nx := 45) X 4 d_Judge_judgePairs_44 rfl rfl ?_
            refine mk_iald (nx := 46) (j := a) X 39 0 (by decide) (sh_now cs ad _) rfl (by omega) (by omega) (by decide) rfl d_Judge_judgePairs_45 rfl ?_
            rw [show Jb 39 a = dPt c t a from (hHvb a (by omega) (by assumption)).2.1]
            refine mk_sipush (nx := 49) X d_Judge_judgePairs_46 (by decide) rfl ?_
            refine mk_icmp_eq (tgt := 69) (nx := 52) X d_Judge_judgePairs_49 (by omega) (by omega) (by decide) rfl (fun c49 => ?_) (fun c49 => ?_)
            · skip
              refine mk_iconst (nx := 70) X d_Judge_judgePairs_69 rfl ?_
              refine mk_istore (nx := 72) X [(6, .int (zi 0)), (5, .int (zi (b : Int))), (0, .ref (ad 36)), (1, .int (zi rule)), (2, .int (zi (i : Int))), (3, .int (zi (a : Int))), (4, .int (zi (j : Int)))] d_Judge_judgePairs_70 (by decide) rfl rfl ?_
              refine mk_iload (nx := 74) X 0 d_Judge_judgePairs_72 rfl rfl ?_
              refine mk_if_eq (tgt := 115) (nx := 77) X d_Judge_judgePairs_74 (by omega) (by decide) rfl (fun c74 => ?_) (fun c74 => ?_)
              · skip
                refine mk_iinc (nx := 118) X 6 [(4, .int (zi ((j : Int) + 1))), (6, .int (zi 0)), (5, .int (zi (b : Int))), (0, .ref (ad 36)), (1, .int (zi rule)), (2, .int (zi (i : Int))), (3, .int (zi (a : Int)))] d_Judge_judgePairs_115 rfl (by decide) rfl rfl ?_
                refine mk_goto (tgt := 22) X d_Judge_judgePairs_118 (by decide) ?_
                refine mk_lv [3, 4, 5, 6, 0] rfl ?_
                exact ih22 a (j + 1) (b + 1) Jb (by omega) (by assumption) (by omega) (by omega) (by first | exact hsa | exact hsk2) (by omega) (by first | (rw [pcn_y hbd]; omega) | (rw [pcn_y hvd]; omega)) (by first | (rw [fbs_nil (a := v) (v + 1) (Nat.le_refl _), List.append_nil]; exact hK) | (rw [fbs_y (by omega) hkb2 hsb ((brP_d hw hS hV hn ha4 hb4 ht2).mpr ⟨by assumption, by assumption, by omega, by omega, by omega, (hr101.resolve_right (fun y => absurd y.1 (by omega))).2⟩)]; have e := hJA.1; simp only [List.append_assoc] at e ⊢; exact e) | (rw [fbs_z (by omega) hkb2 hsb (fun z => by obtain ⟨z1, z2, z3, z4, z5, z6⟩ := (brP_d hw hS hV hn ha4 hb4 ht2).mp z; first | omega | exact (hr101.resolve_left (fun y => absurd y.1 (by omega))).2 z6)]; exact hKb)) (by first | exact hfr | exact fun a b x => (hJA.2 a b x).trans (hfb a b x) | exact hfb) (by omega)
              · skip
                refine mk_aloadn (nx := 78) X 2 d_Judge_judgePairs_77 rfl rfl ?_
                refine mk_get (nx := 81) (v := .ref (ad 38)) X 36 (by decide) (sh_Judge cs ad _) rfl in_Judge 3 (by decide) wd_212 rfl rfl d_Judge_judgePairs_78 rfl ?_
                refine mk_iloadn (nx := 82) X 5 d_Judge_judgePairs_81 rfl rfl ?_
                refine mk_zald (nx := 83) (j := a) X 38 1 (by decide) (sh_struck cs ad _) rfl (by omega) (by omega) (by decide) rfl d_Judge_judgePairs_82 rfl ?_
                rw [show Jb 38 a = dSk c t a from (hHvb a (by omega) (by assumption)).1]
                refine mk_if_ne (tgt := 96) (nx := 86) X d_Judge_judgePairs_83 (by omega) (by decide) rfl (fun c83 => ?_) (fun c83 => ?_)
                · skip
                  refine mk_aloadn (nx := 97) X 2 d_Judge_judgePairs_96 rfl rfl ?_
                  refine mk_iloadn (nx := 98) X 3 d_Judge_judgePairs_97 rfl rfl ?_
                  refine mk_iloadn (nx := 99) X 5 d_Judge_judgePairs_98 rfl rfl ?_
                  refine mk_iload (nx := 101) X 1 d_Judge_judgePairs_99 rfl rfl ?_
                  refine mk_callVi (nx := 104) (n := 3) (As := [.int (zi rule), .int (zi (a : Int)), .int (zi (b : Int))]) (rest := []) X 36 (by decide) (sh_Judge cs ad _) rfl (c_Judge_breakTogether l D cs ad zt hi c Jb hw hS hV t hHb a ha4 had b hb4 hbd hBb (by omega) rule hru) (g_Judge_breakTogether wd_508) rfl ⟨rfl, rfl⟩ (by decide +kernel) ⟨by decide, by decide⟩ rfl (Nat.le_of_ble_eq_true rfl) rfl d_Judge_judgePairs_101 rfl ?_
                  intro r101 J1 hJ1
                  obtain ⟨rfl, hr101⟩ := hJ1
                  have hr101b : r101 = 1 ∨ r101 = 0 := hr101.elim (fun e => Or.inl e.1) (fun e => Or.inr e.1)
                  refine mk_if_eq (tgt := 115) (nx := 107) X d_Judge_judgePairs_104 (by omega) (by decide) rfl (fun c104 => ?_) (fun c104 => ?_)
                  · skip
                    refine mk_iinc (nx := 118) X 6 [(4, .int (zi ((j : Int) + 1))), (6, .int (zi 0)), (5, .int (zi (b : Int))), (0, .ref (ad 36)), (1, .int (zi rule)), (2, .int (zi (i : Int))), (3, .int (zi (a : Int)))] d_Judge_judgePairs_115 rfl (by decide) rfl rfl ?_
                    refine mk_goto (tgt := 22) X d_Judge_judgePairs_118 (by decide) ?_
                    refine mk_lv [3, 4, 5, 6, 0] rfl ?_
                    exact ih22 a (j + 1) (b + 1) Jb (by omega) (by assumption) (by omega) (by omega) (by first | exact hsa | exact hsk2) (by omega) (by first | (rw [pcn_y hbd]; omega) | (rw [pcn_y hvd]; omega)) (by first | (rw [fbs_nil (a := v) (v + 1) (Nat.le_refl _), List.append_nil]; exact hK) | (rw [fbs_y (by omega) hkb2 hsb ((brP_d hw hS hV hn ha4 hb4 ht2).mpr ⟨by assumption, by assumption, by omega, by omega, by omega, (hr101.resolve_right (fun y => absurd y.1 (by omega))).2⟩)]; have e := hJA.1; simp only [List.append_assoc] at e ⊢; exact e) | (rw [fbs_z (by omega) hkb2 hsb (fun z => by obtain ⟨z1, z2, z3, z4, z5, z6⟩ := (brP_d hw hS hV hn ha4 hb4 ht2).mp z; first | omega | exact (hr101.resolve_left (fun y => absurd y.1 (by omega))).2 z6)]; exact hKb)) (by first | exact hfr | exact fun a b x => (hJA.2 a b x).trans (hfb a b x) | exact hfb) (by omega)
                  · skip
                    refine mk_aloadn (nx := 108) X 2 d_Judge_judgePairs_107 rfl rfl ?_
                    refine mk_iloadn (nx := 109) X 3 d_Judge_judgePairs_108 rfl rfl ?_
                    refine mk_iloadn (nx := 110) X 5 d_Judge_judgePairs_109 rfl rfl ?_
                    refine mk_iload (nx := 112) X 1 d_Judge_judgePairs_110 rfl rfl ?_
                    refine mk_callVv (nx := 115) (n := 3) (As := [.int (zi rule), .int (zi (a : Int)), .int (zi (b : Int))]) (rest := []) X 36 (by decide) (sh_Judge cs ad _) rfl (c_Judge_keepFault l D cs ad zt hi Jb s hs (L ++ (fas c t rule k ++ fbs c t rule a kb)) hKb (by simp only [List.length_append]; omega) t hHb.1 rule a b) (g_Judge_keepFault wd_500) rfl ⟨rfl, rfl⟩ (by decide +kernel) ⟨by decide, by decide⟩ rfl (Nat.le_of_ble_eq_true rfl) rfl d_Judge_judgePairs_112 rfl ?_
                    intro JA hJA
                    refine mk_iinc (nx := 118) X 6 [(4, .int (zi ((j : Int) + 1))), (6, .int (zi 0)), (5, .int (zi (b : Int))), (0, .ref (ad 36)), (1, .int (zi rule)), (2, .int (zi (i : Int))), (3, .int (zi (a : Int)))] d_Judge_judgePairs_115 rfl (by decide) rfl rfl ?_
                    refine mk_goto (tgt := 22) X d_Judge_judgePairs_118 (by decide) ?_
                    refine mk_lv [3, 4, 5, 6, 0] rfl ?_
                    exact ih22 a (j + 1) (b + 1) JA (by omega) (by assumption) (by omega) (by omega) (by first | exact hsa | exact hsk2) (by omega) (by first | (rw [pcn_y hbd]; omega) | (rw [pcn_y hvd]; omega)) (by first | (rw [fbs_nil (a := v) (v + 1) (Nat.le_refl _), List.append_nil]; exact hK) | (rw [fbs_y (by omega) hkb2 hsb ((brP_d hw hS hV hn ha4 hb4 ht2).mpr ⟨by assumption, by assumption, by omega, by omega, by omega, (hr101.resolve_right (fun y => absurd y.1 (by omega))).2⟩)]; have e := hJA.1; simp only [List.append_assoc] at e ⊢; exact e) | (rw [fbs_z (by omega) hkb2 hsb (fun z => by obtain ⟨z1, z2, z3, z4, z5, z6⟩ := (brP_d hw hS hV hn ha4 hb4 ht2).mp z; first | omega | exact (hr101.resolve_left (fun y => absurd y.1 (by omega))).2 z6)]; exact hKb)) (by first | exact hfr | exact fun a b x => (hJA.2 a b x).trans (hfb a b x) | exact hfb) (by omega)
                · skip
                  refine mk_aloadn (nx := 87) X 2 d_Judge_judgePairs_86 rfl rfl ?_
                  refine mk_get (nx := 90) (v := .ref (ad 38)) X 36 (by decide) (sh_Judge cs ad _) rfl in_Judge 3 (by decide) wd_212 rfl rfl d_Judge_judgePairs_87 rfl ?_
                  refine mk_iload (nx := 92) X 1 d_Judge_judgePairs_90 rfl rfl ?_
                  refine mk_zald (nx := 93) (j := b) X 38 1 (by decide) (sh_struck cs ad _) rfl (by omega) (by omega) (by decide) rfl d_Judge_judgePairs_92 rfl ?_
                  rw [show Jb 38 b = dSk c t b from (hHvb b (by omega) (by assumption)).1]
                  refine mk_if_eq (tgt := 115) (nx := 96) X d_Judge_judgePairs_93 (by omega) (by decide) rfl (fun c93 => ?_) (fun c93 => ?_)
                  · skip
                    refine mk_iinc (nx := 118) X 6 [(4, .int (zi ((j : Int) + 1))), (6, .int (zi 0)), (5, .int (zi (b : Int))), (0, .ref (ad 36)), (1, .int (zi rule)), (2, .int (zi (i : Int))), (3, .int (zi (a : Int)))] d_Judge_judgePairs_115 rfl (by decide) rfl rfl ?_
                    refine mk_goto (tgt := 22) X d_Judge_judgePairs_118 (by decide) ?_
                    refine mk_lv [3, 4, 5, 6, 0] rfl ?_
                    exact ih22 a (j + 1) (b + 1) Jb (by omega) (by assumption) (by omega) (by omega) (by first | exact hsa | exact hsk2) (by omega) (by first | (rw [pcn_y hbd]; omega) | (rw [pcn_y hvd]; omega)) (by first | (rw [fbs_nil (a := v) (v + 1) (Nat.le_refl _), List.append_nil]; exact hK) | (rw [fbs_y (by omega) hkb2 hsb ((brP_d hw hS hV hn ha4 hb4 ht2).mpr ⟨by assumption, by assumption, by omega, by omega, by omega, (hr101.resolve_right (fun y => absurd y.1 (by omega))).2⟩)]; have e := hJA.1; simp only [List.append_assoc] at e ⊢; exact e) | (rw [fbs_z (by omega) hkb2 hsb (fun z => by obtain ⟨z1, z2, z3, z4, z5, z6⟩ := (brP_d hw hS hV hn ha4 hb4 ht2).mp z; first | omega | exact (hr101.resolve_left (fun y => absurd y.1 (by omega))).2 z6)]; exact hKb)) (by first | exact hfr | exact fun a b x => (hJA.2 a b x).trans (hfb a b x) | exact hfb) (by omega)
                  · skip
                    refine mk_aloadn (nx := 97) X 2 d_Judge_judgePairs_96 rfl rfl ?_
                    refine mk_iloadn (nx := 98) X 3 d_Judge_judgePairs_97 rfl rfl ?_
                    refine mk_iloadn (nx := 99) X 5 d_Judge_judgePairs_98 rfl rfl ?_
                    refine mk_iload (nx := 101) X 1 d_Judge_judgePairs_99 rfl rfl ?_
                    refine mk_callVi (nx := 104) (n := 3) (As := [.int (zi rule), .int (zi (a : Int)), .int (zi (b : Int))]) (rest := []) X 36 (by decide) (sh_Judge cs ad _) rfl (c_Judge_breakTogether l D cs ad zt hi c Jb hw hS hV t hHb a ha4 had b hb4 hbd hBb (by omega) rule hru) (g_Judge_breakTogether wd_508) rfl ⟨rfl, rfl⟩ (by decide +kernel) ⟨by decide, by decide⟩ rfl (Nat.le_of_ble_eq_true rfl) rfl d_Judge_judgePairs_101 rfl ?_
                    intro r101 J2 hJ2
                    obtain ⟨rfl, hr101⟩ := hJ2
                    have hr101b : r101 = 1 ∨ r101 = 0 := hr101.elim (fun e => Or.inl e.1) (fun e => Or.inr e.1)
                    refine mk_if_eq (tgt := 115) (nx := 107) X d_Judge_judgePairs_104 (by omega) (by decide) rfl (fun c104 => ?_) (fun c104 => ?_)
                    · skip
                      refine mk_iinc (nx := 118) X 6 [(4, .int (zi ((j : Int) + 1))), (6, .int (zi 0)), (5, .int (zi (b : Int))), (0, .ref (ad 36)), (1, .int (zi rule)), (2, .int (zi (i : Int))), (3, .int (zi (a : Int)))] d_Judge_judgePairs_115 rfl (by decide) rfl rfl ?_
                      refine mk_goto (tgt := 22) X d_Judge_judgePairs_118 (by decide) ?_
                      refine mk_lv [3, 4, 5, 6, 0] rfl ?_
                      exact ih22 a (j + 1) (b + 1) Jb (by omega) (by assumption) (by omega) (by omega) (by first | exact hsa | exact hsk2) (by omega) (by first | (rw [pcn_y hbd]; omega) | (rw [pcn_y hvd]; omega)) (by first | (rw [fbs_nil (a := v) (v + 1) (Nat.le_refl _), List.append_nil]; exact hK) | (rw [fbs_y (by omega) hkb2 hsb ((brP_d hw hS hV hn ha4 hb4 ht2).mpr ⟨by assumption, by assumption, by omega, by omega, by omega, (hr101.resolve_right (fun y => absurd y.1 (by omega))).2⟩)]; have e := hJA.1; simp only [List.append_assoc] at e ⊢; exact e) | (rw [fbs_z (by omega) hkb2 hsb (fun z => by obtain ⟨z1, z2, z3, z4, z5, z6⟩ := (brP_d hw hS hV hn ha4 hb4 ht2).mp z; first | omega | exact (hr101.resolve_left (fun y => absurd y.1 (by omega))).2 z6)]; exact hKb)) (by first | exact hfr | exact fun a b x => (hJA.2 a b x).trans (hfb a b x) | exact hfb) (by omega)
                    · skip
                      refine mk_aloadn (nx := 108) X 2 d_Judge_judgePairs_107 rfl rfl ?_
                      refine mk_iloadn (nx := 109) X 3 d_Judge_judgePairs_108 rfl rfl ?_
                      refine mk_iloadn (nx := 110) X 5 d_Judge_judgePairs_109 rfl rfl ?_
                      refine mk_iload (nx := 112) X 1 d_Judge_judgePairs_110 rfl rfl ?_
                      refine mk_callVv (nx := 115) (n := 3) (As := [.int (zi rule), .int (zi (a : Int)), .int (zi (b : Int))]) (rest := []) X 36 (by decide) (sh_Judge cs ad _) rfl (c_Judge_keepFault l D cs ad zt hi Jb s hs (L ++ (fas c t rule k ++ fbs c t rule a kb)) hKb (by simp only [List.length_append]; omega) t hHb.1 rule a b) (g_Judge_keepFault wd_500) rfl ⟨rfl, rfl⟩ (by decide +kernel) ⟨by decide, by decide⟩ rfl (Nat.le_of_ble_eq_true rfl) rfl d_Judge_judgePairs_112 rfl ?_
                      intro JA hJA
                      refine mk_iinc (nx := 118) X 6 [(4, .int (zi ((j : Int) + 1))), (6, .int (zi 0)), (5, .int (zi (b : Int))), (0, .ref (ad 36)), (1, .int (zi rule)), (2, .int (zi (i : Int))), (3, .int (zi (a : Int)))] d_Judge_judgePairs_115 rfl (by decide) rfl rfl ?_
                      refine mk_goto (tgt := 22) X d_Judge_judgePairs_118 (by decide) ?_
                      refine mk_lv [3, 4, 5, 6, 0] rfl ?_
                      exact ih22 a (j + 1) (b + 1) JA (by omega) (by assumption) (by omega) (by omega) (by first | exact hsa | exact hsk2) (by omega) (by first | (rw [pcn_y hbd]; omega) | (rw [pcn_y hvd]; omega)) (by first | (rw [fbs_nil (a := v) (v + 1) (Nat.le_refl _), List.append_nil]; exact hK) | (rw [fbs_y (by omega) hkb2 hsb ((brP_d hw hS hV hn ha4 hb4 ht2).mpr ⟨by assumption, by assumption, by omega, by omega, by omega, (hr101.resolve_right (fun y => absurd y.1 (by omega))).2⟩)]; have e := hJA.1; simp only [List.append_assoc] at e ⊢; exact e) | (rw [fbs_z (by omega) hkb2 hsb (fun z => by obtain ⟨z1, z2, z3, z4, z5, z6⟩ := (brP_d hw hS hV hn ha4 hb4 ht2).mp z; first | omega | exact (hr101.resolve_left (fun y => absurd y.1 (by omega))).2 z6)]; exact hKb)) (by first | exact hfr | exact fun a b x => (hJA.2 a b x).trans (hfb a b x) | exact hfb) (by omega)
            · skip
              refine mk_aloadn (nx := 53) X 1 d_Judge_judgePairs_52 rfl rfl ?_
              refine mk_get (nx := 56) (v := .ref (ad 39)) X 36 (by decide) (sh_Judge cs ad _) rfl in_Judge 4 (by decide) wd_213 rfl rfl d_Judge_judgePairs_53 rfl ?_
              refine mk_iload (nx := 58) X 0 d_Judge_judgePairs_56 rfl rfl ?_
              refine mk_iald (nx := 59) (j := b) X 39 0 (by decide) (sh_now cs ad _) rfl (by omega) (by omega) (by decide) rfl d_Judge_judgePairs_58 rfl ?_
              rw [show Jb 39 b = dPt c t b from (hHvb b (by omega) (by assumption)).2.1]
              refine mk_sipush (nx := 62) X d_Judge_judgePairs_59 (by decide) rfl ?_
              refine mk_icmp_eq (tgt := 69) (nx := 65) X d_Judge_judgePairs_62 (by omega) (by omega) (by decide) rfl (fun c62 => ?_) (fun c62 => ?_)
              · skip
                refine mk_iconst (nx := 70) X d_Judge_judgePairs_69 rfl ?_
                refine mk_istore (nx := 72) X [(6, .int (zi 0)), (5, .int (zi (b : Int))), (0, .ref (ad 36)), (1, .int (zi rule)), (2, .int (zi (i : Int))), (3, .int (zi (a : Int))), (4, .int (zi (j : Int)))] d_Judge_judgePairs_70 (by decide) rfl rfl ?_
                refine mk_iload (nx := 74) X 0 d_Judge_judgePairs_72 rfl rfl ?_
                refine mk_if_eq (tgt := 115) (nx := 77) X d_Judge_judgePairs_74 (by omega) (by decide) rfl (fun c74 => ?_) (fun c74 => ?_)
                · skip
                  refine mk_iinc (nx := 118) X 6 [(4, .int (zi ((j : Int) + 1))), (6, .int (zi 0)), (5, .int (zi (b : Int))), (0, .ref (ad 36)), (1, .int (zi rule)), (2, .int (zi (i : Int))), (3, .int (zi (a : Int)))] d_Judge_judgePairs_115 rfl (by decide) rfl rfl ?_
                  refine mk_goto (tgt := 22) X d_Judge_judgePairs_118 (by decide) ?_
                  refine mk_lv [3, 4, 5, 6, 0] rfl ?_
                  exact ih22 a (j + 1) (b + 1) Jb (by omega) (by assumption) (by omega) (by omega) (by first | exact hsa | exact hsk2) (by omega) (by first | (rw [pcn_y hbd]; omega) | (rw [pcn_y hvd]; omega)) (by first | (rw [fbs_nil (a := v) (v + 1) (Nat.le_refl _), List.append_nil]; exact hK) | (rw [fbs_y (by omega) hkb2 hsb ((brP_d hw hS hV hn ha4 hb4 ht2).mpr ⟨by assumption, by assumption, by omega, by omega, by omega, (hr101.resolve_right (fun y => absurd y.1 (by omega))).2⟩)]; have e := hJA.1; simp only [List.append_assoc] at e ⊢; exact e) | (rw [fbs_z (by omega) hkb2 hsb (fun z => by obtain ⟨z1, z2, z3, z4, z5, z6⟩ := (brP_d hw hS hV hn ha4 hb4 ht2).mp z; first | omega | exact (hr101.resolve_left (fun y => absurd y.1 (by omega))).2 z6)]; exact hKb)) (by first | exact hfr | exact fun a b x => (hJA.2 a b x).trans (hfb a b x) | exact hfb) (by omega)
                · skip
                  refine mk_aloadn (nx := 78) X 2 d_Judge_judgePairs_77 rfl rfl ?_
                  refine mk_get (nx := 81) (v := .ref (ad 38)) X 36 (by decide) (sh_Judge cs ad _) rfl in_Judge 3 (by decide) wd_212 rfl rfl d_Judge_judgePairs_78 rfl ?_
                  refine mk_iloadn (nx := 82) X 5 d_Judge_judgePairs_81 rfl rfl ?_
                  refine mk_zald (nx := 83) (j := a) X 38 1 (by decide) (sh_struck cs ad _) rfl (by omega) (by omega) (by decide) rfl d_Judge_judgePairs_82 rfl ?_
                  rw [show Jb 38 a = dSk c t a from (hHvb a (by omega) (by assumption)).1]
                  refine mk_if_ne (tgt := 96) (nx := 86) X d_Judge_judgePairs_83 (by omega) (by decide) rfl (fun c83 => ?_) (fun c83 => ?_)
                  · skip
                    refine mk_aloadn (nx := 97) X 2 d_Judge_judgePairs_96 rfl rfl ?_
                    refine mk_iloadn (nx := 98) X 3 d_Judge_judgePairs_97 rfl rfl ?_
                    refine mk_iloadn (nx := 99) X 5 d_Judge_judgePairs_98 rfl rfl ?_
                    refine mk_iload (nx := 101) X 1 d_Judge_judgePairs_99 rfl rfl ?_
                    refine mk_callVi (nx := 104) (n := 3) (As := [.int (zi rule), .int (zi (a : Int)), .int (zi (b : Int))]) (rest := []) X 36 (by decide) (sh_Judge cs ad _) rfl (c_Judge_breakTogether l D cs ad zt hi c Jb hw hS hV t hHb a ha4 had b hb4 hbd hBb (by omega) rule hru) (g_Judge_breakTogether wd_508) rfl ⟨rfl, rfl⟩ (by decide +kernel) ⟨by decide, by decide⟩ rfl (Nat.le_of_ble_eq_true rfl) rfl d_Judge_judgePairs_101 rfl ?_
                    intro r101 J3 hJ3
                    obtain ⟨rfl, hr101⟩ := hJ3
                    have hr101b : r101 = 1 ∨ r101 = 0 := hr101.elim (fun e => Or.inl e.1) (fun e => Or.inr e.1)
                    refine mk_if_eq (tgt := 115) (nx := 107) X d_Judge_judgePairs_104 (by omega) (by decide) rfl (fun c104 => ?_) (fun c104 => ?_)
                    · skip
                      refine mk_iinc (nx := 118) X 6 [(4, .int (zi ((j : Int) + 1))), (6, .int (zi 0)), (5, .int (zi (b : Int))), (0, .ref (ad 36)), (1, .int (zi rule)), (2, .int (zi (i : Int))), (3, .int (zi (a : Int)))] d_Judge_judgePairs_115 rfl (by decide) rfl rfl ?_
                      refine mk_goto (tgt := 22) X d_Judge_judgePairs_118 (by decide) ?_
                      refine mk_lv [3, 4, 5, 6, 0] rfl ?_
                      exact ih22 a (j + 1) (b + 1) Jb (by omega) (by assumption) (by omega) (by omega) (by first | exact hsa | exact hsk2) (by omega) (by first | (rw [pcn_y hbd]; omega) | (rw [pcn_y hvd]; omega)) (by first | (rw [fbs_nil (a := v) (v + 1) (Nat.le_refl _), List.append_nil]; exact hK) | (rw [fbs_y (by omega) hkb2 hsb ((brP_d hw hS hV hn ha4 hb4 ht2).mpr ⟨by assumption, by assumption, by omega, by omega, by omega, (hr101.resolve_right (fun y => absurd y.1 (by omega))).2⟩)]; have e := hJA.1; simp only [List.append_assoc] at e ⊢; exact e) | (rw [fbs_z (by omega) hkb2 hsb (fun z => by obtain ⟨z1, z2, z3, z4, z5, z6⟩ := (brP_d hw hS hV hn ha4 hb4 ht2).mp z; first | omega | exact (hr101.resolve_left (fun y => absurd y.1 (by omega))).2 z6)]; exact hKb)) (by first | exact hfr | exact fun a b x => (hJA.2 a b x).trans (hfb a b x) | exact hfb) (by omega)
                    · skip
                      refine mk_aloadn (nx := 108) X 2 d_Judge_judgePairs_107 rfl rfl ?_
                      refine mk_iloadn (nx := 109) X 3 d_Judge_judgePairs_108 rfl rfl ?_
                      refine mk_iloadn (nx := 110) X 5 d_Judge_judgePairs_109 rfl rfl ?_
                      refine mk_iload (nx := 112) X 1 d_Judge_judgePairs_110 rfl rfl ?_
                      refine mk_callVv (nx := 115) (n := 3) (As := [.int (zi rule), .int (zi (a : Int)), .int (zi (b : Int))]) (rest := []) X 36 (by decide) (sh_Judge cs ad _) rfl (c_Judge_keepFault l D cs ad zt hi Jb s hs (L ++ (fas c t rule k ++ fbs c t rule a kb)) hKb (by simp only [List.length_append]; omega) t hHb.1 rule a b) (g_Judge_keepFault wd_500) rfl ⟨rfl, rfl⟩ (by decide +kernel) ⟨by decide, by decide⟩ rfl (Nat.le_of_ble_eq_true rfl) rfl d_Judge_judgePairs_112 rfl ?_
                      intro JA hJA
                      refine mk_iinc (nx := 118) X 6 [(4, .int (zi ((j : Int) + 1))), (6, .int (zi 0)), (5, .int (zi (b : Int))), (0, .ref (ad 36)), (1, .int (zi rule)), (2, .int (zi (i : Int))), (3, .int (zi (a : Int)))] d_Judge_judgePairs_115 rfl (by decide) rfl rfl ?_
                      refine mk_goto (tgt := 22) X d_Judge_judgePairs_118 (by decide) ?_
                      refine mk_lv [3, 4, 5, 6, 0] rfl ?_
                      exact ih22 a (j + 1) (b + 1) JA (by omega) (by assumption) (by omega) (by omega) (by first | exact hsa | exact hsk2) (by omega) (by first | (rw [pcn_y hbd]; omega) | (rw [pcn_y hvd]; omega)) (by first | (rw [fbs_nil (a := v) (v + 1) (Nat.le_refl _), List.append_nil]; exact hK) | (rw [fbs_y (by omega) hkb2 hsb ((brP_d hw hS hV hn ha4 hb4 ht2).mpr ⟨by assumption, by assumption, by omega, by omega, by omega, (hr101.resolve_right (fun y => absurd y.1 (by omega))).2⟩)]; have e := hJA.1; simp only [List.append_assoc] at e ⊢; exact e) | (rw [fbs_z (by omega) hkb2 hsb (fun z => by obtain ⟨z1, z2, z3, z4, z5, z6⟩ := (brP_d hw hS hV hn ha4 hb4 ht2).mp z; first | omega | exact (hr101.resolve_left (fun y => absurd y.1 (by omega))).2 z6)]; exact hKb)) (by first | exact hfr | exact fun a b x => (hJA.2 a b x).trans (hfb a b x) | exact hfb) (by omega)
                  · skip
                    refine mk_aloadn (nx := 87) X 2 d_Judge_judgePairs_86 rfl rfl ?_
                    refine mk_get (nx := 90) (v := .ref (ad 38)) X 36 (by decide) (sh_Judge cs ad _) rfl in_Judge 3 (by decide) wd_212 rfl rfl d_Judge_judgePairs_87 rfl ?_
                    refine mk_iload (nx := 92) X 1 d_Judge_judgePairs_90 rfl rfl ?_
                    refine mk_zald (nx := 93) (j := b) X 38 1 (by decide) (sh_struck cs ad _) rfl (by omega) (by omega) (by decide) rfl d_Judge_judgePairs_92 rfl ?_
                    rw [show Jb 38 b = dSk c t b from (hHvb b (by omega) (by assumption)).1]
                    refine mk_if_eq (tgt := 115) (nx := 96) X d_Judge_judgePairs_93 (by omega) (by decide) rfl (fun c93 => ?_) (fun c93 => ?_)
                    · skip
                      refine mk_iinc (nx := 118) X 6 [(4, .int (zi ((j : Int) + 1))), (6, .int (zi 0)), (5, .int (zi (b : Int))), (0, .ref (ad 36)), (1, .int (zi rule)), (2, .int (zi (i : Int))), (3, .int (zi (a : Int)))] d_Judge_judgePairs_115 rfl (by decide) rfl rfl ?_
                      refine mk_goto (tgt := 22) X d_Judge_judgePairs_118 (by decide) ?_
                      refine mk_lv [3, 4, 5, 6, 0] rfl ?_
                      exact ih22 a (j + 1) (b + 1) Jb (by omega) (by assumption) (by omega) (by omega) (by first | exact hsa | exact hsk2) (by omega) (by first | (rw [pcn_y hbd]; omega) | (rw [pcn_y hvd]; omega)) (by first | (rw [fbs_nil (a := v) (v + 1) (Nat.le_refl _), List.append_nil]; exact hK) | (rw [fbs_y (by omega) hkb2 hsb ((brP_d hw hS hV hn ha4 hb4 ht2).mpr ⟨by assumption, by assumption, by omega, by omega, by omega, (hr101.resolve_right (fun y => absurd y.1 (by omega))).2⟩)]; have e := hJA.1; simp only [List.append_assoc] at e ⊢; exact e) | (rw [fbs_z (by omega) hkb2 hsb (fun z => by obtain ⟨z1, z2, z3, z4, z5, z6⟩ := (brP_d hw hS hV hn ha4 hb4 ht2).mp z; first | omega | exact (hr101.resolve_left (fun y => absurd y.1 (by omega))).2 z6)]; exact hKb)) (by first | exact hfr | exact fun a b x => (hJA.2 a b x).trans (hfb a b x) | exact hfb) (by omega)
                    · skip
                      refine mk_aloadn (nx := 97) X 2 d_Judge_judgePairs_96 rfl rfl ?_
                      refine mk_iloadn (nx := 98) X 3 d_Judge_judgePairs_97 rfl rfl ?_
                      refine mk_iloadn (nx := 99) X 5 d_Judge_judgePairs_98 rfl rfl ?_
                      refine mk_iload (nx := 101) X 1 d_Judge_judgePairs_99 rfl rfl ?_
                      refine mk_callVi (nx := 104) (n := 3) (As := [.int (zi rule), .int (zi (a : Int)), .int (zi (b : Int))]) (rest := []) X 36 (by decide) (sh_Judge cs ad _) rfl (c_Judge_breakTogether l D cs ad zt hi c Jb hw hS hV t hHb a ha4 had b hb4 hbd hBb (by omega) rule hru) (g_Judge_breakTogether wd_508) rfl ⟨rfl, rfl⟩ (by decide +kernel) ⟨by decide, by decide⟩ rfl (Nat.le_of_ble_eq_true rfl) rfl d_Judge_judgePairs_101 rfl ?_
                      intro r101 J4 hJ4
                      obtain ⟨rfl, hr101⟩ := hJ4
                      have hr101b : r101 = 1 ∨ r101 = 0 := hr101.elim (fun e => Or.inl e.1) (fun e => Or.inr e.1)
                      refine mk_if_eq (tgt := 115) (nx := 107) X d_Judge_judgePairs_104 (by omega) (by decide) rfl (fun c104 => ?_) (fun c104 => ?_)
                      · skip
                        refine mk_iinc (nx := 118) X 6 [(4, .int (zi ((j : Int) + 1))), (6, .int (zi 0)), (5, .int (zi (b : Int))), (0, .ref (ad 36)), (1, .int (zi rule)), (2, .int (zi (i : Int))), (3, .int (zi (a : Int)))] d_Judge_judgePairs_115 rfl (by decide) rfl rfl ?_
                        refine mk_goto (tgt := 22) X d_Judge_judgePairs_118 (by decide) ?_
                        refine mk_lv [3, 4, 5, 6, 0] rfl ?_
                        exact ih22 a (j + 1) (b + 1) Jb (by omega) (by assumption) (by omega) (by omega) (by first | exact hsa | exact hsk2) (by omega) (by first | (rw [pcn_y hbd]; omega) | (rw [pcn_y hvd]; omega)) (by first | (rw [fbs_nil (a := v) (v + 1) (Nat.le_refl _), List.append_nil]; exact hK) | (rw [fbs_y (by omega) hkb2 hsb ((brP_d hw hS hV hn ha4 hb4 ht2).mpr ⟨by assumption, by assumption, by omega, by omega, by omega, (hr101.resolve_right (fun y => absurd y.1 (by omega))).2⟩)]; have e := hJA.1; simp only [List.append_assoc] at e ⊢; exact e) | (rw [fbs_z (by omega) hkb2 hsb (fun z => by obtain ⟨z1, z2, z3, z4, z5, z6⟩ := (brP_d hw hS hV hn ha4 hb4 ht2).mp z; first | omega | exact (hr101.resolve_left (fun y => absurd y.1 (by omega))).2 z6)]; exact hKb)) (by first | exact hfr | exact fun a b x => (hJA.2 a b x).trans (hfb a b x) | exact hfb) (by omega)
                      · skip
                        refine mk_aloadn (nx := 108) X 2 d_Judge_judgePairs_107 rfl rfl ?_
                        refine mk_iloadn (nx := 109) X 3 d_Judge_judgePairs_108 rfl rfl ?_
                        refine mk_iloadn (nx := 110) X 5 d_Judge_judgePairs_109 rfl rfl ?_
                        refine mk_iload (nx := 112) X 1 d_Judge_judgePairs_110 rfl rfl ?_
                        refine mk_callVv (nx := 115) (n := 3) (As := [.int (zi rule), .int (zi (a : Int)), .int (zi (b : Int))]) (rest := []) X 36 (by decide) (sh_Judge cs ad _) rfl (c_Judge_keepFault l D cs ad zt hi Jb s hs (L ++ (fas c t rule k ++ fbs c t rule a kb)) hKb (by simp only [List.length_append]; omega) t hHb.1 rule a b) (g_Judge_keepFault wd_500) rfl ⟨rfl, rfl⟩ (by decide +kernel) ⟨by decide, by decide⟩ rfl (Nat.le_of_ble_eq_true rfl) rfl d_Judge_judgePairs_112 rfl ?_
                        intro JA hJA
                        refine mk_iinc (nx := 118) X 6 [(4, .int (zi ((j : Int) + 1))), (6, .int (zi 0)), (5, .int (zi (b : Int))), (0, .ref (ad 36)), (1, .int (zi rule)), (2, .int (zi (i : Int))), (3, .int (zi (a : Int)))] d_Judge_judgePairs_115 rfl (by decide) rfl rfl ?_
                        refine mk_goto (tgt := 22) X d_Judge_judgePairs_118 (by decide) ?_
                        refine mk_lv [3, 4, 5, 6, 0] rfl ?_
                        exact ih22 a (j + 1) (b + 1) JA (by omega) (by assumption) (by omega) (by omega) (by first | exact hsa | exact hsk2) (by omega) (by first | (rw [pcn_y hbd]; omega) | (rw [pcn_y hvd]; omega)) (by first | (rw [fbs_nil (a := v) (v + 1) (Nat.le_refl _), List.append_nil]; exact hK) | (rw [fbs_y (by omega) hkb2 hsb ((brP_d hw hS hV hn ha4 hb4 ht2).mpr ⟨by assumption, by assumption, by omega, by omega, by omega, (hr101.resolve_right (fun y => absurd y.1 (by omega))).2⟩)]; have e := hJA.1; simp only [List.append_assoc] at e ⊢; exact e) | (rw [fbs_z (by omega) hkb2 hsb (fun z => by obtain ⟨z1, z2, z3, z4, z5, z6⟩ := (brP_d hw hS hV hn ha4 hb4 ht2).mp z; first | omega | exact (hr101.resolve_left (fun y => absurd y.1 (by omega))).2 z6)]; exact hKb)) (by first | exact hfr | exact fun a b x => (hJA.2 a b x).trans (hfb a b x) | exact hfb) (by omega)
              · skip
                refine mk_iconst (nx := 66) X d_Judge_judgePairs_65 rfl ?_
                refine mk_goto (tgt := 70) X d_Judge_judgePairs_66 (by decide) ?_
                refine mk_istore (nx := 72) X [(6, .int (zi 1)), (5, .int (zi (b : Int))), (0, .ref (ad 36)), (1, .int (zi rule)), (2, .int (zi (i : Int))), (3, .int (zi (a : Int))), (4, .int (zi (j : Int)))] d_Judge_judgePairs_70 (by decide) rfl rfl ?_
                refine mk_iload (nx := 74) X 0 d_Judge_judgePairs_72 rfl rfl ?_
                refine mk_if_eq (tgt := 115) (nx := 77) X d_Judge_judgePairs_74 (by omega) (by decide) rfl (fun c74 => ?_) (fun c74 => ?_)
                · skip
                  refine mk_iinc (nx := 118) X 6 [(4, .int (zi ((j : Int) + 1))), (6, .int (zi 1)), (5, .int (zi (b : Int))), (0, .ref (ad 36)), (1, .int (zi rule)), (2, .int (zi (i : Int))), (3, .int (zi (a : Int)))] d_Judge_judgePairs_115 rfl (by decide) rfl rfl ?_
                  refine mk_goto (tgt := 22) X d_Judge_judgePairs_118 (by decide) ?_
                  refine mk_lv [3, 4, 5, 6, 0] rfl ?_
                  exact ih22 a (j + 1) (b + 1) Jb (by omega) (by assumption) (by omega) (by omega) (by first | exact hsa | exact hsk2) (by omega) (by first | (rw [pcn_y hbd]; omega) | (rw [pcn_y hvd]; omega)) (by first | (rw [fbs_nil (a := v) (v + 1) (Nat.le_refl _), List.append_nil]; exact hK) | (rw [fbs_y (by omega) hkb2 hsb ((brP_d hw hS hV hn ha4 hb4 ht2).mpr ⟨by assumption, by assumption, by omega, by omega, by omega, (hr101.resolve_right (fun y => absurd y.1 (by omega))).2⟩)]; have e := hJA.1; simp only [List.append_assoc] at e ⊢; exact e) | (rw [fbs_z (by omega) hkb2 hsb (fun z => by obtain ⟨z1, z2, z3, z4, z5, z6⟩ := (brP_d hw hS hV hn ha4 hb4 ht2).mp z; first | omega | exact (hr101.resolve_left (fun y => absurd y.1 (by omega))).2 z6)]; exact hKb)) (by first | exact hfr | exact fun a b x => (hJA.2 a b x).trans (hfb a b x) | exact hfb) (by omega)
                · skip
                  refine mk_aloadn (nx := 78) X 2 d_Judge_judgePairs_77 rfl rfl ?_
                  refine mk_get (nx := 81) (v := .ref (ad 38)) X 36 (by decide) (sh_Judge cs ad _) rfl in_Judge 3 (by decide) wd_212 rfl rfl d_Judge_judgePairs_78 rfl ?_
                  refine mk_iloadn (nx := 82) X 5 d_Judge_judgePairs_81 rfl rfl ?_
                  refine mk_zald (nx := 83) (j := a) X 38 1 (by decide) (sh_struck cs ad _) rfl (by omega) (by omega) (by decide) rfl d_Judge_judgePairs_82 rfl ?_
                  rw [show Jb 38 a = dSk c t a from (hHvb a (by omega) (by assumption)).1]
                  refine mk_if_ne (tgt := 96) (nx := 86) X d_Judge_judgePairs_83 (by omega) (by decide) rfl (fun c83 => ?_) (fun c83 => ?_)
                  · skip
                    refine mk_aloadn (nx := 97) X 2 d_Judge_judgePairs_96 rfl rfl ?_
                    refine mk_iloadn (nx := 98) X 3 d_Judge_judgePairs_97 rfl rfl ?_
                    refine mk_iloadn (nx := 99) X 5 d_Judge_judgePairs_98 rfl rfl ?_
                    refine mk_iload (nx := 101) X 1 d_Judge_judgePairs_99 rfl rfl ?_
                    refine mk_callVi (nx := 104) (n := 3) (As := [.int (zi rule), .int (zi (a : Int)), .int (zi (b : Int))]) (rest := []) X 36 (by decide) (sh_Judge cs ad _) rfl (c_Judge_breakTogether l D cs ad zt hi c Jb hw hS hV t hHb a ha4 had b hb4 hbd hBb (by omega) rule hru) (g_Judge_breakTogether wd_508) rfl ⟨rfl, rfl⟩ (by decide +kernel) ⟨by decide, by decide⟩ rfl (Nat.le_of_ble_eq_true rfl) rfl d_Judge_judgePairs_101 rfl ?_
                    intro r101 J5 hJ5
                    obtain ⟨rfl, hr101⟩ := hJ5
                    have hr101b : r101 = 1 ∨ r101 = 0 := hr101.elim (fun e => Or.inl e.1) (fun e => Or.inr e.1)
                    refine mk_if_eq (tgt := 115) (nx := 107) X d_Judge_judgePairs_104 (by omega) (by decide) rfl (fun c104 => ?_) (fun c104 => ?_)
                    · skip
                      refine mk_iinc (nx := 118) X 6 [(4, .int (zi ((j : Int) + 1))), (6, .int (zi 1)), (5, .int (zi (b : Int))), (0, .ref (ad 36)), (1, .int (zi rule)), (2, .int (zi (i : Int))), (3, .int (zi (a : Int)))] d_Judge_judgePairs_115 rfl (by decide) rfl rfl ?_
                      refine mk_goto (tgt := 22) X d_Judge_judgePairs_118 (by decide) ?_
                      refine mk_lv [3, 4, 5, 6, 0] rfl ?_
                      exact ih22 a (j + 1) (b + 1) Jb (by omega) (by assumption) (by omega) (by omega) (by first | exact hsa | exact hsk2) (by omega) (by first | (rw [pcn_y hbd]; omega) | (rw [pcn_y hvd]; omega)) (by first | (rw [fbs_nil (a := v) (v + 1) (Nat.le_refl _), List.append_nil]; exact hK) | (rw [fbs_y (by omega) hkb2 hsb ((brP_d hw hS hV hn ha4 hb4 ht2).mpr ⟨by assumption, by assumption, by omega, by omega, by omega, (hr101.resolve_right (fun y => absurd y.1 (by omega))).2⟩)]; have e := hJA.1; simp only [List.append_assoc] at e ⊢; exact e) | (rw [fbs_z (by omega) hkb2 hsb (fun z => by obtain ⟨z1, z2, z3, z4, z5, z6⟩ := (brP_d hw hS hV hn ha4 hb4 ht2).mp z; first | omega | exact (hr101.resolve_left (fun y => absurd y.1 (by omega))).2 z6)]; exact hKb)) (by first | exact hfr | exact fun a b x => (hJA.2 a b x).trans (hfb a b x) | exact hfb) (by omega)
                    · skip
                      refine mk_aloadn (nx := 108) X 2 d_Judge_judgePairs_107 rfl rfl ?_
                      refine mk_iloadn (nx := 109) X 3 d_Judge_judgePairs_108 rfl rfl ?_
                      refine mk_iloadn (nx := 110) X 5 d_Judge_judgePairs_109 rfl rfl ?_
                      refine mk_iload (nx := 112) X 1 d_Judge_judgePairs_110 rfl rfl ?_
                      refine mk_callVv (nx := 115) (n := 3) (As := [.int (zi rule), .int (zi (a : Int)), .int (zi (b : Int))]) (rest := []) X 36 (by decide) (sh_Judge cs ad _) rfl (c_Judge_keepFault l D cs ad zt hi Jb s hs (L ++ (fas c t rule k ++ fbs c t rule a kb)) hKb (by simp only [List.length_append]; omega) t hHb.1 rule a b) (g_Judge_keepFault wd_500) rfl ⟨rfl, rfl⟩ (by decide +kernel) ⟨by decide, by decide⟩ rfl (Nat.le_of_ble_eq_true rfl) rfl d_Judge_judgePairs_112 rfl ?_
                      intro JA hJA
                      refine mk_iinc (nx := 118) X 6 [(4, .int (zi ((j : Int) + 1))), (6, .int (zi 1)), (5, .int (zi (b : Int))), (0, .ref (ad 36)), (1, .int (zi rule)), (2, .int (zi (i : Int))), (3, .int (zi (a : Int)))] d_Judge_judgePairs_115 rfl (by decide) rfl rfl ?_
                      refine mk_goto (tgt := 22) X d_Judge_judgePairs_118 (by decide) ?_
                      refine mk_lv [3, 4, 5, 6, 0] rfl ?_
                      exact ih22 a (j + 1) (b + 1) JA (by omega) (by assumption) (by omega) (by omega) (by first | exact hsa | exact hsk2) (by omega) (by first | (rw [pcn_y hbd]; omega) | (rw [pcn_y hvd]; omega)) (by first | (rw [fbs_nil (a := v) (v + 1) (Nat.le_refl _), List.append_nil]; exact hK) | (rw [fbs_y (by omega) hkb2 hsb ((brP_d hw hS hV hn ha4 hb4 ht2).mpr ⟨by assumption, by assumption, by omega, by omega, by omega, (hr101.resolve_right (fun y => absurd y.1 (by omega))).2⟩)]; have e := hJA.1; simp only [List.append_assoc] at e ⊢; exact e) | (rw [fbs_z (by omega) hkb2 hsb (fun z => by obtain ⟨z1, z2, z3, z4, z5, z6⟩ := (brP_d hw hS hV hn ha4 hb4 ht2).mp z; first | omega | exact (hr101.resolve_left (fun y => absurd y.1 (by omega))).2 z6)]; exact hKb)) (by first | exact hfr | exact fun a b x => (hJA.2 a b x).trans (hfb a b x) | exact hfb) (by omega)
                  · skip
                    refine mk_aloadn (nx := 87) X 2 d_Judge_judgePairs_86 rfl rfl ?_
                    refine mk_get (nx := 90) (v := .ref (ad 38)) X 36 (by decide) (sh_Judge cs ad _) rfl in_Judge 3 (by decide) wd_212 rfl rfl d_Judge_judgePairs_87 rfl ?_
                    refine mk_iload (nx := 92) X 1 d_Judge_judgePairs_90 rfl rfl ?_
                    refine mk_zald (nx := 93) (j := b) X 38 1 (by decide) (sh_struck cs ad _) rfl (by omega) (by omega) (by decide) rfl d_Judge_judgePairs_92 rfl ?_
                    rw [show Jb 38 b = dSk c t b from (hHvb b (by omega) (by assumption)).1]
                    refine mk_if_eq (tgt := 115) (nx := 96) X d_Judge_judgePairs_93 (by omega) (by decide) rfl (fun c93 => ?_) (fun c93 => ?_)
                    · skip
                      refine mk_iinc (nx := 118) X 6 [(4, .int (zi ((j : Int) + 1))), (6, .int (zi 1)), (5, .int (zi (b : Int))), (0, .ref (ad 36)), (1, .int (zi rule)), (2, .int (zi (i : Int))), (3, .int (zi (a : Int)))] d_Judge_judgePairs_115 rfl (by decide) rfl rfl ?_
                      refine mk_goto (tgt := 22) X d_Judge_judgePairs_118 (by decide) ?_
                      refine mk_lv [3, 4, 5, 6, 0] rfl ?_
                      exact ih22 a (j + 1) (b + 1) Jb (by omega) (by assumption) (by omega) (by omega) (by first | exact hsa | exact hsk2) (by omega) (by first | (rw [pcn_y hbd]; omega) | (rw [pcn_y hvd]; omega)) (by first | (rw [fbs_nil (a := v) (v + 1) (Nat.le_refl _), List.append_nil]; exact hK) | (rw [fbs_y (by omega) hkb2 hsb ((brP_d hw hS hV hn ha4 hb4 ht2).mpr ⟨by assumption, by assumption, by omega, by omega, by omega, (hr101.resolve_right (fun y => absurd y.1 (by omega))).2⟩)]; have e := hJA.1; simp only [List.append_assoc] at e ⊢; exact e) | (rw [fbs_z (by omega) hkb2 hsb (fun z => by obtain ⟨z1, z2, z3, z4, z5, z6⟩ := (brP_d hw hS hV hn ha4 hb4 ht2).mp z; first | omega | exact (hr101.resolve_left (fun y => absurd y.1 (by omega))).2 z6)]; exact hKb)) (by first | exact hfr | exact fun a b x => (hJA.2 a b x).trans (hfb a b x) | exact hfb) (by omega)
                    · skip
                      refine mk_aloadn (nx := 97) X 2 d_Judge_judgePairs_96 rfl rfl ?_
                      refine mk_iloadn (nx := 98) X 3 d_Judge_judgePairs_97 rfl rfl ?_
                      refine mk_iloadn (nx := 99) X 5 d_Judge_judgePairs_98 rfl rfl ?_
                      refine mk_iload (nx := 101) X 1 d_Judge_judgePairs_99 rfl rfl ?_
                      refine mk_callVi (nx := 104) (n := 3) (As := [.int (zi rule), .int (zi (a : Int)), .int (zi (b : Int))]) (rest := []) X 36 (by decide) (sh_Judge cs ad _) rfl (c_Judge_breakTogether l D cs ad zt hi c Jb hw hS hV t hHb a ha4 had b hb4 hbd hBb (by omega) rule hru) (g_Judge_breakTogether wd_508) rfl ⟨rfl, rfl⟩ (by decide +kernel) ⟨by decide, by decide⟩ rfl (Nat.le_of_ble_eq_true rfl) rfl d_Judge_judgePairs_101 rfl ?_
                      intro r101 J6 hJ6
                      obtain ⟨rfl, hr101⟩ := hJ6
                      have hr101b : r101 = 1 ∨ r101 = 0 := hr101.elim (fun e => Or.inl e.1) (fun e => Or.inr e.1)
                      refine mk_if_eq (tgt := 115) (nx := 107) X d_Judge_judgePairs_104 (by omega) (by decide) rfl (fun c104 => ?_) (fun c104 => ?_)
                      · skip
                        refine mk_iinc (nx := 118) X 6 [(4, .int (zi ((j : Int) + 1))), (6, .int (zi 1)), (5, .int (zi (b : Int))), (0, .ref (ad 36)), (1, .int (zi rule)), (2, .int (zi (i : Int))), (3, .int (zi (a : Int)))] d_Judge_judgePairs_115 rfl (by decide) rfl rfl ?_
                        refine mk_goto (tgt := 22) X d_Judge_judgePairs_118 (by decide) ?_
                        refine mk_lv [3, 4, 5, 6, 0] rfl ?_
                        exact ih22 a (j + 1) (b + 1) Jb (by omega) (by assumption) (by omega) (by omega) (by first | exact hsa | exact hsk2) (by omega) (by first | (rw [pcn_y hbd]; omega) | (rw [pcn_y hvd]; omega)) (by first | (rw [fbs_nil (a := v) (v + 1) (Nat.le_refl _), List.append_nil]; exact hK) | (rw [fbs_y (by omega) hkb2 hsb ((brP_d hw hS hV hn ha4 hb4 ht2).mpr ⟨by assumption, by assumption, by omega, by omega, by omega, (hr101.resolve_right (fun y => absurd y.1 (by omega))).2⟩)]; have e := hJA.1; simp only [List.append_assoc] at e ⊢; exact e) | (rw [fbs_z (by omega) hkb2 hsb (fun z => by obtain ⟨z1, z2, z3, z4, z5, z6⟩ := (brP_d hw hS hV hn ha4 hb4 ht2).mp z; first | omega | exact (hr101.resolve_left (fun y => absurd y.1 (by omega))).2 z6)]; exact hKb)) (by first | exact hfr | exact fun a b x => (hJA.2 a b x).trans (hfb a b x) | exact hfb) (by omega)
                      · skip
                        refine mk_aloadn (nx := 108) X 2 d_Judge_judgePairs_107 rfl rfl ?_
                        refine mk_iloadn (nx := 109) X 3 d_Judge_judgePairs_108 rfl rfl ?_
                        refine mk_iloadn (nx := 110) X 5 d_Judge_judgePairs_109 rfl rfl ?_
                        refine mk_iload (nx := 112) X 1 d_Judge_judgePairs_110 rfl rfl ?_
                        refine mk_callVv (nx := 115) (n := 3) (As := [.int (zi rule), .int (zi (a : Int)), .int (zi (b : Int))]) (rest := []) X 36 (by decide) (sh_Judge cs ad _) rfl (c_Judge_keepFault l D cs ad zt hi Jb s hs (L ++ (fas c t rule k ++ fbs c t rule a kb)) hKb (by simp only [List.length_append]; omega) t hHb.1 rule a b) (g_Judge_keepFault wd_500) rfl ⟨rfl, rfl⟩ (by decide +kernel) ⟨by decide, by decide⟩ rfl (Nat.le_of_ble_eq_true rfl) rfl d_Judge_judgePairs_112 rfl ?_
                        intro JA hJA
                        refine mk_iinc (nx := 118) X 6 [(4, .int (zi ((j : Int) + 1))), (6, .int (zi 1)), (5, .int (zi (b : Int))), (0, .ref (ad 36)), (1, .int (zi rule)), (2, .int (zi (i : Int))), (3, .int (zi (a : Int)))] d_Judge_judgePairs_115 rfl (by decide) rfl rfl ?_
                        refine mk_goto (tgt := 22) X d_Judge_judgePairs_118 (by decide) ?_
                        refine mk_lv [3, 4, 5, 6, 0] rfl ?_
                        exact ih22 a (j + 1) (b + 1) JA (by omega) (by assumption) (by omega) (by omega) (by first | exact hsa | exact hsk2) (by omega) (by first | (rw [pcn_y hbd]; omega) | (rw [pcn_y hvd]; omega)) (by first | (rw [fbs_nil (a := v) (v + 1) (Nat.le_refl _), List.append_nil]; exact hK) | (rw [fbs_y (by omega) hkb2 hsb ((brP_d hw hS hV hn ha4 hb4 ht2).mpr ⟨by assumption, by assumption, by omega, by omega, by omega, (hr101.resolve_right (fun y => absurd y.1 (by omega))).2⟩)]; have e := hJA.1; simp only [List.append_assoc] at e ⊢; exact e) | (rw [fbs_z (by omega) hkb2 hsb (fun z => by obtain ⟨z1, z2, z3, z4, z5, z6⟩ := (brP_d hw hS hV hn ha4 hb4 ht2).mp z; first | omega | exact (hr101.resolve_left (fun y => absurd y.1 (by omega))).2 z6)]; exact hKb)) (by first | exact hfr | exact fun a b x => (hJA.2 a b x).trans (hfb a b x) | exact hfb) (by omega)
      refine mk_iloadn (nx := 3) X 2 d_Judge_judgePairs_2 rfl rfl ?_
      refine mk_aloadn (nx := 4) X 0 d_Judge_judgePairs_3 rfl rfl ?_
      refine mk_get (nx := 7) (v := .int (zi (J 36 7))) X 36 (by decide) (sh_Judge cs ad _) rfl in_Judge 7 (by decide) wd_216 rfl rfl d_Judge_judgePairs_4 rfl ?_
      rw [show J 36 7 = (pcn c t 4 : Int) from hHJ.2.1]
      refine mk_icmp_ge (tgt := 127) (nx := 10) X d_Judge_judgePairs_7 (by omega) (by omega) (by decide) rfl (fun c7 => ?_) (fun c7 => ?_)
      · skip
        exact hret _ _ _ d_Judge_judgePairs_127 (by exact ⟨by rw [fas_sk hk4 (pcn_end hk4 (by omega))]; exact hK, hfr⟩)
      · skip
        obtain ⟨v, hkv, hv4, hvd, hvi, hsk2⟩ := pcn_nx (c := c) (t := t) (4 - k) k (by omega) hki (by omega)
        refine mk_aloadn (nx := 11) X 0 d_Judge_judgePairs_10 rfl rfl ?_
        refine mk_get (nx := 14) (v := .ref (ad 37)) X 36 (by decide) (sh_Judge cs ad _) rfl in_Judge 2 (by decide) wd_211 rfl rfl d_Judge_judgePairs_11 rfl ?_
        refine mk_iloadn (nx := 15) X 2 d_Judge_judgePairs_14 rfl rfl ?_
        refine mk_iald (nx := 16) (j := i) X 37 0 (by decide) (sh_present cs ad _) rfl (by omega) (by omega) (by decide) rfl d_Judge_judgePairs_15 rfl ?_
        rw [show J 37 i = (v : Int) from (HrA_p hHJ hv4 hvd hvi)]
        refine mk_istoren (nx := 17) X [(3, .int (zi (v : Int))), (0, .ref (ad 36)), (1, .int (zi rule)), (2, .int (zi (i : Int)))] d_Judge_judgePairs_16 (by decide) rfl rfl ?_
        refine mk_iloadn (nx := 18) X 3 d_Judge_judgePairs_17 rfl rfl ?_
        refine mk_iconst (nx := 19) X d_Judge_judgePairs_18 rfl ?_
        refine mk_iadd (nx := 20) X d_Judge_judgePairs_19 rfl ?_
        refine mk_istore (nx := 22) X [(4, .int (zi ((i : Int) + 1))), (3, .int (zi (v : Int))), (0, .ref (ad 36)), (1, .int (zi rule)), (2, .int (zi (i : Int)))] d_Judge_judgePairs_20 (by decide) rfl rfl ?_
        refine mk_lv [2, 3, 4, 1, 0] rfl ?_
        exact L22 _ v (i + 1) (v + 1) J (by omega) (by assumption) (by omega) (by omega) (by first | exact hsa | exact hsk2) (by omega) (by first | (rw [pcn_y hbd]; omega) | (rw [pcn_y hvd]; omega)) (by first | (rw [fbs_nil (a := v) (v + 1) (Nat.le_refl _), List.append_nil]; exact hK) | (rw [fbs_y (by omega) hkb2 hsb ((brP_d hw hS hV hn ha4 hb4 ht2).mpr ⟨by assumption, by assumption, by omega, by omega, by omega, (hr101.resolve_right (fun y => absurd y.1 (by omega))).2⟩)]; have e := hJA.1; simp only [List.append_assoc] at e ⊢; exact e) | (rw [fbs_z (by omega) hkb2 hsb (fun z => by obtain ⟨z1, z2, z3, z4, z5, z6⟩ := (brP_d hw hS hV hn ha4 hb4 ht2).mp z; first | omega | exact (hr101.resolve_left (fun y => absurd y.1 (by omega))).2 z6)]; exact hKb)) (by first | exact hfr | exact fun a b x => (hJA.2 a b x).trans (hfb a b x) | exact hfb) (Nat.lt_succ_self _)
  refine mk_iconst (nx := 1) X d_Judge_judgePairs_0 rfl ?_
  refine mk_istoren (nx := 2) X [(2, .int (zi 0)), (0, .ref (ad 36)), (1, .int (zi rule))] d_Judge_judgePairs_1 (by decide) rfl rfl ?_
  refine mk_lv [1, 2, 0] rfl ?_
  exact L2 _ 0 0 I (by omega) (by first | rfl | (rw [pcn_y had]; omega)) (by first | (rw [show fas c t rule 0 = [] from rfl, List.append_nil]; exact hK0) | (rw [fas_p hrr hka hsa, fbs_sk (show kb ≤ 4 by omega) (pcn_end (by omega) (by omega))]; exact hKb)) (by first | exact fun _ _ _ => rfl | exact hfb) (Nat.lt_succ_self _)
