-- CanonMaker.listOpenNotes()V
theorem d_CM_listOpenNotes_0 : decode prog_1_method_29_code 0 = .ok (.aload_n 0, 1) := by decide +kernel
theorem d_CM_listOpenNotes_1 : decode prog_1_method_29_code 1 = .ok (.iconst 0, 1) := by decide +kernel
theorem d_CM_listOpenNotes_2 : decode prog_1_method_29_code 2 = .ok (.putfield 206, 3) := by decide +kernel
theorem d_CM_listOpenNotes_5 : decode prog_1_method_29_code 5 = .ok (.iconst 0, 1) := by decide +kernel
theorem d_CM_listOpenNotes_6 : decode prog_1_method_29_code 6 = .ok (.istore_n 1, 1) := by decide +kernel
theorem d_CM_listOpenNotes_7 : decode prog_1_method_29_code 7 = .ok (.iload_n 1, 1) := by decide +kernel
theorem d_CM_listOpenNotes_8 : decode prog_1_method_29_code 8 = .ok (.aload_n 0, 1) := by decide +kernel
theorem d_CM_listOpenNotes_9 : decode prog_1_method_29_code 9 = .ok (.getfield 12, 3) := by decide +kernel
theorem d_CM_listOpenNotes_12 : decode prog_1_method_29_code 12 = .ok (.getfield 61, 3) := by decide +kernel
theorem d_CM_listOpenNotes_15 : decode prog_1_method_29_code 15 = .ok (.if_icmp .ge 43, 3) := by decide +kernel
theorem d_CM_listOpenNotes_18 : decode prog_1_method_29_code 18 = .ok (.aload_n 0, 1) := by decide +kernel
theorem d_CM_listOpenNotes_19 : decode prog_1_method_29_code 19 = .ok (.getfield 12, 3) := by decide +kernel
theorem d_CM_listOpenNotes_22 : decode prog_1_method_29_code 22 = .ok (.getfield 65, 3) := by decide +kernel
theorem d_CM_listOpenNotes_25 : decode prog_1_method_29_code 25 = .ok (.iload_n 1, 1) := by decide +kernel
theorem d_CM_listOpenNotes_26 : decode prog_1_method_29_code 26 = .ok (.iaload, 1) := by decide +kernel
theorem d_CM_listOpenNotes_27 : decode prog_1_method_29_code 27 = .ok (.bipush (-2), 2) := by decide +kernel
theorem d_CM_listOpenNotes_29 : decode prog_1_method_29_code 29 = .ok (.if_icmp .ne 23, 3) := by decide +kernel
theorem d_CM_listOpenNotes_32 : decode prog_1_method_29_code 32 = .ok (.aload_n 0, 1) := by decide +kernel
theorem d_CM_listOpenNotes_33 : decode prog_1_method_29_code 33 = .ok (.getfield 45, 3) := by decide +kernel
theorem d_CM_listOpenNotes_36 : decode prog_1_method_29_code 36 = .ok (.aload_n 0, 1) := by decide +kernel
theorem d_CM_listOpenNotes_37 : decode prog_1_method_29_code 37 = .ok (.getfield 206, 3) := by decide +kernel
theorem d_CM_listOpenNotes_40 : decode prog_1_method_29_code 40 = .ok (.iload_n 1, 1) := by decide +kernel
theorem d_CM_listOpenNotes_41 : decode prog_1_method_29_code 41 = .ok (.iastore, 1) := by decide +kernel
theorem d_CM_listOpenNotes_42 : decode prog_1_method_29_code 42 = .ok (.aload_n 0, 1) := by decide +kernel
theorem d_CM_listOpenNotes_43 : decode prog_1_method_29_code 43 = .ok (.dup, 1) := by decide +kernel
theorem d_CM_listOpenNotes_44 : decode prog_1_method_29_code 44 = .ok (.getfield 206, 3) := by decide +kernel
theorem d_CM_listOpenNotes_47 : decode prog_1_method_29_code 47 = .ok (.iconst 1, 1) := by decide +kernel
theorem d_CM_listOpenNotes_48 : decode prog_1_method_29_code 48 = .ok (.iadd, 1) := by decide +kernel
theorem d_CM_listOpenNotes_49 : decode prog_1_method_29_code 49 = .ok (.putfield 206, 3) := by decide +kernel
theorem d_CM_listOpenNotes_52 : decode prog_1_method_29_code 52 = .ok (.iinc 1 1, 3) := by decide +kernel
theorem d_CM_listOpenNotes_55 : decode prog_1_method_29_code 55 = .ok (.goto (-48), 3) := by decide +kernel
theorem d_CM_listOpenNotes_58 : decode prog_1_method_29_code 58 = .ok (.return_, 1) := by decide +kernel
abbrev rm_CM_listOpenNotes : Room := { frames := 0, cells := 0, slots := 0, locals := 0 }
set_option maxHeartbeats 4000000 in
set_option maxRecDepth 100000 in
theorem c_CM_listOpenNotes (l : Launch) (D : va_G) (cs : Nat → ClassId) (ad : Nat → Nat) (zt : Nat) (hi : cm_inj ad) (c I : Wo) (h : cmR c I) : cm_C l D cs ad zt y_CM_listOpenNotes ws_CM_listOpenNotes rm_CM_listOpenNotes [.ref (ad 0)] I (mk_pv (fun J => OpI J 42 (opl c) ∧ J 0 8 = ((opl c).length : Int) ∧ (∀ a b, ¬ a = 42 → ¬ (a = 0 ∧ b = 8) → J a b = I a b))) := by
  refine mk_metv (own := "CanonMaker") (Ts := wA) hi (Nat.le_refl _) (by decide) rfl (fun w h => List.mem_cons_of_mem _ h) rfl (Nat.le_of_ble_eq_true rfl) [(0, .ref (ad 0))] rfl ?_
  intro p_ e_ s_ m_ as_ bl_ me_ co_ Q_ X hret
  obtain ⟨⟨⟨hn, hN⟩, ⟨hlo, hsc, hbt, hru, hrd, hst⟩, ⟨hV, hV0⟩, ⟨hfc, hF⟩⟩, ⟨i12, iN⟩, ⟨⟨i50, i51, i52, i53, i54⟩, i07, i09⟩, iV, ⟨i010, iF⟩⟩ := id h
  have hcn := cn_e h.1.1
  have L7 : ∀ nf : Nat, ∀ (k : Nat) (J : Wo), ((k : Int) ≤ c 0 0) → (J 0 8 = ((opf c k).length : Int)) → (OpI J 42 (opf c k)) → (∀ a b, ¬ a = 42 → ¬ (a = 0 ∧ b = 8) → J a b = I a b) → 24 - k < nf → mk_A p_ l e_ rm_CM_listOpenNotes s_ m_ as_ bl_ me_ co_ Q_ 2 D cmcl (cm_sh cs ad) 48 48 ad J [(0, .ref (ad 0)), (1, .int (zi (k : Int)))] 7 [] := by
    intro nf
    induction nf with
    | zero => intro k J hk hc hop hfr hn; exact absurd hn (Nat.not_lt_zero _)
    | succ nf ih7 =>
      intro k J hk hc hop hfr hn7
      have hol := opf_len (c := c) k
      refine mk_iloadn (nx := 8) X 1 d_CM_listOpenNotes_7 rfl rfl ?_
      refine mk_aloadn (nx := 9) X 0 d_CM_listOpenNotes_8 rfl rfl ?_
      refine mk_get (nx := 12) (v := .ref (ad 1)) X 0 (by decide) (sh_CM cs ad _) rfl in_CM 0 (by decide) wd_287 rfl rfl d_CM_listOpenNotes_9 rfl ?_
      refine mk_get (nx := 15) (v := .int (zi (J 1 2))) X 1 (by decide) (sh_Subject cs ad _) rfl in_Subject 2 (by decide) wd_71 rfl rfl d_CM_listOpenNotes_12 rfl ?_
      rw [show J 1 2 = c 0 0 from ((hfr 1 2 (by omega) (by omega)).trans i12)]
      refine mk_icmp_ge (tgt := 58) (nx := 18) X d_CM_listOpenNotes_15 (by omega) (by omega) (by decide) rfl (fun c15 => ?_) (fun c15 => ?_)
      · skip
        exact hret _ _ _ d_CM_listOpenNotes_58 (by have e : k = cn c := (by omega); subst e; exact ⟨hop, hc, hfr⟩)
      · skip
        have hpk := hN k (by omega)
        refine mk_aloadn (nx := 19) X 0 d_CM_listOpenNotes_18 rfl rfl ?_
        refine mk_get (nx := 22) (v := .ref (ad 1)) X 0 (by decide) (sh_CM cs ad _) rfl in_CM 0 (by decide) wd_287 rfl rfl d_CM_listOpenNotes_19 rfl ?_
        refine mk_get (nx := 25) (v := .ref (ad 2)) X 1 (by decide) (sh_Subject cs ad _) rfl in_Subject 0 (by decide) wd_65 rfl rfl d_CM_listOpenNotes_22 rfl ?_
        refine mk_iloadn (nx := 26) X 1 d_CM_listOpenNotes_25 rfl rfl ?_
        refine mk_iald (nx := 27) (j := k) X 2 0 (by decide) (sh_Spit cs ad _) rfl (by omega) (by omega) (by decide) rfl d_CM_listOpenNotes_26 rfl ?_
        rw [show J 2 k = c 1 k from ((hfr 2 k (by omega) (by omega)).trans (iN k (by omega)).1)]
        refine mk_bipush (nx := 29) X d_CM_listOpenNotes_27 (by decide) rfl ?_
        refine mk_icmp_ne (tgt := 52) (nx := 32) X d_CM_listOpenNotes_29 (by omega) (by omega) (by decide) rfl (fun c29 => ?_) (fun c29 => ?_)
        · skip
          refine mk_iinc (nx := 55) X 1 [(1, .int (zi ((k : Int) + 1))), (0, .ref (ad 0))] d_CM_listOpenNotes_52 rfl (by decide) rfl rfl ?_
          refine mk_goto (tgt := 7) X d_CM_listOpenNotes_55 (by decide) ?_
          refine mk_lv [1, 0] rfl ?_
          exact ih7 (k + 1) J (by omega) (by first | (rw [hJs]; rfl) | (rw [hJs]; exact op_ly (by omega) rfl) | exact hc.trans (op_ln (by omega) rfl)) (by first | exact op_0 | exact OpI_fr (op_y hop (by omega) rfl (by rw [hJ, Int.toNat_natCast])) (fun b => hJo 42 b (by omega)) | exact op_n hop (by omega)) (by first | exact fun a b x y => (hJo a b (by omega)).trans ((hJo a b (by omega)).trans (hfr a b x y)) | exact fun a b x y => hJo a b (by omega) | exact hfr) (by omega)
        · skip
          refine mk_aloadn (nx := 33) X 0 d_CM_listOpenNotes_32 rfl rfl ?_
          refine mk_get (nx := 36) (v := .ref (ad 42)) X 0 (by decide) (sh_CM cs ad _) rfl in_CM 5 (by decide) wd_292 rfl rfl d_CM_listOpenNotes_33 rfl ?_
          refine mk_aloadn (nx := 37) X 0 d_CM_listOpenNotes_36 rfl rfl ?_
          refine mk_get (nx := 40) (v := .int (zi (J 0 8))) X 0 (by decide) (sh_CM cs ad _) rfl in_CM 8 (by decide) wd_295 rfl rfl d_CM_listOpenNotes_37 rfl ?_
          rw [show J 0 8 = ((opf c k).length : Int) from hc]
          refine mk_iloadn (nx := 41) X 1 d_CM_listOpenNotes_40 rfl rfl ?_
          refine mk_iast (nx := 42) (j := ((opf c k).length)) X 42 0 (by decide) (sh_openNotes cs ad) rfl (by omega) (by omega) (by decide) rfl d_CM_listOpenNotes_41 rfl ?_
          obtain ⟨J1, hJ1⟩ : ∃ W_ : Wo, W_ = up2 J 42 ((opf c k).length) (k : Int) := ⟨_, rfl⟩
          refine mk_same hJ1.symm ?_
          have hJ1s : J1 42 ((opf c k).length) = (k : Int) := hJ1 ▸ up2_ss J 42 ((opf c k).length) (k : Int)
          have hJ1o : ∀ a b, (a ≠ 42 ∨ b ≠ ((opf c k).length)) → J1 a b = J a b := hJ1 ▸ up2_o J 42 ((opf c k).length) (k : Int)
          refine mk_aloadn (nx := 43) X 0 d_CM_listOpenNotes_42 rfl rfl ?_
          refine mk_dup (nx := 44) X d_CM_listOpenNotes_43 rfl rfl ?_
          refine mk_get (nx := 47) (v := .int (zi (J1 0 8))) X 0 (by decide) (sh_CM cs ad _) rfl in_CM 8 (by decide) wd_295 rfl rfl d_CM_listOpenNotes_44 rfl ?_
          rw [show J1 0 8 = J 0 8 from hJ1o 0 8 (Or.inl (by decide))]
          rw [show J 0 8 = ((opf c k).length : Int) from hc]
          refine mk_iconst (nx := 48) X d_CM_listOpenNotes_47 rfl ?_
          refine mk_iadd (nx := 49) X d_CM_listOpenNotes_48 rfl ?_
          refine mk_putf (nx := 52) (ty := .int) X t_CM t_CM_ok n_CM 0 (by decide) (sh_CM cs ad _) rfl in_CM 8 (by decide) wd_295 rfl rfl (by decide +kernel) rfl rfl (Nat.le_of_ble_eq_true rfl) ((sh_CM cs ad _).trans rfl) d_CM_listOpenNotes_49 rfl ?_
          obtain ⟨J2, hJ2⟩ : ∃ W_ : Wo, W_ = up2 J1 0 8 (((opf c k).length : Int) + 1) := ⟨_, rfl⟩
          refine mk_same hJ2.symm ?_
          have hJ2s : J2 0 8 = ((opf c k).length : Int) + 1 := hJ2 ▸ up2_ss J1 0 8 (((opf c k).length : Int) + 1)
          have hJ2o : ∀ a b, (a ≠ 0 ∨ b ≠ 8) → J2 a b = J1 a b := hJ2 ▸ up2_o J1 0 8 (((opf c k).length : Int) + 1)
          refine mk_iinc (nx := 55) X 1 [(1, .int (zi ((k : Int) + 1))), (0, .ref (ad 0))] d_CM_listOpenNotes_52 rfl (by decide) rfl rfl ?_
          refine mk_goto (tgt := 7) X d_CM_listOpenNotes_55 (by decide) ?_
          refine mk_lv [1, 0] rfl ?_
          exact ih7 (k + 1) J2 (by omega) (by first | (rw [hJ2s]; rfl) | (rw [hJ2s]; exact op_ly (by omega) rfl) | exact hc.trans (op_ln (by omega) rfl)) (by first | exact op_0 | exact OpI_fr (op_y hop (by omega) rfl (by rw [hJ1, Int.toNat_natCast])) (fun b => hJ2o 42 b (by omega)) | exact op_n hop (by omega)) (by first | exact fun a b x y => (hJ2o a b (by omega)).trans ((hJ1o a b (by omega)).trans (hfr a b x y)) | exact fun a b x y => hJ2o a b (by omega) | exact hfr) (by omega)
  refine mk_aloadn (nx := 1) X 0 d_CM_listOpenNotes_0 rfl rfl ?_
  refine mk_iconst (nx := 2) X d_CM_listOpenNotes_1 rfl ?_
  refine mk_putf (nx := 5) (ty := .int) X t_CM t_CM_ok n_CM 0 (by decide) (sh_CM cs ad _) rfl in_CM 8 (by decide) wd_295 rfl rfl (by decide +kernel) rfl rfl (Nat.le_of_ble_eq_true rfl) ((sh_CM cs ad _).trans rfl) d_CM_listOpenNotes_2 rfl ?_
  obtain ⟨J3, hJ3⟩ : ∃ W_ : Wo, W_ = up2 I 0 8 0 := ⟨_, rfl⟩
  refine mk_same hJ3.symm ?_
  have hJ3s : J3 0 8 = 0 := hJ3 ▸ up2_ss I 0 8 0
  have hJ3o : ∀ a b, (a ≠ 0 ∨ b ≠ 8) → J3 a b = I a b := hJ3 ▸ up2_o I 0 8 0
  refine mk_iconst (nx := 6) X d_CM_listOpenNotes_5 rfl ?_
  refine mk_istoren (nx := 7) X [(1, .int (zi 0)), (0, .ref (ad 0))] d_CM_listOpenNotes_6 (by decide) rfl rfl ?_
  refine mk_lv [1, 0] rfl ?_
  exact L7 _ 0 J3 (by omega) (by first | (rw [hJ3s]; rfl) | (rw [hJ3s]; exact op_ly (by omega) rfl) | exact hc.trans (op_ln (by omega) rfl)) (by first | exact op_0 | exact OpI_fr (op_y hop (by omega) rfl (by rw [hI, Int.toNat_natCast])) (fun b => hJ3o 42 b (by omega)) | exact op_n hop (by omega)) (by first | exact fun a b x y => (hJ3o a b (by omega)).trans ((hIo a b (by omega)).trans (hfr a b x y)) | exact fun a b x y => hJ3o a b (by omega) | exact hfr) (Nat.lt_succ_self _)

-- CanonMaker.reopenNotes()V
theorem d_CM_reopenNotes_0 : decode prog_1_method_30_code 0 = .ok (.iconst 0, 1) := by decide +kernel
theorem d_CM_reopenNotes_1 : decode prog_1_method_30_code 1 = .ok (.istore_n 1, 1) := by decide +kernel
theorem d_CM_reopenNotes_2 : decode prog_1_method_30_code 2 = .ok (.iload_n 1, 1) := by decide +kernel
theorem d_CM_reopenNotes_3 : decode prog_1_method_30_code 3 = .ok (.aload_n 0, 1) := by decide +kernel
theorem d_CM_reopenNotes_4 : decode prog_1_method_30_code 4 = .ok (.getfield 206, 3) := by decide +kernel
theorem d_CM_reopenNotes_7 : decode prog_1_method_30_code 7 = .ok (.if_icmp .ge 25, 3) := by decide +kernel
theorem d_CM_reopenNotes_10 : decode prog_1_method_30_code 10 = .ok (.aload_n 0, 1) := by decide +kernel
theorem d_CM_reopenNotes_11 : decode prog_1_method_30_code 11 = .ok (.getfield 12, 3) := by decide +kernel
theorem d_CM_reopenNotes_14 : decode prog_1_method_30_code 14 = .ok (.getfield 65, 3) := by decide +kernel
theorem d_CM_reopenNotes_17 : decode prog_1_method_30_code 17 = .ok (.aload_n 0, 1) := by decide +kernel
theorem d_CM_reopenNotes_18 : decode prog_1_method_30_code 18 = .ok (.getfield 45, 3) := by decide +kernel
theorem d_CM_reopenNotes_21 : decode prog_1_method_30_code 21 = .ok (.iload_n 1, 1) := by decide +kernel
theorem d_CM_reopenNotes_22 : decode prog_1_method_30_code 22 = .ok (.iaload, 1) := by decide +kernel
theorem d_CM_reopenNotes_23 : decode prog_1_method_30_code 23 = .ok (.bipush (-2), 2) := by decide +kernel
theorem d_CM_reopenNotes_25 : decode prog_1_method_30_code 25 = .ok (.iastore, 1) := by decide +kernel
theorem d_CM_reopenNotes_26 : decode prog_1_method_30_code 26 = .ok (.iinc 1 1, 3) := by decide +kernel
theorem d_CM_reopenNotes_29 : decode prog_1_method_30_code 29 = .ok (.goto (-27), 3) := by decide +kernel
theorem d_CM_reopenNotes_32 : decode prog_1_method_30_code 32 = .ok (.return_, 1) := by decide +kernel
abbrev rm_CM_reopenNotes : Room := { frames := 0, cells := 0, slots := 0, locals := 0 }
set_option maxHeartbeats 4000000 in
set_option maxRecDepth 100000 in
theorem c_CM_reopenNotes (l : Launch) (D : va_G) (cs : Nat → ClassId) (ad : Nat → Nat) (zt : Nat) (hi : cm_inj ad) (c I : Wo) (h : cmR c I) (O : List Nat) (hO : ∀ m, m ∈ O → m < cn c) (hol : O.length ≤ 24) (hc : I 0 8 = (O.length : Int)) (hop : OpI I 42 O) : cm_C l D cs ad zt y_CM_reopenNotes ws_CM_reopenNotes rm_CM_reopenNotes [.ref (ad 0)] I (mk_pv (fun J => cmR (rop c O) J)) := by
  refine mk_metv (own := "CanonMaker") (Ts := wA) hi (Nat.le_refl _) (by decide) rfl (fun w h => List.mem_cons_of_mem _ h) rfl (Nat.le_of_ble_eq_true rfl) [(0, .ref (ad 0))] rfl ?_
  intro p_ e_ s_ m_ as_ bl_ me_ co_ Q_ X hret
  have hcn := cn_e h.1.1
  have L2 : ∀ nf : Nat, ∀ (q : Nat) (J : Wo), (q ≤ O.length) → (cmR (rop c (O.take q)) J) → (∀ a b, ¬ a = 2 → J a b = I a b) → O.length - q < nf → mk_A p_ l e_ rm_CM_reopenNotes s_ m_ as_ bl_ me_ co_ Q_ 2 D cmcl (cm_sh cs ad) 48 48 ad J [(0, .ref (ad 0)), (1, .int (zi (q : Int)))] 2 [] := by
    intro nf
    induction nf with
    | zero => intro q J hq hR hfr hn; exact absurd hn (Nat.not_lt_zero _)
    | succ nf ih2 =>
      intro q J hq hR hfr hn2
      refine mk_iloadn (nx := 3) X 1 d_CM_reopenNotes_2 rfl rfl ?_
      refine mk_aloadn (nx := 4) X 0 d_CM_reopenNotes_3 rfl rfl ?_
      refine mk_get (nx := 7) (v := .int (zi (J 0 8))) X 0 (by decide) (sh_CM cs ad _) rfl in_CM 8 (by decide) wd_295 rfl rfl d_CM_reopenNotes_4 rfl ?_
      rw [show J 0 8 = (O.length : Int) from ((hfr 0 8 (by omega)).trans hc)]
      refine mk_icmp_ge (tgt := 32) (nx := 10) X d_CM_reopenNotes_7 (by omega) (by omega) (by decide) rfl (fun c7 => ?_) (fun c7 => ?_)
      · skip
        exact hret _ _ _ d_CM_reopenNotes_32 (by have e := hR; rw [show q = O.length by omega, List.take_length] at e; exact e)
      · skip
        obtain ⟨nq, hnq⟩ : ∃ nq : Nat, O[q]? = some nq := ⟨O[q]'(by omega), List.getElem?_eq_getElem (by omega)⟩
        have hnm := hO nq (List.mem_of_getElem? hnq)
        refine mk_aloadn (nx := 11) X 0 d_CM_reopenNotes_10 rfl rfl ?_
        refine mk_get (nx := 14) (v := .ref (ad 1)) X 0 (by decide) (sh_CM cs ad _) rfl in_CM 0 (by decide) wd_287 rfl rfl d_CM_reopenNotes_11 rfl ?_
        refine mk_get (nx := 17) (v := .ref (ad 2)) X 1 (by decide) (sh_Subject cs ad _) rfl in_Subject 0 (by decide) wd_65 rfl rfl d_CM_reopenNotes_14 rfl ?_
        refine mk_aloadn (nx := 18) X 0 d_CM_reopenNotes_17 rfl rfl ?_
        refine mk_get (nx := 21) (v := .ref (ad 42)) X 0 (by decide) (sh_CM cs ad _) rfl in_CM 5 (by decide) wd_292 rfl rfl d_CM_reopenNotes_18 rfl ?_
        refine mk_iloadn (nx := 22) X 1 d_CM_reopenNotes_21 rfl rfl ?_
        refine mk_iald (nx := 23) (j := q) X 42 0 (by decide) (sh_openNotes cs ad _) rfl (by omega) (by omega) (by decide) rfl d_CM_reopenNotes_22 rfl ?_
        rw [show J 42 q = (nq : Int) from ((hfr 42 q (by omega)).trans (hop q nq hnq))]
        refine mk_bipush (nx := 25) X d_CM_reopenNotes_23 (by decide) rfl ?_
        refine mk_iast (nx := 26) (j := nq) X 2 0 (by decide) (sh_Spit cs ad) rfl (by omega) (by omega) (by decide) rfl d_CM_reopenNotes_25 rfl ?_
        obtain ⟨J1, hJ1⟩ : ∃ W_ : Wo, W_ = up2 J 2 nq (-2) := ⟨_, rfl⟩
        refine mk_same hJ1.symm ?_
        have hJ1s : J1 2 nq = (-2) := hJ1 ▸ up2_ss J 2 nq (-2)
        have hJ1o : ∀ a b, (a ≠ 2 ∨ b ≠ nq) → J1 a b = J a b := hJ1 ▸ up2_o J 2 nq (-2)
        refine mk_iinc (nx := 29) X 1 [(1, .int (zi ((q : Int) + 1))), (0, .ref (ad 0))] d_CM_reopenNotes_26 rfl (by decide) rfl rfl ?_
        refine mk_goto (tgt := 2) X d_CM_reopenNotes_29 (by decide) ?_
        refine mk_lv [1, 0] rfl ?_
        exact ih2 (q + 1) J1 (by omega) (by first | (rw [List.take_zero, rop_nil]; exact h) | (rw [rop_take hnq, hJ1]; exact cm_s_pitch hR (by rw [rop_o (by omega)]; omega) (by omega))) (by first | exact fun _ _ _ => rfl | exact fun a b x => (hJ1o a b (by omega)).trans (hfr a b x)) (by omega)
  refine mk_iconst (nx := 1) X d_CM_reopenNotes_0 rfl ?_
  refine mk_istoren (nx := 2) X [(1, .int (zi 0)), (0, .ref (ad 0))] d_CM_reopenNotes_1 (by decide) rfl rfl ?_
  refine mk_lv [1, 0] rfl ?_
  exact L2 _ 0 I (by omega) (by first | (rw [List.take_zero, rop_nil]; exact h) | (rw [rop_take hnq, hI]; exact cm_s_pitch hR (by rw [rop_o (by omega)]; omega) (by omega))) (by first | exact fun _ _ _ => rfl | exact fun a b x => (hIo a b (by omega)).trans (hfr a b x)) (Nat.lt_succ_self _)

-- CanonMaker.searchPitches(I)I
theorem d_CM_searchPitches_0 : decode prog_1_method_31_code 0 = .ok (.iconst 0, 1) := by decide +kernel
theorem d_CM_searchPitches_1 : decode prog_1_method_31_code 1 = .ok (.istore_n 2, 1) := by decide +kernel
theorem d_CM_searchPitches_2 : decode prog_1_method_31_code 2 = .ok (.iconst 0, 1) := by decide +kernel
theorem d_CM_searchPitches_3 : decode prog_1_method_31_code 3 = .ok (.istore_n 3, 1) := by decide +kernel
theorem d_CM_searchPitches_4 : decode prog_1_method_31_code 4 = .ok (.iload_n 3, 1) := by decide +kernel
theorem d_CM_searchPitches_5 : decode prog_1_method_31_code 5 = .ok (.sipush 6002, 3) := by decide +kernel
theorem d_CM_searchPitches_8 : decode prog_1_method_31_code 8 = .ok (.if_icmp .ge 165, 3) := by decide +kernel
theorem d_CM_searchPitches_11 : decode prog_1_method_31_code 11 = .ok (.iload_n 2, 1) := by decide +kernel
theorem d_CM_searchPitches_12 : decode prog_1_method_31_code 12 = .ok (.ifCond .lt 161, 3) := by decide +kernel
theorem d_CM_searchPitches_15 : decode prog_1_method_31_code 15 = .ok (.iload_n 2, 1) := by decide +kernel
theorem d_CM_searchPitches_16 : decode prog_1_method_31_code 16 = .ok (.aload_n 0, 1) := by decide +kernel
theorem d_CM_searchPitches_17 : decode prog_1_method_31_code 17 = .ok (.getfield 206, 3) := by decide +kernel
theorem d_CM_searchPitches_20 : decode prog_1_method_31_code 20 = .ok (.if_icmp .ge 153, 3) := by decide +kernel
theorem d_CM_searchPitches_23 : decode prog_1_method_31_code 23 = .ok (.aload_n 0, 1) := by decide +kernel
theorem d_CM_searchPitches_24 : decode prog_1_method_31_code 24 = .ok (.getfield 45, 3) := by decide +kernel
theorem d_CM_searchPitches_27 : decode prog_1_method_31_code 27 = .ok (.iload_n 2, 1) := by decide +kernel
theorem d_CM_searchPitches_28 : decode prog_1_method_31_code 28 = .ok (.iaload, 1) := by decide +kernel
theorem d_CM_searchPitches_29 : decode prog_1_method_31_code 29 = .ok (.istore 4, 2) := by decide +kernel
theorem d_CM_searchPitches_31 : decode prog_1_method_31_code 31 = .ok (.aload_n 0, 1) := by decide +kernel
theorem d_CM_searchPitches_32 : decode prog_1_method_31_code 32 = .ok (.getfield 12, 3) := by decide +kernel
theorem d_CM_searchPitches_35 : decode prog_1_method_31_code 35 = .ok (.getfield 65, 3) := by decide +kernel
theorem d_CM_searchPitches_38 : decode prog_1_method_31_code 38 = .ok (.iload 4, 2) := by decide +kernel
theorem d_CM_searchPitches_40 : decode prog_1_method_31_code 40 = .ok (.iaload, 1) := by decide +kernel
theorem d_CM_searchPitches_41 : decode prog_1_method_31_code 41 = .ok (.bipush (-2), 2) := by decide +kernel
theorem d_CM_searchPitches_43 : decode prog_1_method_31_code 43 = .ok (.if_icmp .ne 13, 3) := by decide +kernel
theorem d_CM_searchPitches_46 : decode prog_1_method_31_code 46 = .ok (.aload_n 0, 1) := by decide +kernel
theorem d_CM_searchPitches_47 : decode prog_1_method_31_code 47 = .ok (.getfield 25, 3) := by decide +kernel
theorem d_CM_searchPitches_50 : decode prog_1_method_31_code 50 = .ok (.getfield 93, 3) := by decide +kernel
theorem d_CM_searchPitches_53 : decode prog_1_method_31_code 53 = .ok (.goto 15, 3) := by decide +kernel
theorem d_CM_searchPitches_56 : decode prog_1_method_31_code 56 = .ok (.aload_n 0, 1) := by decide +kernel
theorem d_CM_searchPitches_57 : decode prog_1_method_31_code 57 = .ok (.getfield 12, 3) := by decide +kernel
theorem d_CM_searchPitches_60 : decode prog_1_method_31_code 60 = .ok (.getfield 65, 3) := by decide +kernel
theorem d_CM_searchPitches_63 : decode prog_1_method_31_code 63 = .ok (.iload 4, 2) := by decide +kernel
theorem d_CM_searchPitches_65 : decode prog_1_method_31_code 65 = .ok (.iaload, 1) := by decide +kernel
theorem d_CM_searchPitches_66 : decode prog_1_method_31_code 66 = .ok (.iconst 1, 1) := by decide +kernel
theorem d_CM_searchPitches_67 : decode prog_1_method_31_code 67 = .ok (.iadd, 1) := by decide +kernel
theorem d_CM_searchPitches_68 : decode prog_1_method_31_code 68 = .ok (.istore 5, 2) := by decide +kernel
theorem d_CM_searchPitches_70 : decode prog_1_method_31_code 70 = .ok (.iload 5, 2) := by decide +kernel
theorem d_CM_searchPitches_72 : decode prog_1_method_31_code 72 = .ok (.aload_n 0, 1) := by decide +kernel
theorem d_CM_searchPitches_73 : decode prog_1_method_31_code 73 = .ok (.getfield 25, 3) := by decide +kernel
theorem d_CM_searchPitches_76 : decode prog_1_method_31_code 76 = .ok (.getfield 96, 3) := by decide +kernel
theorem d_CM_searchPitches_79 : decode prog_1_method_31_code 79 = .ok (.if_icmp .le 21, 3) := by decide +kernel
theorem d_CM_searchPitches_82 : decode prog_1_method_31_code 82 = .ok (.aload_n 0, 1) := by decide +kernel
theorem d_CM_searchPitches_83 : decode prog_1_method_31_code 83 = .ok (.getfield 12, 3) := by decide +kernel
theorem d_CM_searchPitches_86 : decode prog_1_method_31_code 86 = .ok (.getfield 65, 3) := by decide +kernel
theorem d_CM_searchPitches_89 : decode prog_1_method_31_code 89 = .ok (.iload 4, 2) := by decide +kernel
theorem d_CM_searchPitches_91 : decode prog_1_method_31_code 91 = .ok (.bipush (-2), 2) := by decide +kernel
theorem d_CM_searchPitches_93 : decode prog_1_method_31_code 93 = .ok (.iastore, 1) := by decide +kernel
theorem d_CM_searchPitches_94 : decode prog_1_method_31_code 94 = .ok (.iinc 2 (-1), 3) := by decide +kernel
theorem d_CM_searchPitches_97 : decode prog_1_method_31_code 97 = .ok (.goto 70, 3) := by decide +kernel
theorem d_CM_searchPitches_100 : decode prog_1_method_31_code 100 = .ok (.aload_n 0, 1) := by decide +kernel
theorem d_CM_searchPitches_101 : decode prog_1_method_31_code 101 = .ok (.getfield 157, 3) := by decide +kernel
theorem d_CM_searchPitches_104 : decode prog_1_method_31_code 104 = .ok (.iload_n 1, 1) := by decide +kernel
theorem d_CM_searchPitches_105 : decode prog_1_method_31_code 105 = .ok (.if_icmp .lt 6, 3) := by decide +kernel
theorem d_CM_searchPitches_108 : decode prog_1_method_31_code 108 = .ok (.bipush (-6), 2) := by decide +kernel
theorem d_CM_searchPitches_110 : decode prog_1_method_31_code 110 = .ok (.ireturn, 1) := by decide +kernel
theorem d_CM_searchPitches_111 : decode prog_1_method_31_code 111 = .ok (.aload_n 0, 1) := by decide +kernel
theorem d_CM_searchPitches_112 : decode prog_1_method_31_code 112 = .ok (.dup, 1) := by decide +kernel
theorem d_CM_searchPitches_113 : decode prog_1_method_31_code 113 = .ok (.getfield 157, 3) := by decide +kernel
theorem d_CM_searchPitches_116 : decode prog_1_method_31_code 116 = .ok (.iconst 1, 1) := by decide +kernel
theorem d_CM_searchPitches_117 : decode prog_1_method_31_code 117 = .ok (.iadd, 1) := by decide +kernel
theorem d_CM_searchPitches_118 : decode prog_1_method_31_code 118 = .ok (.putfield 157, 3) := by decide +kernel
theorem d_CM_searchPitches_121 : decode prog_1_method_31_code 121 = .ok (.aload_n 0, 1) := by decide +kernel
theorem d_CM_searchPitches_122 : decode prog_1_method_31_code 122 = .ok (.getfield 12, 3) := by decide +kernel
theorem d_CM_searchPitches_125 : decode prog_1_method_31_code 125 = .ok (.getfield 65, 3) := by decide +kernel
theorem d_CM_searchPitches_128 : decode prog_1_method_31_code 128 = .ok (.iload 4, 2) := by decide +kernel
theorem d_CM_searchPitches_130 : decode prog_1_method_31_code 130 = .ok (.iload 5, 2) := by decide +kernel
theorem d_CM_searchPitches_132 : decode prog_1_method_31_code 132 = .ok (.iastore, 1) := by decide +kernel
theorem d_CM_searchPitches_133 : decode prog_1_method_31_code 133 = .ok (.aload_n 0, 1) := by decide +kernel
theorem d_CM_searchPitches_134 : decode prog_1_method_31_code 134 = .ok (.getfield 32, 3) := by decide +kernel
theorem d_CM_searchPitches_137 : decode prog_1_method_31_code 137 = .ok (.aload_n 0, 1) := by decide +kernel
theorem d_CM_searchPitches_138 : decode prog_1_method_31_code 138 = .ok (.getfield 12, 3) := by decide +kernel
theorem d_CM_searchPitches_141 : decode prog_1_method_31_code 141 = .ok (.invokevirtual 195, 3) := by decide +kernel
theorem d_CM_searchPitches_144 : decode prog_1_method_31_code 144 = .ok (.iload_n 2, 1) := by decide +kernel
theorem d_CM_searchPitches_145 : decode prog_1_method_31_code 145 = .ok (.aload_n 0, 1) := by decide +kernel
theorem d_CM_searchPitches_146 : decode prog_1_method_31_code 146 = .ok (.getfield 41, 3) := by decide +kernel
theorem d_CM_searchPitches_149 : decode prog_1_method_31_code 149 = .ok (.iconst 0, 1) := by decide +kernel
theorem d_CM_searchPitches_150 : decode prog_1_method_31_code 150 = .ok (.iconst 1, 1) := by decide +kernel
theorem d_CM_searchPitches_151 : decode prog_1_method_31_code 151 = .ok (.iload 4, 2) := by decide +kernel
theorem d_CM_searchPitches_153 : decode prog_1_method_31_code 153 = .ok (.ishl, 1) := by decide +kernel
theorem d_CM_searchPitches_154 : decode prog_1_method_31_code 154 = .ok (.invokevirtual 141, 3) := by decide +kernel
theorem d_CM_searchPitches_157 : decode prog_1_method_31_code 157 = .ok (.ifCond .ne 7, 3) := by decide +kernel
theorem d_CM_searchPitches_160 : decode prog_1_method_31_code 160 = .ok (.iconst 1, 1) := by decide +kernel
theorem d_CM_searchPitches_161 : decode prog_1_method_31_code 161 = .ok (.goto 4, 3) := by decide +kernel
theorem d_CM_searchPitches_164 : decode prog_1_method_31_code 164 = .ok (.iconst 0, 1) := by decide +kernel
theorem d_CM_searchPitches_165 : decode prog_1_method_31_code 165 = .ok (.iadd, 1) := by decide +kernel
theorem d_CM_searchPitches_166 : decode prog_1_method_31_code 166 = .ok (.istore_n 2, 1) := by decide +kernel
theorem d_CM_searchPitches_167 : decode prog_1_method_31_code 167 = .ok (.iinc 3 1, 3) := by decide +kernel
theorem d_CM_searchPitches_170 : decode prog_1_method_31_code 170 = .ok (.goto (-166), 3) := by decide +kernel
theorem d_CM_searchPitches_173 : decode prog_1_method_31_code 173 = .ok (.iload_n 2, 1) := by decide +kernel
theorem d_CM_searchPitches_174 : decode prog_1_method_31_code 174 = .ok (.ifCond .ge 7, 3) := by decide +kernel
theorem d_CM_searchPitches_177 : decode prog_1_method_31_code 177 = .ok (.iconst 0, 1) := by decide +kernel
theorem d_CM_searchPitches_178 : decode prog_1_method_31_code 178 = .ok (.goto 4, 3) := by decide +kernel
theorem d_CM_searchPitches_181 : decode prog_1_method_31_code 181 = .ok (.iconst 1, 1) := by decide +kernel
theorem d_CM_searchPitches_182 : decode prog_1_method_31_code 182 = .ok (.ireturn, 1) := by decide +kernel
abbrev rm_CM_searchPitches : Room := { frames := 6, cells := 0, slots := 0, locals := 146 }
set_option maxHeartbeats 4000000 in
set_option maxRecDepth 100000 in
theorem c_CM_searchPitches (l : Launch) (D : va_G) (cs : Nat → ClassId) (ad : Nat → Nat) (zt : Nat) (hi : cm_inj ad) (c I : Wo) (h : cmR c I) (O : List Nat) (hd : O.Nodup) (hmem : ∀ m, m ∈ O → m < cn c ∧ c 1 m = -2) (hol : O.length ≤ 24) (hSp0 : SpI c O I) (hn : NTL c) (most : Int) (hmo : 0 ≤ most ∧ most ≤ 3000) (h7 : c 0 7 = 0) (hst : SrI c O most 0 c) (hcl : FL c = []) : cm_C l D cs ad zt y_CM_searchPitches ws_CM_searchPitches rm_CM_searchPitches [.ref (ad 0), .int (zi most)] I (mk_pi (fun r J => ∃ cc, cmR cc J ∧ SpI c O J ∧ (∀ m, m ∈ O → m < cn cc) ∧ ((r = 1 ∧ (1, cc) = sr O most 6003 0 c) ∨ (r = 0 ∧ (0, cc) = sr O most 6003 0 c ∧ ∀ m, m ∈ O → cc 1 m = -2) ∨ (r = -6 ∧ (-6, rop cc O) = sr O most 6003 0 c)))) := by
  refine mk_meti (own := "CanonMaker") (Ts := wA) hi (Nat.le_refl _) (by decide) rfl (fun w h => List.mem_cons_of_mem _ h) rfl (Nat.le_of_ble_eq_true rfl) [(0, .ref (ad 0)), (1, .int (zi most))] rfl ?_
  intro p_ e_ s_ m_ as_ bl_ me_ co_ Q_ X hret
  have L4 : ∀ nf : Nat, ∀ (i : Int) (T : Nat) (cc : Wo) (Jc : Wo), (SrI c O most i cc) → (cmR cc Jc) → (SpI c O Jc) → ((T : Int) + i ≤ 2 * cc 0 7) → (sr O most (6003 - T) i cc = sr O most 6003 0 c) → (CkI O i cc) → 6003 - T < nf → mk_A p_ l e_ rm_CM_searchPitches s_ m_ as_ bl_ me_ co_ Q_ 6 D cmcl (cm_sh cs ad) 48 48 ad Jc [(0, .ref (ad 0)), (1, .int (zi most)), (2, .int (zi i)), (3, .int (zi (T : Int)))] 4 [] := by
    intro nf
    induction nf with
    | zero => intro i T cc Jc hsi hRc hSp hTi hsr hck hn; exact absurd hn (Nat.not_lt_zero _)
    | succ nf ih4 =>
      intro i T cc Jc hsi hRc hSp hTi hsr hck hn4
      obtain ⟨hwc, hrl⟩ := SrI_wf h.1 hmem (by omega) hsi
      have hcn1 := cn_e hwc.1
      have hcn2 := hrl.e_cn
      obtain ⟨b0, b7, hib⟩ : (0 ≤ cc 0 7) ∧ (cc 0 7 ≤ most) ∧ (-1 ≤ i ∧ i ≤ O.length) := ⟨hsi.2.2.2.1.1, hsi.2.2.2.1.2, hsi.2.2.2.2⟩
      refine mk_iloadn (nx := 5) X 3 d_CM_searchPitches_4 rfl rfl ?_
      refine mk_sipush (nx := 8) X d_CM_searchPitches_5 (by decide) rfl ?_
      refine mk_icmp_ge (tgt := 173) (nx := 11) X d_CM_searchPitches_8 (by omega) (by omega) (by decide) rfl (fun c8 => ?_) (fun c8 => ?_)
      · omega
      · skip
        refine mk_iloadn (nx := 12) X 2 d_CM_searchPitches_11 rfl rfl ?_
        refine mk_if_lt (tgt := 173) (nx := 15) X d_CM_searchPitches_12 (by omega) (by decide) rfl (fun c12 => ?_) (fun c12 => ?_)
        · skip
          refine mk_iloadn (nx := 174) X 2 d_CM_searchPitches_173 rfl rfl ?_
          refine mk_if_ge (tgt := 181) (nx := 177) X d_CM_searchPitches_174 (by omega) (by decide) rfl (fun c174 => ?_) (fun c174 => ?_)
          · skip
            refine mk_iconst (nx := 182) X d_CM_searchPitches_181 rfl ?_
            exact hret _ _ _ _ d_CM_searchPitches_182 (by first | exact ⟨cc, hRc, hSp, fun m z => (by rw [hcn2]; exact (hmem m z).1), Or.inr (Or.inl ⟨rfl, sx_lo (by omega) (by omega) hsr, sri_all hsi (by omega)⟩)⟩ | exact ⟨cc, hRc, hSp, fun m z => (by rw [hcn2]; exact (hmem m z).1), Or.inl ⟨rfl, sx_hi (by omega) (by omega) (by omega) hsr⟩⟩)
          · skip
            refine mk_iconst (nx := 178) X d_CM_searchPitches_177 rfl ?_
            refine mk_goto (tgt := 182) X d_CM_searchPitches_178 (by decide) ?_
            exact hret _ _ _ _ d_CM_searchPitches_182 (by first | exact ⟨cc, hRc, hSp, fun m z => (by rw [hcn2]; exact (hmem m z).1), Or.inr (Or.inl ⟨rfl, sx_lo (by omega) (by omega) hsr, sri_all hsi (by omega)⟩)⟩ | exact ⟨cc, hRc, hSp, fun m z => (by rw [hcn2]; exact (hmem m z).1), Or.inl ⟨rfl, sx_hi (by omega) (by omega) (by omega) hsr⟩⟩)
        · skip
          refine mk_iloadn (nx := 16) X 2 d_CM_searchPitches_15 rfl rfl ?_
          refine mk_aloadn (nx := 17) X 0 d_CM_searchPitches_16 rfl rfl ?_
          refine mk_get (nx := 20) (v := .int (zi (Jc 0 8))) X 0 (by decide) (sh_CM cs ad _) rfl in_CM 8 (by decide) wd_295 rfl rfl d_CM_searchPitches_17 rfl ?_
          rw [show Jc 0 8 = (O.length : Int) from hSp.2.1]
          refine mk_icmp_ge (tgt := 173) (nx := 23) X d_CM_searchPitches_20 (by omega) (by omega) (by decide) rfl (fun c20 => ?_) (fun c20 => ?_)
          · skip
            refine mk_iloadn (nx := 174) X 2 d_CM_searchPitches_173 rfl rfl ?_
            refine mk_if_ge (tgt := 181) (nx := 177) X d_CM_searchPitches_174 (by omega) (by decide) rfl (fun c174 => ?_) (fun c174 => ?_)
            · skip
              refine mk_iconst (nx := 182) X d_CM_searchPitches_181 rfl ?_
              exact hret _ _ _ _ d_CM_searchPitches_182 (by first | exact ⟨cc, hRc, hSp, fun m z => (by rw [hcn2]; exact (hmem m z).1), Or.inr (Or.inl ⟨rfl, sx_lo (by omega) (by omega) hsr, sri_all hsi (by omega)⟩)⟩ | exact ⟨cc, hRc, hSp, fun m z => (by rw [hcn2]; exact (hmem m z).1), Or.inl ⟨rfl, sx_hi (by omega) (by omega) (by omega) hsr⟩⟩)
            · skip
              refine mk_iconst (nx := 178) X d_CM_searchPitches_177 rfl ?_
              refine mk_goto (tgt := 182) X d_CM_searchPitches_178 (by decide) ?_
              exact hret _ _ _ _ d_CM_searchPitches_182 (by first | exact ⟨cc, hRc, hSp, fun m z => (by rw [hcn2]; exact (hmem m z).1), Or.inr (Or.inl ⟨rfl, sx_lo (by omega) (by omega) hsr, sri_all hsi (by omega)⟩)⟩ | exact ⟨cc, hRc, hSp, fun m z => (by rw [hcn2]; exact (hmem m z).1), Or.inl ⟨rfl, sx_hi (by omega) (by omega) (by omega) hsr⟩⟩)
          · skip
            obtain ⟨nn, hnn⟩ : ∃ nn : Nat, O[i.toNat]? = some nn := ⟨O[i.toNat]'(by omega), List.getElem?_eq_getElem (by omega)⟩
            have hnm := List.mem_of_getElem? hnn
            have hnc := (hmem nn hnm).1
            have hpb := hwc.1.2 nn (by omega)
            have hlb := hwc.2.1.1
            refine mk_aloadn (nx := 24) X 0 d_CM_searchPitches_23 rfl rfl ?_
            refine mk_get (nx := 27) (v := .ref (ad 42)) X 0 (by decide) (sh_CM cs ad _) rfl in_CM 5 (by decide) wd_292 rfl rfl d_CM_searchPitches_24 rfl ?_
            refine mk_iloadn (nx := 28) X 2 d_CM_searchPitches_27 rfl rfl ?_
            refine mk_iald (nx := 29) (j := i.toNat) X 42 0 (by decide) (sh_openNotes cs ad _) rfl (by omega) (by omega) (by decide) rfl d_CM_searchPitches_28 rfl ?_
            rw [show Jc 42 i.toNat = (nn : Int) from (hSp.1 i.toNat nn hnn)]
            refine mk_istore (nx := 31) X [(4, .int (zi (nn : Int))), (0, .ref (ad 0)), (1, .int (zi most)), (2, .int (zi i)), (3, .int (zi (T : Int)))] d_CM_searchPitches_29 (by decide) rfl rfl ?_
            refine mk_aloadn (nx := 32) X 1 d_CM_searchPitches_31 rfl rfl ?_
            refine mk_get (nx := 35) (v := .ref (ad 1)) X 0 (by decide) (sh_CM cs ad _) rfl in_CM 0 (by decide) wd_287 rfl rfl d_CM_searchPitches_32 rfl ?_
            refine mk_get (nx := 38) (v := .ref (ad 2)) X 1 (by decide) (sh_Subject cs ad _) rfl in_Subject 0 (by decide) wd_65 rfl rfl d_CM_searchPitches_35 rfl ?_
            refine mk_iload (nx := 40) X 0 d_CM_searchPitches_38 rfl rfl ?_
            refine mk_iald (nx := 41) (j := nn) X 2 0 (by decide) (sh_Spit cs ad _) rfl (by omega) (by omega) (by decide) rfl d_CM_searchPitches_40 rfl ?_
            rw [show Jc 2 nn = cc 1 nn from (hRc.2.1.2 nn (by omega)).1]
            refine mk_bipush (nx := 43) X d_CM_searchPitches_41 (by decide) rfl ?_
            refine mk_icmp_ne (tgt := 56) (nx := 46) X d_CM_searchPitches_43 (by omega) (by omega) (by decide) rfl (fun c43 => ?_) (fun c43 => ?_)
            · skip
              refine mk_aloadn (nx := 57) X 1 d_CM_searchPitches_56 rfl rfl ?_
              refine mk_get (nx := 60) (v := .ref (ad 1)) X 0 (by decide) (sh_CM cs ad _) rfl in_CM 0 (by decide) wd_287 rfl rfl d_CM_searchPitches_57 rfl ?_
              refine mk_get (nx := 63) (v := .ref (ad 2)) X 1 (by decide) (sh_Subject cs ad _) rfl in_Subject 0 (by decide) wd_65 rfl rfl d_CM_searchPitches_60 rfl ?_
              refine mk_iload (nx := 65) X 0 d_CM_searchPitches_63 rfl rfl ?_
              refine mk_iald (nx := 66) (j := nn) X 2 0 (by decide) (sh_Spit cs ad _) rfl (by omega) (by omega) (by decide) rfl d_CM_searchPitches_65 rfl ?_
              rw [show Jc 2 nn = cc 1 nn from (hRc.2.1.2 nn (by omega)).1]
              refine mk_iconst (nx := 67) X d_CM_searchPitches_66 rfl ?_
              refine mk_iadd (nx := 68) X d_CM_searchPitches_67 rfl ?_
              refine mk_nm (fun nx hnx => ?_)
              have hn2 : nx = nxt cc nn := by
                rw [hnx, nxt]
                first | rw [if_pos (by omega)] | rw [if_neg (by omega)]
              refine mk_istore (nx := 70) X [(5, .int (zi nx)), (4, .int (zi (nn : Int))), (0, .ref (ad 0)), (1, .int (zi most)), (2, .int (zi i)), (3, .int (zi (T : Int)))] d_CM_searchPitches_68 (by decide) rfl rfl ?_
              refine mk_iload (nx := 72) X 0 d_CM_searchPitches_70 rfl rfl ?_
              refine mk_aloadn (nx := 73) X 2 d_CM_searchPitches_72 rfl rfl ?_
              refine mk_get (nx := 76) (v := .ref (ad 5)) X 0 (by decide) (sh_CM cs ad _) rfl in_CM 2 (by decide) wd_289 rfl rfl d_CM_searchPitches_73 rfl ?_
              refine mk_get (nx := 79) (v := .int (zi (Jc 5 1))) X 5 (by decide) (sh_Bounds cs ad _) rfl in_Bounds 1 (by decide) wd_93 rfl rfl d_CM_searchPitches_76 rfl ?_
              rw [show Jc 5 1 = cc 0 2 from hRc.2.2.1.1.2.1]
              refine mk_icmp_le (tgt := 100) (nx := 82) X d_CM_searchPitches_79 (by omega) (by omega) (by decide) rfl (fun c79 => ?_) (fun c79 => ?_)
              · skip
                refine mk_aloadn (nx := 101) X 2 d_CM_searchPitches_100 rfl rfl ?_
                refine mk_get (nx := 104) (v := .int (zi (Jc 0 9))) X 0 (by decide) (sh_CM cs ad _) rfl in_CM 9 (by decide) wd_296 rfl rfl d_CM_searchPitches_101 rfl ?_
                rw [show Jc 0 9 = cc 0 7 from hRc.2.2.1.2.2]
                refine mk_iloadn (nx := 105) X 3 d_CM_searchPitches_104 rfl rfl ?_
                refine mk_icmp_lt (tgt := 111) (nx := 108) X d_CM_searchPitches_105 (by omega) (by omega) (by decide) rfl (fun c105 => ?_) (fun c105 => ?_)
                · skip
                  refine mk_aloadn (nx := 112) X 2 d_CM_searchPitches_111 rfl rfl ?_
                  refine mk_dup (nx := 113) X d_CM_searchPitches_112 rfl rfl ?_
                  refine mk_get (nx := 116) (v := .int (zi (Jc 0 9))) X 0 (by decide) (sh_CM cs ad _) rfl in_CM 9 (by decide) wd_296 rfl rfl d_CM_searchPitches_113 rfl ?_
                  rw [show Jc 0 9 = cc 0 7 from hRc.2.2.1.2.2]
                  refine mk_iconst (nx := 117) X d_CM_searchPitches_116 rfl ?_
                  refine mk_iadd (nx := 118) X d_CM_searchPitches_117 rfl ?_
                  refine mk_putf (nx := 121) (ty := .int) X t_CM t_CM_ok n_CM 0 (by decide) (sh_CM cs ad _) rfl in_CM 9 (by decide) wd_296 rfl rfl (by decide +kernel) rfl rfl (Nat.le_of_ble_eq_true rfl) ((sh_CM cs ad _).trans rfl) d_CM_searchPitches_118 rfl ?_
                  obtain ⟨J1, hJ1⟩ : ∃ W_ : Wo, W_ = up2 Jc 0 9 ((cc 0 7) + 1) := ⟨_, rfl⟩
                  refine mk_same hJ1.symm ?_
                  have hJ1s : J1 0 9 = (cc 0 7) + 1 := hJ1 ▸ up2_ss Jc 0 9 ((cc 0 7) + 1)
                  have hJ1o : ∀ a b, (a ≠ 0 ∨ b ≠ 9) → J1 a b = Jc a b := hJ1 ▸ up2_o Jc 0 9 ((cc 0 7) + 1)
                  have hR7 : cmR (up2 cc 0 7 (cc 0 7 + 1)) J1 := by rw [hJ1]; exact cm_s_steps hRc (by omega)
                  have hSp7 : SpI c O J1 := ss_fr hSp (fun a b x => hJ1o a b (by omega))
                  refine mk_aloadn (nx := 122) X 2 d_CM_searchPitches_121 rfl rfl ?_
                  refine mk_get (nx := 125) (v := .ref (ad 1)) X 0 (by decide) (sh_CM cs ad _) rfl in_CM 0 (by decide) wd_287 rfl rfl d_CM_searchPitches_122 rfl ?_
                  refine mk_get (nx := 128) (v := .ref (ad 2)) X 1 (by decide) (sh_Subject cs ad _) rfl in_Subject 0 (by decide) wd_65 rfl rfl d_CM_searchPitches_125 rfl ?_
                  refine mk_iload (nx := 130) X 1 d_CM_searchPitches_128 rfl rfl ?_
                  refine mk_iload (nx := 132) X 0 d_CM_searchPitches_130 rfl rfl ?_
                  refine mk_iast (nx := 133) (j := nn) X 2 0 (by decide) (sh_Spit cs ad) rfl (by omega) (by omega) (by decide) rfl d_CM_searchPitches_132 rfl ?_
                  obtain ⟨J2, hJ2⟩ : ∃ W_ : Wo, W_ = up2 J1 2 nn nx := ⟨_, rfl⟩
                  refine mk_same hJ2.symm ?_
                  have hJ2s : J2 2 nn = nx := hJ2 ▸ up2_ss J1 2 nn nx
                  have hJ2o : ∀ a b, (a ≠ 2 ∨ b ≠ nn) → J2 a b = J1 a b := hJ2 ▸ up2_o J1 2 nn nx
                  have hRt : cmR (tst cc nn) J2 := by
                    rw [hJ2, hn2]
                    exact cm_s_pitch hR7 (by rw [up2_o _ _ _ _ _ _ (by omega)]; omega) (by omega)
                  have hSpt : SpI c O J2 := ss_fr hSp7 (fun a b x => hJ2o a b (by omega))
                  have hsT := (sri_try hd h.1.2.1 hsi (by omega) hnn (by rw [← hn2]; omega) (by omega)).1
                  obtain ⟨hwt, hrt⟩ := SrI_wf h.1 hmem (by omega) hsT
                  have hFt : ScF (tst cc nn) J2 := ScF_rl hrt (fun v hv => hsT.1 _ _ (by omega) (by omega)) hSpt.2.2.1
                  refine mk_aloadn (nx := 134) X 2 d_CM_searchPitches_133 rfl rfl ?_
                  refine mk_get (nx := 137) (v := .ref (ad 6)) X 0 (by decide) (sh_CM cs ad _) rfl in_CM 3 (by decide) wd_290 rfl rfl d_CM_searchPitches_134 rfl ?_
                  refine mk_aloadn (nx := 138) X 2 d_CM_searchPitches_137 rfl rfl ?_
                  refine mk_get (nx := 141) (v := .ref (ad 1)) X 0 (by decide) (sh_CM cs ad _) rfl in_CM 0 (by decide) wd_287 rfl rfl d_CM_searchPitches_138 rfl ?_
                  refine mk_callVv (nx := 144) (n := 1) (As := [.ref (ad 1)]) (rest := []) X 6 (by decide) (sh_Score cs ad _) rfl (c_Score_tune l D cs ad zt hi (tst cc nn) J2 hwt.1 hwt.2.1 hwt.2.2.1 hRt.2.1 hFt) (g_Score_tune wd_444) rfl ⟨rfl, rfl⟩ (by decide +kernel) ⟨by decide, by decide⟩ rfl (Nat.le_of_ble_eq_true rfl) rfl d_CM_searchPitches_141 rfl ?_
                  intro JT hJT
                  have hSpT : SpI c O JT := ss_fr hSpt (fun a b x => hJT.2 a b (by omega))
                  have hRT : cmR (tst cc nn) JT := cmR_fr (fun a b x y => hJT.2 a b (by omega)) hRt
                  refine mk_iloadn (nx := 145) X 4 d_CM_searchPitches_144 rfl rfl ?_
                  refine mk_aloadn (nx := 146) X 2 d_CM_searchPitches_145 rfl rfl ?_
                  refine mk_get (nx := 149) (v := .ref (ad 36)) X 0 (by decide) (sh_CM cs ad _) rfl in_CM 4 (by decide) wd_291 rfl rfl d_CM_searchPitches_146 rfl ?_
                  refine mk_iconst (nx := 150) X d_CM_searchPitches_149 rfl ?_
                  refine mk_iconst (nx := 151) X d_CM_searchPitches_150 rfl ?_
                  refine mk_iload (nx := 153) X 1 d_CM_searchPitches_151 rfl rfl ?_
                  refine mk_ishl (nx := 154) X d_CM_searchPitches_153 rfl ?_
                  refine mk_callVi (nx := 157) (n := 2) (As := [.int (zi 0), .int (zi (zishl 1 (nn : Int)))]) (rest := [.int (zi i)]) X 36 (by decide) (sh_Judge cs ad _) rfl (c_Judge_countFaults l D cs ad zt hi (tst cc nn) JT hwt.1 hwt.2.1 hwt.2.2.1 (ScF_rl hrt (fun v hv => hsT.1 _ _ (by omega) (by omega)) hSpT.2.2.1) hJT.1 (hrt.ntl hn) (hrt.mom h.1.1 h.1.2.2.1 hwt.1 hwt.2.2.1 hSpT.2.2.2.1) hSpT.2.2.2.2.1 (hrt.pla h.1.1 h.1.2.2.1 hwt.1 hwt.2.2.1 hSpT.2.2.2.2.2) (cmS_bd hRT.2.2.1) 0 (by omega) (zishl 1 (nn : Int))) (g_Judge_countFaults wd_471) rfl ⟨rfl, rfl⟩ (by decide +kernel) ⟨by decide, by decide⟩ rfl (Nat.le_of_ble_eq_true rfl) rfl d_CM_searchPitches_154 rfl ?_
                  intro r154 JC hJC
                  have hRC : cmR (tst cc nn) JC := cmR_fr (fun a b x y => hJC.1 a b (by omega)) hRT
                  have hSpC : SpI c O JC := ss_fr hSpT (fun a b x => hJC.1 a b (by omega))
                  have hcf := cf_0 hJC
                  rw [← jdg h.1 hmem (by omega) hd hn hSpT.2.2.2.1 (PlA_tch hSpT.2.2.2.2.2) hsi hck (by omega) hnn (by rw [← hn2]; omega) (by omega)] at hcf
                  have hrb := hJC.2.2
                  refine mk_if_ne (tgt := 164) (nx := 160) X d_CM_searchPitches_157 (by omega) (by decide) rfl (fun c157 => ?_) (fun c157 => ?_)
                  · skip
                    refine mk_iconst (nx := 165) X d_CM_searchPitches_164 rfl ?_
                    refine mk_iadd (nx := 166) X d_CM_searchPitches_165 rfl ?_
                    refine mk_istoren (nx := 167) X [(2, .int (zi (i + 0))), (5, .int (zi nx)), (4, .int (zi (nn : Int))), (0, .ref (ad 0)), (1, .int (zi most)), (3, .int (zi (T : Int)))] d_CM_searchPitches_166 (by decide) rfl rfl ?_
                    refine mk_iinc (nx := 170) X 5 [(3, .int (zi ((T : Int) + 1))), (2, .int (zi (i + 0))), (5, .int (zi nx)), (4, .int (zi (nn : Int))), (0, .ref (ad 0)), (1, .int (zi most))] d_CM_searchPitches_167 rfl (by decide) rfl rfl ?_
                    refine mk_goto (tgt := 4) X d_CM_searchPitches_170 (by decide) ?_
                    refine mk_lv [4, 5, 1, 0] rfl ?_
                    exact ih4 (i + 0) (T + 1) (tst cc nn) JC (by first | exact hst | exact sri_bq hd hsi (by omega) hnn | (rw [Int.add_zero]; exact (sri_try hd h.1.2.1 hsi (by omega) hnn (by rw [← hn2]; omega) (by omega)).1) | exact (sri_try hd h.1.2.1 hsi (by omega) hnn (by rw [← hn2]; omega) (by omega)).2) (by first | exact h | exact hRC | (rw [hJC]; exact cm_s_pitch hRc (by omega) (by omega))) (by first | exact hSp0 | exact hSpC | exact ss_fr hSp (fun a b x => hJCo a b (by omega))) (by first | (rw [tst_7]; omega) | (rw [up2_o _ _ _ _ _ _ (by omega)]; omega) | omega) (by first | exact sx_bk (by omega) (by omega) hnn (by rw [← hn2]; omega) hsr | exact sx_y (by omega) (by omega) hnn (by rw [← hn2]; omega) (by omega) (hcf.resolve_right (fun z => absurd z.1 (by omega))).2 hsr | exact sx_n (by omega) (by omega) hnn (by rw [← hn2]; omega) (by omega) (hcf.resolve_left (fun z => absurd z.1 (by omega))).2 hsr | rfl) (by first | exact ck_0 (fun m z => (hmem m z).2) hcl | exact ck_bq hck (by omega) hnn | (rw [Int.add_zero]; exact (ck_try h.1 hmem (by omega) hd hn hsi hck (by omega) hnn (by rw [← hn2]; omega) (by omega)).1) | exact (ck_try h.1 hmem (by omega) hd hn hsi hck (by omega) hnn (by rw [← hn2]; omega) (by omega)).2 (hcf.resolve_right (fun z => absurd z.1 (by omega))).2) (by omega)
                  · skip
                    refine mk_iconst (nx := 161) X d_CM_searchPitches_160 rfl ?_
                    refine mk_goto (tgt := 165) X d_CM_searchPitches_161 (by decide) ?_
                    refine mk_iadd (nx := 166) X d_CM_searchPitches_165 rfl ?_
                    refine mk_istoren (nx := 167) X [(2, .int (zi (i + 1))), (5, .int (zi nx)), (4, .int (zi (nn : Int))), (0, .ref (ad 0)), (1, .int (zi most)), (3, .int (zi (T : Int)))] d_CM_searchPitches_166 (by decide) rfl rfl ?_
                    refine mk_iinc (nx := 170) X 5 [(3, .int (zi ((T : Int) + 1))), (2, .int (zi (i + 1))), (5, .int (zi nx)), (4, .int (zi (nn : Int))), (0, .ref (ad 0)), (1, .int (zi most))] d_CM_searchPitches_167 rfl (by decide) rfl rfl ?_
                    refine mk_goto (tgt := 4) X d_CM_searchPitches_170 (by decide) ?_
                    refine mk_lv [4, 5, 1, 0] rfl ?_
                    exact ih4 (i + 1) (T + 1) (tst cc nn) JC (by first | exact hst | exact sri_bq hd hsi (by omega) hnn | (rw [Int.add_zero]; exact (sri_try hd h.1.2.1 hsi (by omega) hnn (by rw [← hn2]; omega) (by omega)).1) | exact (sri_try hd h.1.2.1 hsi (by omega) hnn (by rw [← hn2]; omega) (by omega)).2) (by first | exact h | exact hRC | (rw [hJC]; exact cm_s_pitch hRc (by omega) (by omega))) (by first | exact hSp0 | exact hSpC | exact ss_fr hSp (fun a b x => hJCo a b (by omega))) (by first | (rw [tst_7]; omega) | (rw [up2_o _ _ _ _ _ _ (by omega)]; omega) | omega) (by first | exact sx_bk (by omega) (by omega) hnn (by rw [← hn2]; omega) hsr | exact sx_y (by omega) (by omega) hnn (by rw [← hn2]; omega) (by omega) (hcf.resolve_right (fun z => absurd z.1 (by omega))).2 hsr | exact sx_n (by omega) (by omega) hnn (by rw [← hn2]; omega) (by omega) (hcf.resolve_left (fun z => absurd z.1 (by omega))).2 hsr | rfl) (by first | exact ck_0 (fun m z => (hmem m z).2) hcl | exact ck_bq hck (by omega) hnn | (rw [Int.add_zero]; exact (ck_try h.1 hmem (by omega) hd hn hsi hck (by omega) hnn (by rw [← hn2]; omega) (by omega)).1) | exact (ck_try h.1 hmem (by omega) hd hn hsi hck (by omega) hnn (by rw [← hn2]; omega) (by omega)).2 (hcf.resolve_right (fun z => absurd z.1 (by omega))).2) (by omega)
                · skip
                  refine mk_bipush (nx := 110) X d_CM_searchPitches_108 (by decide) rfl ?_
                  exact hret _ _ _ _ d_CM_searchPitches_110 (by exact ⟨cc, hRc, hSp, fun m z => (by rw [hcn2]; exact (hmem m z).1), Or.inr (Or.inr ⟨rfl, sx_out (by omega) (by omega) hnn (by rw [← hn2]; omega) (by omega) hsr⟩)⟩)
              · skip
                refine mk_aloadn (nx := 83) X 2 d_CM_searchPitches_82 rfl rfl ?_
                refine mk_get (nx := 86) (v := .ref (ad 1)) X 0 (by decide) (sh_CM cs ad _) rfl in_CM 0 (by decide) wd_287 rfl rfl d_CM_searchPitches_83 rfl ?_
                refine mk_get (nx := 89) (v := .ref (ad 2)) X 1 (by decide) (sh_Subject cs ad _) rfl in_Subject 0 (by decide) wd_65 rfl rfl d_CM_searchPitches_86 rfl ?_
                refine mk_iload (nx := 91) X 1 d_CM_searchPitches_89 rfl rfl ?_
                refine mk_bipush (nx := 93) X d_CM_searchPitches_91 (by decide) rfl ?_
                refine mk_iast (nx := 94) (j := nn) X 2 0 (by decide) (sh_Spit cs ad) rfl (by omega) (by omega) (by decide) rfl d_CM_searchPitches_93 rfl ?_
                obtain ⟨J3, hJ3⟩ : ∃ W_ : Wo, W_ = up2 Jc 2 nn (-2) := ⟨_, rfl⟩
                refine mk_same hJ3.symm ?_
                have hJ3s : J3 2 nn = (-2) := hJ3 ▸ up2_ss Jc 2 nn (-2)
                have hJ3o : ∀ a b, (a ≠ 2 ∨ b ≠ nn) → J3 a b = Jc a b := hJ3 ▸ up2_o Jc 2 nn (-2)
                refine mk_iinc (nx := 97) X 4 [(2, .int (zi (i + (-1)))), (5, .int (zi nx)), (4, .int (zi (nn : Int))), (0, .ref (ad 0)), (1, .int (zi most)), (3, .int (zi (T : Int)))] d_CM_searchPitches_94 rfl (by decide) rfl rfl ?_
                refine mk_goto (tgt := 167) X d_CM_searchPitches_97 (by decide) ?_
                refine mk_iinc (nx := 170) X 5 [(3, .int (zi ((T : Int) + 1))), (2, .int (zi (i + (-1)))), (5, .int (zi nx)), (4, .int (zi (nn : Int))), (0, .ref (ad 0)), (1, .int (zi most))] d_CM_searchPitches_167 rfl (by decide) rfl rfl ?_
                refine mk_goto (tgt := 4) X d_CM_searchPitches_170 (by decide) ?_
                refine mk_lv [4, 5, 1, 0] rfl ?_
                exact ih4 (i + (-1)) (T + 1) (up2 cc 1 nn (-2)) J3 (by first | exact hst | exact sri_bq hd hsi (by omega) hnn | (rw [Int.add_zero]; exact (sri_try hd h.1.2.1 hsi (by omega) hnn (by rw [← hn2]; omega) (by omega)).1) | exact (sri_try hd h.1.2.1 hsi (by omega) hnn (by rw [← hn2]; omega) (by omega)).2) (by first | exact h | exact hRC | (rw [hJ3]; exact cm_s_pitch hRc (by omega) (by omega))) (by first | exact hSp0 | exact hSpC | exact ss_fr hSp (fun a b x => hJ3o a b (by omega))) (by first | (rw [tst_7]; omega) | (rw [up2_o _ _ _ _ _ _ (by omega)]; omega) | omega) (by first | exact sx_bk (by omega) (by omega) hnn (by rw [← hn2]; omega) hsr | exact sx_y (by omega) (by omega) hnn (by rw [← hn2]; omega) (by omega) (hcf.resolve_right (fun z => absurd z.1 (by omega))).2 hsr | exact sx_n (by omega) (by omega) hnn (by rw [← hn2]; omega) (by omega) (hcf.resolve_left (fun z => absurd z.1 (by omega))).2 hsr | rfl) (by first | exact ck_0 (fun m z => (hmem m z).2) hcl | exact ck_bq hck (by omega) hnn | (rw [Int.add_zero]; exact (ck_try h.1 hmem (by omega) hd hn hsi hck (by omega) hnn (by rw [← hn2]; omega) (by omega)).1) | exact (ck_try h.1 hmem (by omega) hd hn hsi hck (by omega) hnn (by rw [← hn2]; omega) (by omega)).2 (hcf.resolve_right (fun z => absurd z.1 (by omega))).2) (by omega)
            · skip
              refine mk_aloadn (nx := 47) X 1 d_CM_searchPitches_46 rfl rfl ?_
              refine mk_get (nx := 50) (v := .ref (ad 5)) X 0 (by decide) (sh_CM cs ad _) rfl in_CM 2 (by decide) wd_289 rfl rfl d_CM_searchPitches_47 rfl ?_
              refine mk_get (nx := 53) (v := .int (zi (Jc 5 0))) X 5 (by decide) (sh_Bounds cs ad _) rfl in_Bounds 0 (by decide) wd_90 rfl rfl d_CM_searchPitches_50 rfl ?_
              rw [show Jc 5 0 = cc 0 1 from hRc.2.2.1.1.1]
              refine mk_goto (tgt := 68) X d_CM_searchPitches_53 (by decide) ?_
              refine mk_nm (fun nx hnx => ?_)
              have hn2 : nx = nxt cc nn := by
                rw [hnx, nxt]
                first | rw [if_pos (by omega)] | rw [if_neg (by omega)]
              refine mk_istore (nx := 70) X [(5, .int (zi nx)), (4, .int (zi (nn : Int))), (0, .ref (ad 0)), (1, .int (zi most)), (2, .int (zi i)), (3, .int (zi (T : Int)))] d_CM_searchPitches_68 (by decide) rfl rfl ?_
              refine mk_iload (nx := 72) X 0 d_CM_searchPitches_70 rfl rfl ?_
              refine mk_aloadn (nx := 73) X 2 d_CM_searchPitches_72 rfl rfl ?_
              refine mk_get (nx := 76) (v := .ref (ad 5)) X 0 (by decide) (sh_CM cs ad _) rfl in_CM 2 (by decide) wd_289 rfl rfl d_CM_searchPitches_73 rfl ?_
              refine mk_get (nx := 79) (v := .int (zi (Jc 5 1))) X 5 (by decide) (sh_Bounds cs ad _) rfl in_Bounds 1 (by decide) wd_93 rfl rfl d_CM_searchPitches_76 rfl ?_
              rw [show Jc 5 1 = cc 0 2 from hRc.2.2.1.1.2.1]
              refine mk_icmp_le (tgt := 100) (nx := 82) X d_CM_searchPitches_79 (by omega) (by omega) (by decide) rfl (fun c79 => ?_) (fun c79 => ?_)
              · skip
                refine mk_aloadn (nx := 101) X 2 d_CM_searchPitches_100 rfl rfl ?_
                refine mk_get (nx := 104) (v := .int (zi (Jc 0 9))) X 0 (by decide) (sh_CM cs ad _) rfl in_CM 9 (by decide) wd_296 rfl rfl d_CM_searchPitches_101 rfl ?_
                rw [show Jc 0 9 = cc 0 7 from hRc.2.2.1.2.2]
                refine mk_iloadn (nx := 105) X 3 d_CM_searchPitches_104 rfl rfl ?_
                refine mk_icmp_lt (tgt := 111) (nx := 108) X d_CM_searchPitches_105 (by omega) (by omega) (by decide) rfl (fun c105 => ?_) (fun c105 => ?_)
                · skip
                  refine mk_aloadn (nx := 112) X 2 d_CM_searchPitches_111 rfl rfl ?_
                  refine mk_dup (nx := 113) X d_CM_searchPitches_112 rfl rfl ?_
                  refine mk_get (nx := 116) (v := .int (zi (Jc 0 9))) X 0 (by decide) (sh_CM cs ad _) rfl in_CM 9 (by decide) wd_296 rfl rfl d_CM_searchPitches_113 rfl ?_
                  rw [show Jc 0 9 = cc 0 7 from hRc.2.2.1.2.2]
                  refine mk_iconst (nx := 117) X d_CM_searchPitches_116 rfl ?_
                  refine mk_iadd (nx := 118) X d_CM_searchPitches_117 rfl ?_
                  refine mk_putf (nx := 121) (ty := .int) X t_CM t_CM_ok n_CM 0 (by decide) (sh_CM cs ad _) rfl in_CM 9 (by decide) wd_296 rfl rfl (by decide +kernel) rfl rfl (Nat.le_of_ble_eq_true rfl) ((sh_CM cs ad _).trans rfl) d_CM_searchPitches_118 rfl ?_
                  obtain ⟨J4, hJ4⟩ : ∃ W_ : Wo, W_ = up2 Jc 0 9 ((cc 0 7) + 1) := ⟨_, rfl⟩
                  refine mk_same hJ4.symm ?_
                  have hJ4s : J4 0 9 = (cc 0 7) + 1 := hJ4 ▸ up2_ss Jc 0 9 ((cc 0 7) + 1)
                  have hJ4o : ∀ a b, (a ≠ 0 ∨ b ≠ 9) → J4 a b = Jc a b := hJ4 ▸ up2_o Jc 0 9 ((cc 0 7) + 1)
                  have hR7 : cmR (up2 cc 0 7 (cc 0 7 + 1)) J4 := by rw [hJ4]; exact cm_s_steps hRc (by omega)
                  have hSp7 : SpI c O J4 := ss_fr hSp (fun a b x => hJ4o a b (by omega))
                  refine mk_aloadn (nx := 122) X 2 d_CM_searchPitches_121 rfl rfl ?_
                  refine mk_get (nx := 125) (v := .ref (ad 1)) X 0 (by decide) (sh_CM cs ad _) rfl in_CM 0 (by decide) wd_287 rfl rfl d_CM_searchPitches_122 rfl ?_
                  refine mk_get (nx := 128) (v := .ref (ad 2)) X 1 (by decide) (sh_Subject cs ad _) rfl in_Subject 0 (by decide) wd_65 rfl rfl d_CM_searchPitches_125 rfl ?_
                  refine mk_iload (nx := 130) X 1 d_CM_searchPitches_128 rfl rfl ?_
                  refine mk_iload (nx := 132) X 0 d_CM_searchPitches_130 rfl rfl ?_
                  refine mk_iast (nx := 133) (j := nn) X 2 0 (by decide) (sh_Spit cs ad) rfl (by omega) (by omega) (by decide) rfl d_CM_searchPitches_132 rfl ?_
                  obtain ⟨J5, hJ5⟩ : ∃ W_ : Wo, W_ = up2 J4 2 nn nx := ⟨_, rfl⟩
                  refine mk_same hJ5.symm ?_
                  have hJ5s : J5 2 nn = nx := hJ5 ▸ up2_ss J4 2 nn nx
                  have hJ5o : ∀ a b, (a ≠ 2 ∨ b ≠ nn) → J5 a b = J4 a b := hJ5 ▸ up2_o J4 2 nn nx
                  have hRt : cmR (tst cc nn) J5 := by
                    rw [hJ5, hn2]
                    exact cm_s_pitch hR7 (by rw [up2_o _ _ _ _ _ _ (by omega)]; omega) (by omega)
                  have hSpt : SpI c O J5 := ss_fr hSp7 (fun a b x => hJ5o a b (by omega))
                  have hsT := (sri_try hd h.1.2.1 hsi (by omega) hnn (by rw [← hn2]; omega) (by omega)).1
                  obtain ⟨hwt, hrt⟩ := SrI_wf h.1 hmem (by omega) hsT
                  have hFt : ScF (tst cc nn) J5 := ScF_rl hrt (fun v hv => hsT.1 _ _ (by omega) (by omega)) hSpt.2.2.1
                  refine mk_aloadn (nx := 134) X 2 d_CM_searchPitches_133 rfl rfl ?_
                  refine mk_get (nx := 137) (v := .ref (ad 6)) X 0 (by decide) (sh_CM cs ad _) rfl in_CM 3 (by decide) wd_290 rfl rfl d_CM_searchPitches_134 rfl ?_
                  refine mk_aloadn (nx := 138) X 2 d_CM_searchPitches_137 rfl rfl ?_
                  refine mk_get (nx := 141) (v := .ref (ad 1)) X 0 (by decide) (sh_CM cs ad _) rfl in_CM 0 (by decide) wd_287 rfl rfl d_CM_searchPitches_138 rfl ?_
                  refine mk_callVv (nx := 144) (n := 1) (As := [.ref (ad 1)]) (rest := []) X 6 (by decide) (sh_Score cs ad _) rfl (c_Score_tune l D cs ad zt hi (tst cc nn) J5 hwt.1 hwt.2.1 hwt.2.2.1 hRt.2.1 hFt) (g_Score_tune wd_444) rfl ⟨rfl, rfl⟩ (by decide +kernel) ⟨by decide, by decide⟩ rfl (Nat.le_of_ble_eq_true rfl) rfl d_CM_searchPitches_141 rfl ?_
                  intro JT hJT
                  have hSpT : SpI c O JT := ss_fr hSpt (fun a b x => hJT.2 a b (by omega))
                  have hRT : cmR (tst cc nn) JT := cmR_fr (fun a b x y => hJT.2 a b (by omega)) hRt
                  refine mk_iloadn (nx := 145) X 4 d_CM_searchPitches_144 rfl rfl ?_
                  refine mk_aloadn (nx := 146) X 2 d_CM_searchPitches_145 rfl rfl ?_
                  refine mk_get (nx := 149) (v := .ref (ad 36)) X 0 (by decide) (sh_CM cs ad _) rfl in_CM 4 (by decide) wd_291 rfl rfl d_CM_searchPitches_146 rfl ?_
                  refine mk_iconst (nx := 150) X d_CM_searchPitches_149 rfl ?_
                  refine mk_iconst (nx := 151) X d_CM_searchPitches_150 rfl ?_
                  refine mk_iload (nx := 153) X 1 d_CM_searchPitches_151 rfl rfl ?_
                  refine mk_ishl (nx := 154) X d_CM_searchPitches_153 rfl ?_
                  refine mk_callVi (nx := 157) (n := 2) (As := [.int (zi 0), .int (zi (zishl 1 (nn : Int)))]) (rest := [.int (zi i)]) X 36 (by decide) (sh_Judge cs ad _) rfl (c_Judge_countFaults l D cs ad zt hi (tst cc nn) JT hwt.1 hwt.2.1 hwt.2.2.1 (ScF_rl hrt (fun v hv => hsT.1 _ _ (by omega) (by omega)) hSpT.2.2.1) hJT.1 (hrt.ntl hn) (hrt.mom h.1.1 h.1.2.2.1 hwt.1 hwt.2.2.1 hSpT.2.2.2.1) hSpT.2.2.2.2.1 (hrt.pla h.1.1 h.1.2.2.1 hwt.1 hwt.2.2.1 hSpT.2.2.2.2.2) (cmS_bd hRT.2.2.1) 0 (by omega) (zishl 1 (nn : Int))) (g_Judge_countFaults wd_471) rfl ⟨rfl, rfl⟩ (by decide +kernel) ⟨by decide, by decide⟩ rfl (Nat.le_of_ble_eq_true rfl) rfl d_CM_searchPitches_154 rfl ?_
                  intro r154 JC hJC
                  have hRC : cmR (tst cc nn) JC := cmR_fr (fun a b x y => hJC.1 a b (by omega)) hRT
                  have hSpC : SpI c O JC := ss_fr hSpT (fun a b x => hJC.1 a b (by omega))
                  have hcf := cf_0 hJC
                  rw [← jdg h.1 hmem (by omega) hd hn hSpT.2.2.2.1 (PlA_tch hSpT.2.2.2.2.2) hsi hck (by omega) hnn (by rw [← hn2]; omega) (by omega)] at hcf
                  have hrb := hJC.2.2
                  refine mk_if_ne (tgt := 164) (nx := 160) X d_CM_searchPitches_157 (by omega) (by decide) rfl (fun c157 => ?_) (fun c157 => ?_)
                  · skip
                    refine mk_iconst (nx := 165) X d_CM_searchPitches_164 rfl ?_
                    refine mk_iadd (nx := 166) X d_CM_searchPitches_165 rfl ?_
                    refine mk_istoren (nx := 167) X [(2, .int (zi (i + 0))), (5, .int (zi nx)), (4, .int (zi (nn : Int))), (0, .ref (ad 0)), (1, .int (zi most)), (3, .int (zi (T : Int)))] d_CM_searchPitches_166 (by decide) rfl rfl ?_
                    refine mk_iinc (nx := 170) X 5 [(3, .int (zi ((T : Int) + 1))), (2, .int (zi (i + 0))), (5, .int (zi nx)), (4, .int (zi (nn : Int))), (0, .ref (ad 0)), (1, .int (zi most))] d_CM_searchPitches_167 rfl (by decide) rfl rfl ?_
                    refine mk_goto (tgt := 4) X d_CM_searchPitches_170 (by decide) ?_
                    refine mk_lv [4, 5, 1, 0] rfl ?_
                    exact ih4 (i + 0) (T + 1) (tst cc nn) JC (by first | exact hst | exact sri_bq hd hsi (by omega) hnn | (rw [Int.add_zero]; exact (sri_try hd h.1.2.1 hsi (by omega) hnn (by rw [← hn2]; omega) (by omega)).1) | exact (sri_try hd h.1.2.1 hsi (by omega) hnn (by rw [← hn2]; omega) (by omega)).2) (by first | exact h | exact hRC | (rw [hJC]; exact cm_s_pitch hRc (by omega) (by omega))) (by first | exact hSp0 | exact hSpC | exact ss_fr hSp (fun a b x => hJCo a b (by omega))) (by first | (rw [tst_7]; omega) | (rw [up2_o _ _ _ _ _ _ (by omega)]; omega) | omega) (by first | exact sx_bk (by omega) (by omega) hnn (by rw [← hn2]; omega) hsr | exact sx_y (by omega) (by omega) hnn (by rw [← hn2]; omega) (by omega) (hcf.resolve_right (fun z => absurd z.1 (by omega))).2 hsr | exact sx_n (by omega) (by omega) hnn (by rw [← hn2]; omega) (by omega) (hcf.resolve_left (fun z => absurd z.1 (by omega))).2 hsr | rfl) (by first | exact ck_0 (fun m z => (hmem m z).2) hcl | exact ck_bq hck (by omega) hnn | (rw [Int.add_zero]; exact (ck_try h.1 hmem (by omega) hd hn hsi hck (by omega) hnn (by rw [← hn2]; omega) (by omega)).1) | exact (ck_try h.1 hmem (by omega) hd hn hsi hck (by omega) hnn (by rw [← hn2]; omega) (by omega)).2 (hcf.resolve_right (fun z => absurd z.1 (by omega))).2) (by omega)
                  · skip
                    refine mk_iconst (nx := 161) X d_CM_searchPitches_160 rfl ?_
                    refine mk_goto (tgt := 165) X d_CM_searchPitches_161 (by decide) ?_
                    refine mk_iadd (nx := 166) X d_CM_searchPitches_165 rfl ?_
                    refine mk_istoren (nx := 167) X [(2, .int (zi (i + 1))), (5, .int (zi nx)), (4, .int (zi (nn : Int))), (0, .ref (ad 0)), (1, .int (zi most)), (3, .int (zi (T : Int)))] d_CM_searchPitches_166 (by decide) rfl rfl ?_
                    refine mk_iinc (nx := 170) X 5 [(3, .int (zi ((T : Int) + 1))), (2, .int (zi (i + 1))), (5, .int (zi nx)), (4, .int (zi (nn : Int))), (0, .ref (ad 0)), (1, .int (zi most))] d_CM_searchPitches_167 rfl (by decide) rfl rfl ?_
                    refine mk_goto (tgt := 4) X d_CM_searchPitches_170 (by decide) ?_
                    refine mk_lv [4, 5, 1, 0] rfl ?_
                    exact ih4 (i + 1) (T + 1) (tst cc nn) JC (by first | exact hst | exact sri_bq hd hsi (by omega) hnn | (rw [Int.add_zero]; exact (sri_try hd h.1.2.1 hsi (by omega) hnn (by rw [← hn2]; omega) (by omega)).1) | exact (sri_try hd h.1.2.1 hsi (by omega) hnn (by rw [← hn2]; omega) (by omega)).2) (by first | exact h | exact hRC | (rw [hJC]; exact cm_s_pitch hRc (by omega) (by omega))) (by first | exact hSp0 | exact hSpC | exact ss_fr hSp (fun a b x => hJCo a b (by omega))) (by first | (rw [tst_7]; omega) | (rw [up2_o _ _ _ _ _ _ (by omega)]; omega) | omega) (by first | exact sx_bk (by omega) (by omega) hnn (by rw [← hn2]; omega) hsr | exact sx_y (by omega) (by omega) hnn (by rw [← hn2]; omega) (by omega) (hcf.resolve_right (fun z => absurd z.1 (by omega))).2 hsr | exact sx_n (by omega) (by omega) hnn (by rw [← hn2]; omega) (by omega) (hcf.resolve_left (fun z => absurd z.1 (by omega))).2 hsr | rfl) (by first | exact ck_0 (fun m z => (hmem m z).2) hcl | exact ck_bq hck (by omega) hnn | (rw [Int.add_zero]; exact (ck_try h.1 hmem (by omega) hd hn hsi hck (by omega) hnn (by rw [← hn2]; omega) (by omega)).1) | exact (ck_try h.1 hmem (by omega) hd hn hsi hck (by omega) hnn (by rw [← hn2]; omega) (by omega)).2 (hcf.resolve_right (fun z => absurd z.1 (by omega))).2) (by omega)
                · skip
                  refine mk_bipush (nx := 110) X d_CM_searchPitches_108 (by decide) rfl ?_
                  exact hret _ _ _ _ d_CM_searchPitches_110 (by exact ⟨cc, hRc, hSp, fun m z => (by rw [hcn2]; exact (hmem m z).1), Or.inr (Or.inr ⟨rfl, sx_out (by omega) (by omega) hnn (by rw [← hn2]; omega) (by omega) hsr⟩)⟩)
              · skip
                refine mk_aloadn (nx := 83) X 2 d_CM_searchPitches_82 rfl rfl ?_
                refine mk_get (nx := 86) (v := .ref (ad 1)) X 0 (by decide) (sh_CM cs ad _) rfl in_CM 0 (by decide) wd_287 rfl rfl d_CM_searchPitches_83 rfl ?_
                refine mk_get (nx := 89) (v := .ref (ad 2)) X 1 (by decide) (sh_Subject cs ad _) rfl in_Subject 0 (by decide) wd_65 rfl rfl d_CM_searchPitches_86 rfl ?_
                refine mk_iload (nx := 91) X 1 d_CM_searchPitches_89 rfl rfl ?_
                refine mk_bipush (nx := 93) X d_CM_searchPitches_91 (by decide) rfl ?_
                refine mk_iast (nx := 94) (j := nn) X 2 0 (by decide) (sh_Spit cs ad) rfl (by omega) (by omega) (by decide) rfl d_CM_searchPitches_93 rfl ?_
                obtain ⟨J6, hJ6⟩ : ∃ W_ : Wo, W_ = up2 Jc 2 nn (-2) := ⟨_, rfl⟩
                refine mk_same hJ6.symm ?_
                have hJ6s : J6 2 nn = (-2) := hJ6 ▸ up2_ss Jc 2 nn (-2)
                have hJ6o : ∀ a b, (a ≠ 2 ∨ b ≠ nn) → J6 a b = Jc a b := hJ6 ▸ up2_o Jc 2 nn (-2)
                refine mk_iinc (nx := 97) X 4 [(2, .int (zi (i + (-1)))), (5, .int (zi nx)), (4, .int (zi (nn : Int))), (0, .ref (ad 0)), (1, .int (zi most)), (3, .int (zi (T : Int)))] d_CM_searchPitches_94 rfl (by decide) rfl rfl ?_
                refine mk_goto (tgt := 167) X d_CM_searchPitches_97 (by decide) ?_
                refine mk_iinc (nx := 170) X 5 [(3, .int (zi ((T : Int) + 1))), (2, .int (zi (i + (-1)))), (5, .int (zi nx)), (4, .int (zi (nn : Int))), (0, .ref (ad 0)), (1, .int (zi most))] d_CM_searchPitches_167 rfl (by decide) rfl rfl ?_
                refine mk_goto (tgt := 4) X d_CM_searchPitches_170 (by decide) ?_
                refine mk_lv [4, 5, 1, 0] rfl ?_
                exact ih4 (i + (-1)) (T + 1) (up2 cc 1 nn (-2)) J6 (by first | exact hst | exact sri_bq hd hsi (by omega) hnn | (rw [Int.add_zero]; exact (sri_try hd h.1.2.1 hsi (by omega) hnn (by rw [← hn2]; omega) (by omega)).1) | exact (sri_try hd h.1.2.1 hsi (by omega) hnn (by rw [← hn2]; omega) (by omega)).2) (by first | exact h | exact hRC | (rw [hJ6]; exact cm_s_pitch hRc (by omega) (by omega))) (by first | exact hSp0 | exact hSpC | exact ss_fr hSp (fun a b x => hJ6o a b (by omega))) (by first | (rw [tst_7]; omega) | (rw [up2_o _ _ _ _ _ _ (by omega)]; omega) | omega) (by first | exact sx_bk (by omega) (by omega) hnn (by rw [← hn2]; omega) hsr | exact sx_y (by omega) (by omega) hnn (by rw [← hn2]; omega) (by omega) (hcf.resolve_right (fun z => absurd z.1 (by omega))).2 hsr | exact sx_n (by omega) (by omega) hnn (by rw [← hn2]; omega) (by omega) (hcf.resolve_left (fun z => absurd z.1 (by omega))).2 hsr | rfl) (by first | exact ck_0 (fun m z => (hmem m z).2) hcl | exact ck_bq hck (by omega) hnn | (rw [Int.add_zero]; exact (ck_try h.1 hmem (by omega) hd hn hsi hck (by omega) hnn (by rw [← hn2]; omega) (by omega)).1) | exact (ck_try h.1 hmem (by omega) hd hn hsi hck (by omega) hnn (by rw [← hn2]; omega) (by omega)).2 (hcf.resolve_right (fun z => absurd z.1 (by omega))).2) (by omega)
  refine mk_iconst (nx := 1) X d_CM_searchPitches_0 rfl ?_
  refine mk_istoren (nx := 2) X [(2, .int (zi 0)), (0, .ref (ad 0)), (1, .int (zi most))] d_CM_searchPitches_1 (by decide) rfl rfl ?_
  refine mk_iconst (nx := 3) X d_CM_searchPitches_2 rfl ?_
  refine mk_istoren (nx := 4) X [(3, .int (zi 0)), (2, .int (zi 0)), (0, .ref (ad 0)), (1, .int (zi most))] d_CM_searchPitches_3 (by decide) rfl rfl ?_
  refine mk_lv [2, 3, 1, 0] rfl ?_
  exact L4 _ 0 0 c I (by first | exact hst | exact sri_bq hd hsi (by omega) hnn | (rw [Int.add_zero]; exact (sri_try hd h.1.2.1 hsi (by omega) hnn (by rw [← hn2]; omega) (by omega)).1) | exact (sri_try hd h.1.2.1 hsi (by omega) hnn (by rw [← hn2]; omega) (by omega)).2) (by first | exact h | exact hRC | (rw [hI]; exact cm_s_pitch hRc (by omega) (by omega))) (by first | exact hSp0 | exact hSpC | exact ss_fr hSp (fun a b x => hIo a b (by omega))) (by first | (rw [tst_7]; omega) | (rw [up2_o _ _ _ _ _ _ (by omega)]; omega) | omega) (by first | exact sx_bk (by omega) (by omega) hnn (by rw [← hn2]; omega) hsr | exact sx_y (by omega) (by omega) hnn (by rw [← hn2]; omega) (by omega) (hcf.resolve_right (fun z => absurd z.1 (by omega))).2 hsr | exact sx_n (by omega) (by omega) hnn (by rw [← hn2]; omega) (by omega) (hcf.resolve_left (fun z => absurd z.1 (by omega))).2 hsr | rfl) (by first | exact ck_0 (fun m z => (hmem m z).2) hcl | exact ck_bq hck (by omega) hnn | (rw [Int.add_zero]; exact (ck_try h.1 hmem (by omega) hd hn hsi hck (by omega) hnn (by rw [← hn2]; omega) (by omega)).1) | exact (ck_try h.1 hmem (by omega) hd hn hsi hck (by omega) hnn (by rw [← hn2]; omega) (by omega)).2 (hcf.resolve_right (fun z => absurd z.1 (by omega))).2) (Nat.lt_succ_self _)

-- CanonMaker.solve(I)I
theorem d_CM_solve_0 : decode prog_1_method_18_code 0 = .ok (.iload_n 1, 1) := by decide +kernel
theorem d_CM_solve_1 : decode prog_1_method_18_code 1 = .ok (.ifCond .lt 10, 3) := by decide +kernel
theorem d_CM_solve_4 : decode prog_1_method_18_code 4 = .ok (.iload_n 1, 1) := by decide +kernel
theorem d_CM_solve_5 : decode prog_1_method_18_code 5 = .ok (.sipush 3000, 3) := by decide +kernel
theorem d_CM_solve_8 : decode prog_1_method_18_code 8 = .ok (.if_icmp .le 6, 3) := by decide +kernel
theorem d_CM_solve_11 : decode prog_1_method_18_code 11 = .ok (.bipush (-2), 2) := by decide +kernel
theorem d_CM_solve_13 : decode prog_1_method_18_code 13 = .ok (.ireturn, 1) := by decide +kernel
theorem d_CM_solve_14 : decode prog_1_method_18_code 14 = .ok (.aload_n 0, 1) := by decide +kernel
theorem d_CM_solve_15 : decode prog_1_method_18_code 15 = .ok (.invokevirtual 133, 3) := by decide +kernel
theorem d_CM_solve_18 : decode prog_1_method_18_code 18 = .ok (.ifCond .eq 6, 3) := by decide +kernel
theorem d_CM_solve_21 : decode prog_1_method_18_code 21 = .ok (.bipush (-3), 2) := by decide +kernel
theorem d_CM_solve_23 : decode prog_1_method_18_code 23 = .ok (.ireturn, 1) := by decide +kernel
theorem d_CM_solve_24 : decode prog_1_method_18_code 24 = .ok (.aload_n 0, 1) := by decide +kernel
theorem d_CM_solve_25 : decode prog_1_method_18_code 25 = .ok (.iconst 0, 1) := by decide +kernel
theorem d_CM_solve_26 : decode prog_1_method_18_code 26 = .ok (.putfield 157, 3) := by decide +kernel
theorem d_CM_solve_29 : decode prog_1_method_18_code 29 = .ok (.aload_n 0, 1) := by decide +kernel
theorem d_CM_solve_30 : decode prog_1_method_18_code 30 = .ok (.invokevirtual 137, 3) := by decide +kernel
theorem d_CM_solve_33 : decode prog_1_method_18_code 33 = .ok (.aload_n 0, 1) := by decide +kernel
theorem d_CM_solve_34 : decode prog_1_method_18_code 34 = .ok (.getfield 41, 3) := by decide +kernel
theorem d_CM_solve_37 : decode prog_1_method_18_code 37 = .ok (.iconst 0, 1) := by decide +kernel
theorem d_CM_solve_38 : decode prog_1_method_18_code 38 = .ok (.iconst (-1), 1) := by decide +kernel
theorem d_CM_solve_39 : decode prog_1_method_18_code 39 = .ok (.invokevirtual 141, 3) := by decide +kernel
theorem d_CM_solve_42 : decode prog_1_method_18_code 42 = .ok (.ifCond .le 5, 3) := by decide +kernel
theorem d_CM_solve_45 : decode prog_1_method_18_code 45 = .ok (.iconst 0, 1) := by decide +kernel
theorem d_CM_solve_46 : decode prog_1_method_18_code 46 = .ok (.ireturn, 1) := by decide +kernel
theorem d_CM_solve_47 : decode prog_1_method_18_code 47 = .ok (.aload_n 0, 1) := by decide +kernel
theorem d_CM_solve_48 : decode prog_1_method_18_code 48 = .ok (.invokevirtual 160, 3) := by decide +kernel
theorem d_CM_solve_51 : decode prog_1_method_18_code 51 = .ok (.aload_n 0, 1) := by decide +kernel
theorem d_CM_solve_52 : decode prog_1_method_18_code 52 = .ok (.iload_n 1, 1) := by decide +kernel
theorem d_CM_solve_53 : decode prog_1_method_18_code 53 = .ok (.invokevirtual 163, 3) := by decide +kernel
theorem d_CM_solve_56 : decode prog_1_method_18_code 56 = .ok (.istore_n 2, 1) := by decide +kernel
theorem d_CM_solve_57 : decode prog_1_method_18_code 57 = .ok (.iload_n 2, 1) := by decide +kernel
theorem d_CM_solve_58 : decode prog_1_method_18_code 58 = .ok (.iconst 1, 1) := by decide +kernel
theorem d_CM_solve_59 : decode prog_1_method_18_code 59 = .ok (.if_icmp .eq 7, 3) := by decide +kernel
theorem d_CM_solve_62 : decode prog_1_method_18_code 62 = .ok (.aload_n 0, 1) := by decide +kernel
theorem d_CM_solve_63 : decode prog_1_method_18_code 63 = .ok (.invokevirtual 166, 3) := by decide +kernel
theorem d_CM_solve_66 : decode prog_1_method_18_code 66 = .ok (.iload_n 2, 1) := by decide +kernel
theorem d_CM_solve_67 : decode prog_1_method_18_code 67 = .ok (.ireturn, 1) := by decide +kernel
abbrev rm_CM_solve : Room := { frames := 7, cells := 0, slots := 0, locals := 171 }
set_option maxHeartbeats 4000000 in
set_option maxRecDepth 100000 in
theorem c_CM_solve (l : Launch) (D : va_G) (cs : Nat → ClassId) (ad : Nat → Nat) (zt : Nat) (hi : cm_inj ad) (c I : Wo) (h : cmR c I) (most : Int) (h_most : -2147483648 ≤ most ∧ most < 2147483648) : cm_C l D cs ad zt y_CM_solve ws_CM_solve rm_CM_solve [.ref (ad 0), .int (zi most)] I (mk_pi (fun r J => ∃ d, slvR c most r d ∧ cmR d J)) := by
  refine mk_meti (own := "CanonMaker") (Ts := wA) hi (Nat.le_refl _) (by decide) rfl (fun w h => List.mem_cons_of_mem _ h) rfl (Nat.le_of_ble_eq_true rfl) [(0, .ref (ad 0)), (1, .int (zi most))] rfl ?_
  intro p_ e_ s_ m_ as_ bl_ me_ co_ Q_ X hret
  refine mk_iloadn (nx := 1) X 1 d_CM_solve_0 rfl rfl ?_
  refine mk_if_lt (tgt := 11) (nx := 4) X d_CM_solve_1 (by omega) (by decide) rfl (fun c1 => ?_) (fun c1 => ?_)
  · skip
    refine mk_bipush (nx := 13) X d_CM_solve_11 (by decide) rfl ?_
    exact hret _ _ _ _ d_CM_solve_13 (by exact ⟨c, Or.inl ⟨by omega, rfl, rfl⟩, h⟩)
  · skip
    refine mk_iloadn (nx := 5) X 1 d_CM_solve_4 rfl rfl ?_
    refine mk_sipush (nx := 8) X d_CM_solve_5 (by decide) rfl ?_
    refine mk_icmp_le (tgt := 14) (nx := 11) X d_CM_solve_8 (by omega) (by omega) (by decide) rfl (fun c8 => ?_) (fun c8 => ?_)
    · skip
      refine mk_aloadn (nx := 15) X 0 d_CM_solve_14 rfl rfl ?_
      refine mk_callVi (nx := 18) (n := 0) (As := []) (rest := []) X 0 (by decide) (sh_CM cs ad _) rfl (c_CM_isAnyTooLong l D cs ad zt hi c I h) (g_CM_isAnyTooLong wd_432) rfl ⟨rfl, rfl⟩ (by decide +kernel) ⟨by decide, by decide⟩ rfl (Nat.le_of_ble_eq_true rfl) rfl d_CM_solve_15 rfl ?_
      intro r15 J1 hJ1
      obtain ⟨rfl, hr15⟩ := hJ1
      have hr15b : r15 = 1 ∨ r15 = 0 := hr15.elim (fun e => Or.inl e.1) (fun e => Or.inr e.1)
      refine mk_if_eq (tgt := 24) (nx := 21) X d_CM_solve_18 (by omega) (by decide) rfl (fun c18 => ?_) (fun c18 => ?_)
      · skip
        have hnt : NTL c := (hr15.resolve_left (fun z => absurd z.1 (by omega))).2
        obtain ⟨hst0, hndp, hmem, hw1, hrl0⟩ := sr_start (most := most) h.1 (by omega)
        have hn1 := hrl0.ntl hnt
        refine mk_aloadn (nx := 25) X 0 d_CM_solve_24 rfl rfl ?_
        refine mk_iconst (nx := 26) X d_CM_solve_25 rfl ?_
        refine mk_putf (nx := 29) (ty := .int) X t_CM t_CM_ok n_CM 0 (by decide) (sh_CM cs ad _) rfl in_CM 9 (by decide) wd_296 rfl rfl (by decide +kernel) rfl rfl (Nat.le_of_ble_eq_true rfl) ((sh_CM cs ad _).trans rfl) d_CM_solve_26 rfl ?_
        obtain ⟨J2, hJ2⟩ : ∃ W_ : Wo, W_ = up2 I 0 9 0 := ⟨_, rfl⟩
        refine mk_same hJ2.symm ?_
        have hJ2s : J2 0 9 = 0 := hJ2 ▸ up2_ss I 0 9 0
        have hJ2o : ∀ a b, (a ≠ 0 ∨ b ≠ 9) → J2 a b = I a b := hJ2 ▸ up2_o I 0 9 0
        have hR1 : cmR (up2 c 0 7 0) J2 := by rw [hJ2]; exact cm_s_steps h (by omega)
        refine mk_aloadn (nx := 30) X 0 d_CM_solve_29 rfl rfl ?_
        refine mk_callVv (nx := 33) (n := 0) (As := []) (rest := []) X 0 (by decide) (sh_CM cs ad _) rfl (c_CM_layAll l D cs ad zt hi (up2 c 0 7 0) J2 hR1 hn1) (g_CM_layAll wd_440) rfl ⟨rfl, rfl⟩ (by decide +kernel) ⟨by decide, by decide⟩ rfl (Nat.le_of_ble_eq_true rfl) rfl d_CM_solve_30 rfl ?_
        intro JA hJA
        have hRA : cmR (up2 c 0 7 0) JA := cmR_fr (fun a b x y => hJA.2 a b (by omega)) hR1
        refine mk_aloadn (nx := 34) X 0 d_CM_solve_33 rfl rfl ?_
        refine mk_get (nx := 37) (v := .ref (ad 36)) X 0 (by decide) (sh_CM cs ad _) rfl in_CM 4 (by decide) wd_291 rfl rfl d_CM_solve_34 rfl ?_
        refine mk_iconst (nx := 38) X d_CM_solve_37 rfl ?_
        refine mk_iconst (nx := 39) X d_CM_solve_38 rfl ?_
        refine mk_callVi (nx := 42) (n := 2) (As := [.int (zi 0), .int (zi (-1))]) (rest := []) X 36 (by decide) (sh_Judge cs ad _) rfl (c_Judge_countFaults l D cs ad zt hi (up2 c 0 7 0) JA hw1.1 hw1.2.1 hw1.2.2.1 hJA.1.1 hJA.1.2.1 hn1 hJA.1.2.2.1 hJA.1.2.2.2.1 hJA.1.2.2.2.2 (cmS_bd hRA.2.2.1) 0 (by omega) (-1)) (g_Judge_countFaults wd_471) rfl ⟨rfl, rfl⟩ (by decide +kernel) ⟨by decide, by decide⟩ rfl (Nat.le_of_ble_eq_true rfl) rfl d_CM_solve_39 rfl ?_
        intro r39 JC hJC
        have hRC : cmR (up2 c 0 7 0) JC := cmR_fr (fun a b x y => hJC.1 a b (by omega)) hRA
        have hcf := cf_0 hJC
        rw [FN_FL hw1.1 hw1.2.1 hw1.2.2.1 hJA.1] at hcf
        have hrb := hJC.2.2
        have hLC : LdA (up2 c 0 7 0) JC := LdA_fr hJA.1 (fun a b x y => hJC.1 a b (by omega))
        refine mk_if_le (tgt := 47) (nx := 45) X d_CM_solve_42 (by omega) (by decide) rfl (fun c42 => ?_) (fun c42 => ?_)
        · skip
          have hFL0 : FL (up2 c 0 7 0) = [] := (hcf.resolve_right (fun z => absurd z.1 (by omega))).2
          refine mk_aloadn (nx := 48) X 0 d_CM_solve_47 rfl rfl ?_
          refine mk_callVv (nx := 51) (n := 0) (As := []) (rest := []) X 0 (by decide) (sh_CM cs ad _) rfl (c_CM_listOpenNotes l D cs ad zt hi (up2 c 0 7 0) JC hRC) (g_CM_listOpenNotes wd_550) rfl ⟨rfl, rfl⟩ (by decide +kernel) ⟨by decide, by decide⟩ rfl (Nat.le_of_ble_eq_true rfl) rfl d_CM_solve_48 rfl ?_
          intro JO hJO
          rw [opl_07] at hJO
          have hRO : cmR (up2 c 0 7 0) JO := cmR_fr (fun a b x y => hJO.2.2 a b (by omega) (by omega)) hRC
          have hLO : LdA (up2 c 0 7 0) JO := LdA_fr hLC (fun a b x y => hJO.2.2 a b (by omega) (by omega))
          have hSO : SpI (up2 c 0 7 0) (opl c) JO := ⟨hJO.1, hJO.2.1, hLO.1, hLO.2.2.1, hLO.2.2.2.1, hLO.2.2.2.2⟩
          have hol : (opl c).length ≤ 24 := by have e1 := opf_len (c := c) (cn c); have e2 := cn_e h.1.1; unfold opl; omega
          refine mk_aloadn (nx := 52) X 0 d_CM_solve_51 rfl rfl ?_
          refine mk_iloadn (nx := 53) X 1 d_CM_solve_52 rfl rfl ?_
          refine mk_callVi (nx := 56) (n := 1) (As := [.int (zi most)]) (rest := []) X 0 (by decide) (sh_CM cs ad _) rfl (c_CM_searchPitches l D cs ad zt hi (up2 c 0 7 0) JO hRO (opl c) hndp hmem hol hSO hn1 most (by omega) (up2_ss _ _ _ _) hst0 hFL0) (g_CM_searchPitches wd_554) rfl ⟨rfl, rfl⟩ (by decide +kernel) ⟨by decide, by decide⟩ rfl (Nat.le_of_ble_eq_true rfl) rfl d_CM_solve_53 rfl ?_
          intro r53 JS hJS
          obtain ⟨cc, hRS, hSS, hmS, hS3⟩ := hJS
          have hrs : r53 = 1 ∨ r53 = 0 ∨ r53 = -6 := by
            rcases hS3 with z | z | z
            · exact Or.inl z.1
            · exact Or.inr (Or.inl z.1)
            · exact Or.inr (Or.inr z.1)
          refine mk_istoren (nx := 57) X [(2, .int (zi r53)), (0, .ref (ad 0)), (1, .int (zi most))] d_CM_solve_56 (by decide) rfl rfl ?_
          refine mk_iloadn (nx := 58) X 0 d_CM_solve_57 rfl rfl ?_
          refine mk_iconst (nx := 59) X d_CM_solve_58 rfl ?_
          refine mk_icmp_eq (tgt := 66) (nx := 62) X d_CM_solve_59 (by omega) (by omega) (by decide) rfl (fun c59 => ?_) (fun c59 => ?_)
          · skip
            refine mk_iloadn (nx := 67) X 0 d_CM_solve_66 rfl rfl ?_
            exact hret _ _ _ _ d_CM_solve_67 (by rcases hS3 with ⟨z1, z2⟩ | ⟨z1, z2, z3⟩ | ⟨z1, z2⟩ <;> first | (exfalso; omega) | exact ⟨cc, Or.inr (Or.inr (Or.inr ⟨by omega, hnt, hFL0, (by rw [z1]; exact z2)⟩)), hRS⟩ | exact ⟨cc, Or.inr (Or.inr (Or.inr ⟨by omega, hnt, hFL0, (by rw [z1]; exact z2)⟩)), (by have e := hJR; rw [rop_same z3] at e; exact e)⟩ | exact ⟨_, Or.inr (Or.inr (Or.inr ⟨by omega, hnt, hFL0, (by rw [z1]; exact z2)⟩)), hJR⟩)
          · skip
            refine mk_aloadn (nx := 63) X 1 d_CM_solve_62 rfl rfl ?_
            refine mk_callVv (nx := 66) (n := 0) (As := []) (rest := []) X 0 (by decide) (sh_CM cs ad _) rfl (c_CM_reopenNotes l D cs ad zt hi cc JS hRS (opl c) hmS hol hSS.2.1 hSS.1) (g_CM_reopenNotes wd_558) rfl ⟨rfl, rfl⟩ (by decide +kernel) ⟨by decide, by decide⟩ rfl (Nat.le_of_ble_eq_true rfl) rfl d_CM_solve_63 rfl ?_
            intro JR hJR
            refine mk_iloadn (nx := 67) X 0 d_CM_solve_66 rfl rfl ?_
            exact hret _ _ _ _ d_CM_solve_67 (by rcases hS3 with ⟨z1, z2⟩ | ⟨z1, z2, z3⟩ | ⟨z1, z2⟩ <;> first | (exfalso; omega) | exact ⟨cc, Or.inr (Or.inr (Or.inr ⟨by omega, hnt, hFL0, (by rw [z1]; exact z2)⟩)), hRS⟩ | exact ⟨cc, Or.inr (Or.inr (Or.inr ⟨by omega, hnt, hFL0, (by rw [z1]; exact z2)⟩)), (by have e := hJR; rw [rop_same z3] at e; exact e)⟩ | exact ⟨_, Or.inr (Or.inr (Or.inr ⟨by omega, hnt, hFL0, (by rw [z1]; exact z2)⟩)), hJR⟩)
        · skip
          refine mk_iconst (nx := 46) X d_CM_solve_45 rfl ?_
          exact hret _ _ _ _ d_CM_solve_46 (by exact ⟨_, Or.inr (Or.inr (Or.inl ⟨by omega, hnt, (hcf.resolve_left (fun z => absurd z.1 (by omega))).2, rfl, rfl⟩)), hRC⟩)
      · skip
        refine mk_bipush (nx := 23) X d_CM_solve_21 (by decide) rfl ?_
        exact hret _ _ _ _ d_CM_solve_23 (by exact ⟨c, Or.inr (Or.inl ⟨by omega, (hr15.resolve_right (fun z => absurd z.1 (by omega))).2, rfl, rfl⟩), h⟩)
    · skip
      refine mk_bipush (nx := 13) X d_CM_solve_11 (by decide) rfl ?_
      exact hret _ _ _ _ d_CM_solve_13 (by exact ⟨c, Or.inl ⟨by omega, rfl, rfl⟩, h⟩)
