/-- sums of lengths -/
def usum (f : Nat → Int) : Nat → Int
  | 0 => 0
  | n + 1 => usum f n + f n
theorem usum_b {f : Nat → Int} {n : Nat} (h : ∀ j, j < n → 1 ≤ f j ∧ f j ≤ 16) : (n : Int) ≤ usum f n ∧ usum f n ≤ 16 * n := by
  induction n with
  | zero => simp [usum]
  | succ n ih =>
    have h1 := ih (fun j hj => h j (by omega))
    have h2 := h n (by omega)
    simp only [usum]
    omega

-- CanonMaker$Subject.has(I)Z
theorem d_Subject_has_0 : decode prog_6_method_2_code 0 = .ok (.iload_n 1, 1) := by decide +kernel
theorem d_Subject_has_1 : decode prog_6_method_2_code 1 = .ok (.ifCond .lt 15, 3) := by decide +kernel
theorem d_Subject_has_4 : decode prog_6_method_2_code 4 = .ok (.iload_n 1, 1) := by decide +kernel
theorem d_Subject_has_5 : decode prog_6_method_2_code 5 = .ok (.aload_n 0, 1) := by decide +kernel
theorem d_Subject_has_6 : decode prog_6_method_2_code 6 = .ok (.getfield 18, 3) := by decide +kernel
theorem d_Subject_has_9 : decode prog_6_method_2_code 9 = .ok (.if_icmp .ge 7, 3) := by decide +kernel
theorem d_Subject_has_12 : decode prog_6_method_2_code 12 = .ok (.iconst 1, 1) := by decide +kernel
theorem d_Subject_has_13 : decode prog_6_method_2_code 13 = .ok (.goto 4, 3) := by decide +kernel
theorem d_Subject_has_16 : decode prog_6_method_2_code 16 = .ok (.iconst 0, 1) := by decide +kernel
theorem d_Subject_has_17 : decode prog_6_method_2_code 17 = .ok (.ireturn, 1) := by decide +kernel
abbrev rm_Subject_has : Room := { frames := 0, cells := 0, slots := 0, locals := 0 }
set_option maxHeartbeats 4000000 in
set_option maxRecDepth 100000 in
theorem c_Subject_has (l : Launch) (D : va_G) (cs : Nat → ClassId) (ad : Nat → Nat) (zt : Nat) (hi : cm_inj ad) (I : Wo) (n : Int) (hn : -2147483648 ≤ n ∧ n < 2147483648) (hc : 0 ≤ I 1 2 ∧ I 1 2 ≤ 24) : cm_C l D cs ad zt y_Subject_has ws_Subject_has rm_Subject_has [.ref (ad 1), .int (zi n)] I (mk_pi (fun r J => J = I ∧ ((r = 1 ∧ 0 ≤ n ∧ n < I 1 2) ∨ (r = 0 ∧ ¬ (0 ≤ n ∧ n < I 1 2))))) := by
  refine mk_metz (own := "CanonMaker$Subject") (Ts := wA) hi (Nat.le_refl _) (by decide) rfl (fun w h => List.mem_cons_of_mem _ h) rfl (Nat.le_of_ble_eq_true rfl) [(0, .ref (ad 1)), (1, .int (zi n))] rfl ?_
  intro p e s m args below meth c Q X hret
  refine mk_iloadn (nx := 1) X 1 d_Subject_has_0 rfl rfl ?_
  refine mk_if_lt (tgt := 16) (nx := 4) X d_Subject_has_1 (by omega) (by decide) rfl (fun c1 => ?_) (fun c1 => ?_)
  · skip
    refine mk_iconst (nx := 17) X d_Subject_has_16 rfl ?_
    exact hret _ _ _ _ d_Subject_has_17 (by omega) (by exact ⟨rfl, by omega⟩)
  · skip
    refine mk_iloadn (nx := 5) X 1 d_Subject_has_4 rfl rfl ?_
    refine mk_aloadn (nx := 6) X 0 d_Subject_has_5 rfl rfl ?_
    refine mk_get (nx := 9) (v := .int (zi (I 1 2))) X 1 (by decide) (sh_Subject cs ad _) rfl in_Subject 2 (by decide) wd_70 rfl rfl d_Subject_has_6 rfl ?_
    refine mk_icmp_ge (tgt := 16) (nx := 12) X d_Subject_has_9 (by omega) (by omega) (by decide) rfl (fun c9 => ?_) (fun c9 => ?_)
    · skip
      refine mk_iconst (nx := 17) X d_Subject_has_16 rfl ?_
      exact hret _ _ _ _ d_Subject_has_17 (by omega) (by exact ⟨rfl, by omega⟩)
    · skip
      refine mk_iconst (nx := 13) X d_Subject_has_12 rfl ?_
      refine mk_goto (tgt := 17) X d_Subject_has_13 (by decide) ?_
      exact hret _ _ _ _ d_Subject_has_17 (by omega) (by exact ⟨rfl, by omega⟩)

-- CanonMaker$Subject.units()I
theorem d_Subject_units_0 : decode prog_6_method_3_code 0 = .ok (.iconst 0, 1) := by decide +kernel
theorem d_Subject_units_1 : decode prog_6_method_3_code 1 = .ok (.istore_n 1, 1) := by decide +kernel
theorem d_Subject_units_2 : decode prog_6_method_3_code 2 = .ok (.iconst 0, 1) := by decide +kernel
theorem d_Subject_units_3 : decode prog_6_method_3_code 3 = .ok (.istore_n 2, 1) := by decide +kernel
theorem d_Subject_units_4 : decode prog_6_method_3_code 4 = .ok (.iload_n 2, 1) := by decide +kernel
theorem d_Subject_units_5 : decode prog_6_method_3_code 5 = .ok (.aload_n 0, 1) := by decide +kernel
theorem d_Subject_units_6 : decode prog_6_method_3_code 6 = .ok (.getfield 18, 3) := by decide +kernel
theorem d_Subject_units_9 : decode prog_6_method_3_code 9 = .ok (.if_icmp .ge 18, 3) := by decide +kernel
theorem d_Subject_units_12 : decode prog_6_method_3_code 12 = .ok (.iload_n 1, 1) := by decide +kernel
theorem d_Subject_units_13 : decode prog_6_method_3_code 13 = .ok (.aload_n 0, 1) := by decide +kernel
theorem d_Subject_units_14 : decode prog_6_method_3_code 14 = .ok (.getfield 15, 3) := by decide +kernel
theorem d_Subject_units_17 : decode prog_6_method_3_code 17 = .ok (.iload_n 2, 1) := by decide +kernel
theorem d_Subject_units_18 : decode prog_6_method_3_code 18 = .ok (.iaload, 1) := by decide +kernel
theorem d_Subject_units_19 : decode prog_6_method_3_code 19 = .ok (.iadd, 1) := by decide +kernel
theorem d_Subject_units_20 : decode prog_6_method_3_code 20 = .ok (.istore_n 1, 1) := by decide +kernel
theorem d_Subject_units_21 : decode prog_6_method_3_code 21 = .ok (.iinc 2 1, 3) := by decide +kernel
theorem d_Subject_units_24 : decode prog_6_method_3_code 24 = .ok (.goto (-20), 3) := by decide +kernel
theorem d_Subject_units_27 : decode prog_6_method_3_code 27 = .ok (.iload_n 1, 1) := by decide +kernel
theorem d_Subject_units_28 : decode prog_6_method_3_code 28 = .ok (.ireturn, 1) := by decide +kernel
abbrev rm_Subject_units : Room := { frames := 0, cells := 0, slots := 0, locals := 0 }
set_option maxHeartbeats 4000000 in
set_option maxRecDepth 100000 in
theorem c_Subject_units (l : Launch) (D : va_G) (cs : Nat → ClassId) (ad : Nat → Nat) (zt : Nat) (hi : cm_inj ad) (I : Wo) (n : Nat) (hc : I 1 2 = n) (hn : n ≤ 24) (hl : ∀ j, j < n → 1 ≤ I 3 j ∧ I 3 j ≤ 16) : cm_C l D cs ad zt y_Subject_units ws_Subject_units rm_Subject_units [.ref (ad 1)] I (mk_pi (fun r J => J = I ∧ r = usum (I 3) n)) := by
  refine mk_meti (own := "CanonMaker$Subject") (Ts := wA) hi (Nat.le_refl _) (by decide) rfl (fun w h => List.mem_cons_of_mem _ h) rfl (Nat.le_of_ble_eq_true rfl) [(0, .ref (ad 1))] rfl ?_
  intro p e s m args below meth c Q X hret
  have L4 : ∀ nf : Nat, ∀ (k : Nat), k ≤ n → n - k < nf → mk_A p l e rm_Subject_units s m args below meth c Q 3 D cmcl (cm_sh cs ad) 48 48 ad I [(0, .ref (ad 1)), (1, .int (zi (usum (I 3) k))), (2, .int (zi (k : Int)))] 4 [] := by
    intro nf
    induction nf with
    | zero => intro k hk hn; exact absurd hn (Nat.not_lt_zero _)
    | succ nf ih4 =>
      intro k hk hn4
      have hb := usum_b (f := I 3) (n := k) (fun j hj => hl j (by omega))
      refine mk_iloadn (nx := 5) X 2 d_Subject_units_4 rfl rfl ?_
      refine mk_aloadn (nx := 6) X 0 d_Subject_units_5 rfl rfl ?_
      refine mk_get (nx := 9) (v := .int (zi (I 1 2))) X 1 (by decide) (sh_Subject cs ad _) rfl in_Subject 2 (by decide) wd_70 rfl rfl d_Subject_units_6 rfl ?_
      refine mk_icmp_ge (tgt := 27) (nx := 12) X d_Subject_units_9 (by omega) (by omega) (by decide) rfl (fun c9 => ?_) (fun c9 => ?_)
      · skip
        refine mk_iloadn (nx := 28) X 1 d_Subject_units_27 rfl rfl ?_
        exact hret _ _ _ _ d_Subject_units_28 (by exact ⟨rfl, by rw [show k = n by omega]⟩)
      · skip
        refine mk_iloadn (nx := 13) X 1 d_Subject_units_12 rfl rfl ?_
        refine mk_aloadn (nx := 14) X 0 d_Subject_units_13 rfl rfl ?_
        refine mk_get (nx := 17) (v := .ref (ad 3)) X 1 (by decide) (sh_Subject cs ad _) rfl in_Subject 1 (by decide) wd_67 rfl rfl d_Subject_units_14 rfl ?_
        refine mk_iloadn (nx := 18) X 2 d_Subject_units_17 rfl rfl ?_
        refine mk_iald (nx := 19) (j := k) X 3 0 (by decide) (sh_Slen cs ad _) rfl (by omega) (by omega) (by decide) rfl d_Subject_units_18 rfl ?_
        refine mk_iadd (nx := 20) X d_Subject_units_19 rfl ?_
        refine mk_istoren (nx := 21) X [(1, .int (zi ((usum (I 3) k) + (I 3 k)))), (0, .ref (ad 1)), (2, .int (zi (k : Int)))] d_Subject_units_20 (by decide) rfl rfl ?_
        refine mk_iinc (nx := 24) X 2 [(2, .int (zi ((k : Int) + 1))), (1, .int (zi ((usum (I 3) k) + (I 3 k)))), (0, .ref (ad 1))] d_Subject_units_21 rfl (by decide) rfl rfl ?_
        refine mk_goto (tgt := 4) X d_Subject_units_24 (by decide) ?_
        refine mk_lv [2, 1, 0] rfl ?_
        exact ih4 (k + 1) (by omega) (by omega)
  refine mk_iconst (nx := 1) X d_Subject_units_0 rfl ?_
  refine mk_istoren (nx := 2) X [(1, .int (zi 0)), (0, .ref (ad 1))] d_Subject_units_1 (by decide) rfl rfl ?_
  refine mk_iconst (nx := 3) X d_Subject_units_2 rfl ?_
  refine mk_istoren (nx := 4) X [(2, .int (zi 0)), (1, .int (zi 0)), (0, .ref (ad 1))] d_Subject_units_3 (by decide) rfl rfl ?_
  refine mk_lv [2, 1, 0] rfl ?_
  exact L4 _ 0 (by omega) (Nat.lt_succ_self _)
