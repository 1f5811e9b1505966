theorem an_size_b {c : Wo} (h : wfN c) : 0 ≤ an_size c ∧ an_size c ≤ 384 := by
  have := usum_b (f := c 2) (n := (c 0 0).toNat) (fun j hj => (h.2 j (by have := h.1; omega)).2)
  have := h.1
  unfold an_size
  omega
theorem mul_rng {U f : Int} (hU : 0 ≤ U ∧ U ≤ 384) (hf : 1 ≤ f ∧ f ≤ 3) : U ≤ U * f ∧ U * f ≤ 1152 := by
  rcases (show f = 1 ∨ f = 2 ∨ f = 3 by omega) with rfl | rfl | rfl <;> omega
/-- THE END without a ROUND, over the first voices -/
def eo (c : Wo) : Nat → Int
  | 0 => 0
  | v + 1 => if c (3 + v) 0 = 1 then max (eo c v) (c (3 + v) 1 + an_size c * c (3 + v) 4) else eo c v
def an_end (c : Wo) : Int := if 0 < c 0 6 then c 0 6 else eo c 4
theorem eo_b {c : Wo} (h : wfN c) (hV : wfV c) : ∀ v, v ≤ 4 → 0 ≤ eo c v ∧ eo c v ≤ 1252 := by
  intro v
  induction v with
  | zero => intro _; simp [eo]
  | succ v ih =>
    intro hv
    have h1 := ih (by omega)
    have h2 := hV.1 v (by omega)
    have h3 := mul_rng (an_size_b h) h2.2.2.2.2
    simp only [eo]
    split <;> omega
/-- a LINE longer than the ROUND -/
def tl (c : Wo) (v : Nat) : Prop := c (3 + v) 0 = 1 ∧ 0 < c 0 6 ∧ c 0 6 < an_size c * c (3 + v) 4

-- CanonMaker$Subject.has(I)Z
theorem d_Subject_has_0 : decode prog_6_method_2_code 0 = .ok (.iload_n 1, 1) := by decide +kernel
theorem d_Subject_has_1 : decode prog_6_method_2_code 1 = .ok (.ifCond .lt 15, 3) := by decide +kernel
theorem d_Subject_has_4 : decode prog_6_method_2_code 4 = .ok (.iload_n 1, 1) := by decide +kernel
theorem d_Subject_has_5 : decode prog_6_method_2_code 5 = .ok (.aload_n 0, 1) := by decide +kernel
theorem d_Subject_has_6 : decode prog_6_method_2_code 6 = .ok (.getfield 18, 3) := by decide +kernel
theorem d_Subject_has_9 : decode prog_6_method_2_code 9 = .ok (.if_icmp .ge 7, 3) := by decide +kernel
theorem d_Subject_has_12 : decode prog_6_method_2_code 12 = .ok (.iconst 1, 1) := by decide +kernel
theorem d_Subject_has_13 : decode prog_6_method_2_code 13 = .ok (.goto 4, 3) := by decide +kernel
theorem d_Subject_has_16 : decode prog_6_method_2_code 16 = .ok (.iconst 0, 1) := by decide +kernel
theorem d_Subject_has_17 : decode prog_6_method_2_code 17 = .ok (.ireturn, 1) := by decide +kernel
abbrev rm_Subject_has : Room := { frames := 0, cells := 0, slots := 0, locals := 0 }
set_option maxHeartbeats 4000000 in
set_option maxRecDepth 100000 in
theorem c_Subject_has (l : Launch) (D : va_G) (cs : Nat → ClassId) (ad : Nat → Nat) (zt : Nat) (hi : cm_inj ad) (I : Wo) (n : Int) (hn : -2147483648 ≤ n ∧ n < 2147483648) (hc : 0 ≤ I 1 2 ∧ I 1 2 ≤ 24) : cm_C l D cs ad zt y_Subject_has ws_Subject_has rm_Subject_has [.ref (ad 1), .int (zi n)] I (mk_pi (fun r J => I = J ∧ ((r = 1 ∧ 0 ≤ n ∧ n < I 1 2) ∨ (r = 0 ∧ ¬ (0 ≤ n ∧ n < I 1 2))))) := by
  refine mk_metz (own := "CanonMaker$Subject") (Ts := wA) hi (Nat.le_refl _) (by decide) rfl (fun w h => List.mem_cons_of_mem _ h) rfl (Nat.le_of_ble_eq_true rfl) [(0, .ref (ad 1)), (1, .int (zi n))] rfl ?_
  intro p_ e_ s_ m_ as_ bl_ me_ co_ Q_ X hret
  refine mk_iloadn (nx := 1) X 1 d_Subject_has_0 rfl rfl ?_
  refine mk_if_lt (tgt := 16) (nx := 4) X d_Subject_has_1 (by omega) (by decide) rfl (fun c1 => ?_) (fun c1 => ?_)
  · skip
    refine mk_iconst (nx := 17) X d_Subject_has_16 rfl ?_
    exact hret _ _ _ _ d_Subject_has_17 (by omega) (by exact ⟨rfl, by omega⟩)
  · skip
    refine mk_iloadn (nx := 5) X 1 d_Subject_has_4 rfl rfl ?_
    refine mk_aloadn (nx := 6) X 0 d_Subject_has_5 rfl rfl ?_
    refine mk_get (nx := 9) (v := .int (zi (I 1 2))) X 1 (by decide) (sh_Subject cs ad _) rfl in_Subject 2 (by decide) wd_70 rfl rfl d_Subject_has_6 rfl ?_
    refine mk_icmp_ge (tgt := 16) (nx := 12) X d_Subject_has_9 (by omega) (by omega) (by decide) rfl (fun c9 => ?_) (fun c9 => ?_)
    · skip
      refine mk_iconst (nx := 17) X d_Subject_has_16 rfl ?_
      exact hret _ _ _ _ d_Subject_has_17 (by omega) (by exact ⟨rfl, by omega⟩)
    · skip
      refine mk_iconst (nx := 13) X d_Subject_has_12 rfl ?_
      refine mk_goto (tgt := 17) X d_Subject_has_13 (by decide) ?_
      exact hret _ _ _ _ d_Subject_has_17 (by omega) (by exact ⟨rfl, by omega⟩)

-- CanonMaker$Subject.units()I
theorem d_Subject_units_0 : decode prog_6_method_3_code 0 = .ok (.iconst 0, 1) := by decide +kernel
theorem d_Subject_units_1 : decode prog_6_method_3_code 1 = .ok (.istore_n 1, 1) := by decide +kernel
theorem d_Subject_units_2 : decode prog_6_method_3_code 2 = .ok (.iconst 0, 1) := by decide +kernel
theorem d_Subject_units_3 : decode prog_6_method_3_code 3 = .ok (.istore_n 2, 1) := by decide +kernel
theorem d_Subject_units_4 : decode prog_6_method_3_code 4 = .ok (.iload_n 2, 1) := by decide +kernel
theorem d_Subject_units_5 : decode prog_6_method_3_code 5 = .ok (.aload_n 0, 1) := by decide +kernel
theorem d_Subject_units_6 : decode prog_6_method_3_code 6 = .ok (.getfield 18, 3) := by decide +kernel
theorem d_Subject_units_9 : decode prog_6_method_3_code 9 = .ok (.if_icmp .ge 18, 3) := by decide +kernel
theorem d_Subject_units_12 : decode prog_6_method_3_code 12 = .ok (.iload_n 1, 1) := by decide +kernel
theorem d_Subject_units_13 : decode prog_6_method_3_code 13 = .ok (.aload_n 0, 1) := by decide +kernel
theorem d_Subject_units_14 : decode prog_6_method_3_code 14 = .ok (.getfield 15, 3) := by decide +kernel
theorem d_Subject_units_17 : decode prog_6_method_3_code 17 = .ok (.iload_n 2, 1) := by decide +kernel
theorem d_Subject_units_18 : decode prog_6_method_3_code 18 = .ok (.iaload, 1) := by decide +kernel
theorem d_Subject_units_19 : decode prog_6_method_3_code 19 = .ok (.iadd, 1) := by decide +kernel
theorem d_Subject_units_20 : decode prog_6_method_3_code 20 = .ok (.istore_n 1, 1) := by decide +kernel
theorem d_Subject_units_21 : decode prog_6_method_3_code 21 = .ok (.iinc 2 1, 3) := by decide +kernel
theorem d_Subject_units_24 : decode prog_6_method_3_code 24 = .ok (.goto (-20), 3) := by decide +kernel
theorem d_Subject_units_27 : decode prog_6_method_3_code 27 = .ok (.iload_n 1, 1) := by decide +kernel
theorem d_Subject_units_28 : decode prog_6_method_3_code 28 = .ok (.ireturn, 1) := by decide +kernel
abbrev rm_Subject_units : Room := { frames := 0, cells := 0, slots := 0, locals := 0 }
set_option maxHeartbeats 4000000 in
set_option maxRecDepth 100000 in
theorem c_Subject_units (l : Launch) (D : va_G) (cs : Nat → ClassId) (ad : Nat → Nat) (zt : Nat) (hi : cm_inj ad) (c I : Wo) (hw : wfN c) (hm : cmN c I) : cm_C l D cs ad zt y_Subject_units ws_Subject_units rm_Subject_units [.ref (ad 1)] I (mk_pi (fun r J => I = J ∧ r = an_size c)) := by
  refine mk_meti (own := "CanonMaker$Subject") (Ts := wA) hi (Nat.le_refl _) (by decide) rfl (fun w h => List.mem_cons_of_mem _ h) rfl (Nat.le_of_ble_eq_true rfl) [(0, .ref (ad 1))] rfl ?_
  intro p_ e_ s_ m_ as_ bl_ me_ co_ Q_ X hret
  have h0 := hw.1
  have h1 := hm.1
  have L4 : ∀ nf : Nat, ∀ (k : Nat), ((k : Int) ≤ c 0 0) → 24 - k < nf → mk_A p_ l e_ rm_Subject_units s_ m_ as_ bl_ me_ co_ Q_ 3 D cmcl (cm_sh cs ad) 48 48 ad I [(0, .ref (ad 1)), (1, .int (zi (usum (c 2) k))), (2, .int (zi (k : Int)))] 4 [] := by
    intro nf
    induction nf with
    | zero => intro k hk hn; exact absurd hn (Nat.not_lt_zero _)
    | succ nf ih4 =>
      intro k hk hn4
      have hb := usum_b (f := c 2) (n := k) (fun j hj => (hw.2 j (by omega)).2)
      refine mk_iloadn (nx := 5) X 2 d_Subject_units_4 rfl rfl ?_
      refine mk_aloadn (nx := 6) X 0 d_Subject_units_5 rfl rfl ?_
      refine mk_get (nx := 9) (v := .int (zi (I 1 2))) X 1 (by decide) (sh_Subject cs ad _) rfl in_Subject 2 (by decide) wd_70 rfl rfl d_Subject_units_6 rfl ?_
      refine mk_icmp_ge (tgt := 27) (nx := 12) X d_Subject_units_9 (by omega) (by omega) (by decide) rfl (fun c9 => ?_) (fun c9 => ?_)
      · skip
        refine mk_iloadn (nx := 28) X 1 d_Subject_units_27 rfl rfl ?_
        exact hret _ _ _ _ d_Subject_units_28 (by exact ⟨rfl, by rw [show k = (c 0 0).toNat by omega]; rfl⟩)
      · skip
        refine mk_iloadn (nx := 13) X 1 d_Subject_units_12 rfl rfl ?_
        refine mk_aloadn (nx := 14) X 0 d_Subject_units_13 rfl rfl ?_
        refine mk_get (nx := 17) (v := .ref (ad 3)) X 1 (by decide) (sh_Subject cs ad _) rfl in_Subject 1 (by decide) wd_67 rfl rfl d_Subject_units_14 rfl ?_
        refine mk_iloadn (nx := 18) X 2 d_Subject_units_17 rfl rfl ?_
        refine mk_iald (nx := 19) (j := k) X 3 0 (by decide) (sh_Slen cs ad _) rfl (by omega) (by omega) (by decide) rfl d_Subject_units_18 rfl ?_
        rw [show I 3 k = c 2 k from (hm.2 k (by omega)).2]
        refine mk_iadd (nx := 20) X d_Subject_units_19 rfl ?_
        refine mk_istoren (nx := 21) X [(1, .int (zi ((usum (c 2) k) + (c 2 k)))), (0, .ref (ad 1)), (2, .int (zi (k : Int)))] d_Subject_units_20 (by decide) rfl rfl ?_
        refine mk_iinc (nx := 24) X 2 [(2, .int (zi ((k : Int) + 1))), (1, .int (zi ((usum (c 2) k) + (c 2 k)))), (0, .ref (ad 1))] d_Subject_units_21 rfl (by decide) rfl rfl ?_
        refine mk_goto (tgt := 4) X d_Subject_units_24 (by decide) ?_
        refine mk_lv [2, 1, 0] rfl ?_
        exact ih4 (k + 1) (by omega) (by omega)
  refine mk_iconst (nx := 1) X d_Subject_units_0 rfl ?_
  refine mk_istoren (nx := 2) X [(1, .int (zi 0)), (0, .ref (ad 1))] d_Subject_units_1 (by decide) rfl rfl ?_
  refine mk_iconst (nx := 3) X d_Subject_units_2 rfl ?_
  refine mk_istoren (nx := 4) X [(2, .int (zi 0)), (1, .int (zi 0)), (0, .ref (ad 1))] d_Subject_units_3 (by decide) rfl rfl ?_
  refine mk_lv [2, 1, 0] rfl ?_
  exact L4 _ 0 (by omega) (Nat.lt_succ_self _)

-- CanonMaker.isPitch(I)Z
theorem d_CM_isPitch_0 : decode prog_1_method_22_code 0 = .ok (.iload_n 0, 1) := by decide +kernel
theorem d_CM_isPitch_1 : decode prog_1_method_22_code 1 = .ok (.bipush (-2), 2) := by decide +kernel
theorem d_CM_isPitch_3 : decode prog_1_method_22_code 3 = .ok (.if_icmp .lt 13, 3) := by decide +kernel
theorem d_CM_isPitch_6 : decode prog_1_method_22_code 6 = .ok (.iload_n 0, 1) := by decide +kernel
theorem d_CM_isPitch_7 : decode prog_1_method_22_code 7 = .ok (.bipush 127, 2) := by decide +kernel
theorem d_CM_isPitch_9 : decode prog_1_method_22_code 9 = .ok (.if_icmp .gt 7, 3) := by decide +kernel
theorem d_CM_isPitch_12 : decode prog_1_method_22_code 12 = .ok (.iconst 1, 1) := by decide +kernel
theorem d_CM_isPitch_13 : decode prog_1_method_22_code 13 = .ok (.goto 4, 3) := by decide +kernel
theorem d_CM_isPitch_16 : decode prog_1_method_22_code 16 = .ok (.iconst 0, 1) := by decide +kernel
theorem d_CM_isPitch_17 : decode prog_1_method_22_code 17 = .ok (.ireturn, 1) := by decide +kernel
abbrev rm_CM_isPitch : Room := { frames := 0, cells := 0, slots := 0, locals := 0 }
set_option maxHeartbeats 4000000 in
set_option maxRecDepth 100000 in
theorem c_CM_isPitch (l : Launch) (D : va_G) (cs : Nat → ClassId) (ad : Nat → Nat) (zt : Nat) (hi : cm_inj ad) (I : Wo) (x : Int) (hx : -2147483648 ≤ x ∧ x < 2147483648) : cm_C l D cs ad zt y_CM_isPitch ws_CM_isPitch rm_CM_isPitch [.int (zi x)] I (mk_pi (fun r J => I = J ∧ ((r = 1 ∧ -2 ≤ x ∧ x ≤ 127) ∨ (r = 0 ∧ ¬ (-2 ≤ x ∧ x ≤ 127))))) := by
  refine mk_metz (own := "CanonMaker") (Ts := wA) hi (Nat.le_refl _) (by decide) rfl (fun w h => List.mem_cons_of_mem _ h) rfl (Nat.le_of_ble_eq_true rfl) [(0, .int (zi x))] rfl ?_
  intro p_ e_ s_ m_ as_ bl_ me_ co_ Q_ X hret
  refine mk_iloadn (nx := 1) X 0 d_CM_isPitch_0 rfl rfl ?_
  refine mk_bipush (nx := 3) X d_CM_isPitch_1 (by decide) rfl ?_
  refine mk_icmp_lt (tgt := 16) (nx := 6) X d_CM_isPitch_3 (by omega) (by omega) (by decide) rfl (fun c3 => ?_) (fun c3 => ?_)
  · skip
    refine mk_iconst (nx := 17) X d_CM_isPitch_16 rfl ?_
    exact hret _ _ _ _ d_CM_isPitch_17 (by omega) (by exact ⟨rfl, by omega⟩)
  · skip
    refine mk_iloadn (nx := 7) X 0 d_CM_isPitch_6 rfl rfl ?_
    refine mk_bipush (nx := 9) X d_CM_isPitch_7 (by decide) rfl ?_
    refine mk_icmp_gt (tgt := 16) (nx := 12) X d_CM_isPitch_9 (by omega) (by omega) (by decide) rfl (fun c9 => ?_) (fun c9 => ?_)
    · skip
      refine mk_iconst (nx := 17) X d_CM_isPitch_16 rfl ?_
      exact hret _ _ _ _ d_CM_isPitch_17 (by omega) (by exact ⟨rfl, by omega⟩)
    · skip
      refine mk_iconst (nx := 13) X d_CM_isPitch_12 rfl ?_
      refine mk_goto (tgt := 17) X d_CM_isPitch_13 (by decide) ?_
      exact hret _ _ _ _ d_CM_isPitch_17 (by omega) (by exact ⟨rfl, by omega⟩)

-- CanonMaker.isFollower(I)Z
theorem d_CM_isFollower_0 : decode prog_1_method_23_code 0 = .ok (.iload_n 0, 1) := by decide +kernel
theorem d_CM_isFollower_1 : decode prog_1_method_23_code 1 = .ok (.iconst 1, 1) := by decide +kernel
theorem d_CM_isFollower_2 : decode prog_1_method_23_code 2 = .ok (.if_icmp .lt 12, 3) := by decide +kernel
theorem d_CM_isFollower_5 : decode prog_1_method_23_code 5 = .ok (.iload_n 0, 1) := by decide +kernel
theorem d_CM_isFollower_6 : decode prog_1_method_23_code 6 = .ok (.iconst 4, 1) := by decide +kernel
theorem d_CM_isFollower_7 : decode prog_1_method_23_code 7 = .ok (.if_icmp .ge 7, 3) := by decide +kernel
theorem d_CM_isFollower_10 : decode prog_1_method_23_code 10 = .ok (.iconst 1, 1) := by decide +kernel
theorem d_CM_isFollower_11 : decode prog_1_method_23_code 11 = .ok (.goto 4, 3) := by decide +kernel
theorem d_CM_isFollower_14 : decode prog_1_method_23_code 14 = .ok (.iconst 0, 1) := by decide +kernel
theorem d_CM_isFollower_15 : decode prog_1_method_23_code 15 = .ok (.ireturn, 1) := by decide +kernel
abbrev rm_CM_isFollower : Room := { frames := 0, cells := 0, slots := 0, locals := 0 }
set_option maxHeartbeats 4000000 in
set_option maxRecDepth 100000 in
theorem c_CM_isFollower (l : Launch) (D : va_G) (cs : Nat → ClassId) (ad : Nat → Nat) (zt : Nat) (hi : cm_inj ad) (I : Wo) (x : Int) (hx : -2147483648 ≤ x ∧ x < 2147483648) : cm_C l D cs ad zt y_CM_isFollower ws_CM_isFollower rm_CM_isFollower [.int (zi x)] I (mk_pi (fun r J => I = J ∧ ((r = 1 ∧ 1 ≤ x ∧ x ≤ 3) ∨ (r = 0 ∧ ¬ (1 ≤ x ∧ x ≤ 3))))) := by
  refine mk_metz (own := "CanonMaker") (Ts := wA) hi (Nat.le_refl _) (by decide) rfl (fun w h => List.mem_cons_of_mem _ h) rfl (Nat.le_of_ble_eq_true rfl) [(0, .int (zi x))] rfl ?_
  intro p_ e_ s_ m_ as_ bl_ me_ co_ Q_ X hret
  refine mk_iloadn (nx := 1) X 0 d_CM_isFollower_0 rfl rfl ?_
  refine mk_iconst (nx := 2) X d_CM_isFollower_1 rfl ?_
  refine mk_icmp_lt (tgt := 14) (nx := 5) X d_CM_isFollower_2 (by omega) (by omega) (by decide) rfl (fun c2 => ?_) (fun c2 => ?_)
  · skip
    refine mk_iconst (nx := 15) X d_CM_isFollower_14 rfl ?_
    exact hret _ _ _ _ d_CM_isFollower_15 (by omega) (by exact ⟨rfl, by omega⟩)
  · skip
    refine mk_iloadn (nx := 6) X 0 d_CM_isFollower_5 rfl rfl ?_
    refine mk_iconst (nx := 7) X d_CM_isFollower_6 rfl ?_
    refine mk_icmp_ge (tgt := 14) (nx := 10) X d_CM_isFollower_7 (by omega) (by omega) (by decide) rfl (fun c7 => ?_) (fun c7 => ?_)
    · skip
      refine mk_iconst (nx := 15) X d_CM_isFollower_14 rfl ?_
      exact hret _ _ _ _ d_CM_isFollower_15 (by omega) (by exact ⟨rfl, by omega⟩)
    · skip
      refine mk_iconst (nx := 11) X d_CM_isFollower_10 rfl ?_
      refine mk_goto (tgt := 15) X d_CM_isFollower_11 (by decide) ?_
      exact hret _ _ _ _ d_CM_isFollower_15 (by omega) (by exact ⟨rfl, by omega⟩)

-- CanonMaker.note(II)I
theorem d_CM_note_0 : decode prog_1_method_2_code 0 = .ok (.iload_n 1, 1) := by decide +kernel
theorem d_CM_note_1 : decode prog_1_method_2_code 1 = .ok (.invokestatic 57, 3) := by decide +kernel
theorem d_CM_note_4 : decode prog_1_method_2_code 4 = .ok (.ifCond .eq 14, 3) := by decide +kernel
theorem d_CM_note_7 : decode prog_1_method_2_code 7 = .ok (.iload_n 2, 1) := by decide +kernel
theorem d_CM_note_8 : decode prog_1_method_2_code 8 = .ok (.iconst 1, 1) := by decide +kernel
theorem d_CM_note_9 : decode prog_1_method_2_code 9 = .ok (.if_icmp .lt 9, 3) := by decide +kernel
theorem d_CM_note_12 : decode prog_1_method_2_code 12 = .ok (.iload_n 2, 1) := by decide +kernel
theorem d_CM_note_13 : decode prog_1_method_2_code 13 = .ok (.bipush 16, 2) := by decide +kernel
theorem d_CM_note_15 : decode prog_1_method_2_code 15 = .ok (.if_icmp .le 6, 3) := by decide +kernel
theorem d_CM_note_18 : decode prog_1_method_2_code 18 = .ok (.bipush (-2), 2) := by decide +kernel
theorem d_CM_note_20 : decode prog_1_method_2_code 20 = .ok (.ireturn, 1) := by decide +kernel
theorem d_CM_note_21 : decode prog_1_method_2_code 21 = .ok (.aload_n 0, 1) := by decide +kernel
theorem d_CM_note_22 : decode prog_1_method_2_code 22 = .ok (.getfield 12, 3) := by decide +kernel
theorem d_CM_note_25 : decode prog_1_method_2_code 25 = .ok (.getfield 61, 3) := by decide +kernel
theorem d_CM_note_28 : decode prog_1_method_2_code 28 = .ok (.bipush 24, 2) := by decide +kernel
theorem d_CM_note_30 : decode prog_1_method_2_code 30 = .ok (.if_icmp .lt 6, 3) := by decide +kernel
theorem d_CM_note_33 : decode prog_1_method_2_code 33 = .ok (.bipush (-4), 2) := by decide +kernel
theorem d_CM_note_35 : decode prog_1_method_2_code 35 = .ok (.ireturn, 1) := by decide +kernel
theorem d_CM_note_36 : decode prog_1_method_2_code 36 = .ok (.aload_n 0, 1) := by decide +kernel
theorem d_CM_note_37 : decode prog_1_method_2_code 37 = .ok (.getfield 12, 3) := by decide +kernel
theorem d_CM_note_40 : decode prog_1_method_2_code 40 = .ok (.getfield 61, 3) := by decide +kernel
theorem d_CM_note_43 : decode prog_1_method_2_code 43 = .ok (.istore_n 3, 1) := by decide +kernel
theorem d_CM_note_44 : decode prog_1_method_2_code 44 = .ok (.aload_n 0, 1) := by decide +kernel
theorem d_CM_note_45 : decode prog_1_method_2_code 45 = .ok (.getfield 12, 3) := by decide +kernel
theorem d_CM_note_48 : decode prog_1_method_2_code 48 = .ok (.getfield 65, 3) := by decide +kernel
theorem d_CM_note_51 : decode prog_1_method_2_code 51 = .ok (.iload_n 3, 1) := by decide +kernel
theorem d_CM_note_52 : decode prog_1_method_2_code 52 = .ok (.iload_n 1, 1) := by decide +kernel
theorem d_CM_note_53 : decode prog_1_method_2_code 53 = .ok (.iastore, 1) := by decide +kernel
theorem d_CM_note_54 : decode prog_1_method_2_code 54 = .ok (.aload_n 0, 1) := by decide +kernel
theorem d_CM_note_55 : decode prog_1_method_2_code 55 = .ok (.getfield 12, 3) := by decide +kernel
theorem d_CM_note_58 : decode prog_1_method_2_code 58 = .ok (.getfield 68, 3) := by decide +kernel
theorem d_CM_note_61 : decode prog_1_method_2_code 61 = .ok (.iload_n 3, 1) := by decide +kernel
theorem d_CM_note_62 : decode prog_1_method_2_code 62 = .ok (.iload_n 2, 1) := by decide +kernel
theorem d_CM_note_63 : decode prog_1_method_2_code 63 = .ok (.iastore, 1) := by decide +kernel
theorem d_CM_note_64 : decode prog_1_method_2_code 64 = .ok (.aload_n 0, 1) := by decide +kernel
theorem d_CM_note_65 : decode prog_1_method_2_code 65 = .ok (.getfield 12, 3) := by decide +kernel
theorem d_CM_note_68 : decode prog_1_method_2_code 68 = .ok (.iload_n 3, 1) := by decide +kernel
theorem d_CM_note_69 : decode prog_1_method_2_code 69 = .ok (.iconst 1, 1) := by decide +kernel
theorem d_CM_note_70 : decode prog_1_method_2_code 70 = .ok (.iadd, 1) := by decide +kernel
theorem d_CM_note_71 : decode prog_1_method_2_code 71 = .ok (.putfield 61, 3) := by decide +kernel
theorem d_CM_note_74 : decode prog_1_method_2_code 74 = .ok (.iload_n 3, 1) := by decide +kernel
theorem d_CM_note_75 : decode prog_1_method_2_code 75 = .ok (.ireturn, 1) := by decide +kernel
abbrev rm_CM_note : Room := { frames := 1, cells := 0, slots := 0, locals := 20 }
set_option maxHeartbeats 4000000 in
set_option maxRecDepth 100000 in
theorem c_CM_note (l : Launch) (D : va_G) (cs : Nat → ClassId) (ad : Nat → Nat) (zt : Nat) (hi : cm_inj ad) (c I : Wo) (h : cmR c I) (a : Int) (h_a : -2147483648 ≤ a ∧ a < 2147483648) (b : Int) (h_b : -2147483648 ≤ b ∧ b < 2147483648) : cm_C l D cs ad zt y_CM_note ws_CM_note rm_CM_note [.ref (ad 0), .int (zi a), .int (zi b)] I (mk_pi (fun r J => r = an_note c a b ∧ cmR (nw_note c a b) J)) := by
  refine mk_meti (own := "CanonMaker") (Ts := wA) hi (Nat.le_refl _) (by decide) rfl (fun w h => List.mem_cons_of_mem _ h) rfl (Nat.le_of_ble_eq_true rfl) [(0, .ref (ad 0)), (1, .int (zi a)), (2, .int (zi b))] rfl ?_
  intro p_ e_ s_ m_ as_ bl_ me_ co_ Q_ X hret
  obtain ⟨⟨⟨hn, hN⟩, ⟨hlo, hsc, hbt, hru, hrd, hst⟩, ⟨hV, hV0⟩, ⟨hfc, hF⟩⟩, ⟨i12, iN⟩, ⟨⟨i50, i51, i52, i53, i54⟩, i07, i09⟩, iV, ⟨i010, iF⟩⟩ := id h
  refine mk_iloadn (nx := 1) X 1 d_CM_note_0 rfl rfl ?_
  refine mk_callSi (nx := 4) (n := 1) (As := [.int (zi a)]) (rest := []) X (c_CM_isPitch l D cs ad zt hi I a (by omega)) (g_CM_isPitch wd_325) rfl ⟨rfl, rfl⟩ (by decide +kernel) ⟨by decide, by decide⟩ rfl (Nat.le_of_ble_eq_true rfl) rfl d_CM_note_1 rfl ?_
  intro r1 J1 hJ1
  obtain ⟨rfl, hr1⟩ := hJ1
  refine mk_if_eq (tgt := 18) (nx := 7) X d_CM_note_4 (by omega) (by decide) rfl (fun c4 => ?_) (fun c4 => ?_)
  · skip
    refine mk_bipush (nx := 20) X d_CM_note_18 (by decide) rfl ?_
    exact hret _ _ _ _ d_CM_note_20 (by exact ⟨by rw [an_note, if_pos (by omega)], by rw [nw_note, if_pos (by omega)]; exact h⟩)
  · skip
    refine mk_iloadn (nx := 8) X 2 d_CM_note_7 rfl rfl ?_
    refine mk_iconst (nx := 9) X d_CM_note_8 rfl ?_
    refine mk_icmp_lt (tgt := 18) (nx := 12) X d_CM_note_9 (by omega) (by omega) (by decide) rfl (fun c9 => ?_) (fun c9 => ?_)
    · skip
      refine mk_bipush (nx := 20) X d_CM_note_18 (by decide) rfl ?_
      exact hret _ _ _ _ d_CM_note_20 (by exact ⟨by rw [an_note, if_pos (by omega)], by rw [nw_note, if_pos (by omega)]; exact h⟩)
    · skip
      refine mk_iloadn (nx := 13) X 2 d_CM_note_12 rfl rfl ?_
      refine mk_bipush (nx := 15) X d_CM_note_13 (by decide) rfl ?_
      refine mk_icmp_le (tgt := 21) (nx := 18) X d_CM_note_15 (by omega) (by omega) (by decide) rfl (fun c15 => ?_) (fun c15 => ?_)
      · skip
        refine mk_aloadn (nx := 22) X 0 d_CM_note_21 rfl rfl ?_
        refine mk_get (nx := 25) (v := .ref (ad 1)) X 0 (by decide) (sh_CM cs ad _) rfl in_CM 0 (by decide) wd_287 rfl rfl d_CM_note_22 rfl ?_
        refine mk_get (nx := 28) (v := .int (zi (I 1 2))) X 1 (by decide) (sh_Subject cs ad _) rfl in_Subject 2 (by decide) wd_71 rfl rfl d_CM_note_25 rfl ?_
        refine mk_bipush (nx := 30) X d_CM_note_28 (by decide) rfl ?_
        refine mk_icmp_lt (tgt := 36) (nx := 33) X d_CM_note_30 (by omega) (by omega) (by decide) rfl (fun c30 => ?_) (fun c30 => ?_)
        · skip
          refine mk_aloadn (nx := 37) X 0 d_CM_note_36 rfl rfl ?_
          refine mk_get (nx := 40) (v := .ref (ad 1)) X 0 (by decide) (sh_CM cs ad _) rfl in_CM 0 (by decide) wd_287 rfl rfl d_CM_note_37 rfl ?_
          refine mk_get (nx := 43) (v := .int (zi (I 1 2))) X 1 (by decide) (sh_Subject cs ad _) rfl in_Subject 2 (by decide) wd_71 rfl rfl d_CM_note_40 rfl ?_
          refine mk_istoren (nx := 44) X [(3, .int (zi (I 1 2))), (0, .ref (ad 0)), (1, .int (zi a)), (2, .int (zi b))] d_CM_note_43 (by decide) rfl rfl ?_
          refine mk_aloadn (nx := 45) X 1 d_CM_note_44 rfl rfl ?_
          refine mk_get (nx := 48) (v := .ref (ad 1)) X 0 (by decide) (sh_CM cs ad _) rfl in_CM 0 (by decide) wd_287 rfl rfl d_CM_note_45 rfl ?_
          refine mk_get (nx := 51) (v := .ref (ad 2)) X 1 (by decide) (sh_Subject cs ad _) rfl in_Subject 0 (by decide) wd_65 rfl rfl d_CM_note_48 rfl ?_
          refine mk_iloadn (nx := 52) X 0 d_CM_note_51 rfl rfl ?_
          refine mk_iloadn (nx := 53) X 2 d_CM_note_52 rfl rfl ?_
          refine mk_iast (nx := 54) (j := (I 1 2).toNat) X 2 0 (by decide) (sh_Spit cs ad) rfl (by omega) (by omega) (by decide) rfl d_CM_note_53 rfl ?_
          obtain ⟨J2, hJ2⟩ : ∃ z, z = up2 I 2 ((I 1 2).toNat) a := ⟨_, rfl⟩
          refine mk_same hJ2.symm ?_
          have hJ2s : J2 2 ((I 1 2).toNat) = a := hJ2 ▸ up2_ss I 2 ((I 1 2).toNat) a
          have hJ2o : ∀ a b, (a ≠ 2 ∨ b ≠ ((I 1 2).toNat)) → J2 a b = I a b := hJ2 ▸ up2_o I 2 ((I 1 2).toNat) a
          refine mk_aloadn (nx := 55) X 1 d_CM_note_54 rfl rfl ?_
          refine mk_get (nx := 58) (v := .ref (ad 1)) X 0 (by decide) (sh_CM cs ad _) rfl in_CM 0 (by decide) wd_287 rfl rfl d_CM_note_55 rfl ?_
          refine mk_get (nx := 61) (v := .ref (ad 3)) X 1 (by decide) (sh_Subject cs ad _) rfl in_Subject 1 (by decide) wd_68 rfl rfl d_CM_note_58 rfl ?_
          refine mk_iloadn (nx := 62) X 0 d_CM_note_61 rfl rfl ?_
          refine mk_iloadn (nx := 63) X 3 d_CM_note_62 rfl rfl ?_
          refine mk_iast (nx := 64) (j := (I 1 2).toNat) X 3 0 (by decide) (sh_Slen cs ad) rfl (by omega) (by omega) (by decide) rfl d_CM_note_63 rfl ?_
          obtain ⟨J3, hJ3⟩ : ∃ z, z = up2 J2 3 ((I 1 2).toNat) b := ⟨_, rfl⟩
          refine mk_same hJ3.symm ?_
          have hJ3s : J3 3 ((I 1 2).toNat) = b := hJ3 ▸ up2_ss J2 3 ((I 1 2).toNat) b
          have hJ3o : ∀ a b, (a ≠ 3 ∨ b ≠ ((I 1 2).toNat)) → J3 a b = J2 a b := hJ3 ▸ up2_o J2 3 ((I 1 2).toNat) b
          refine mk_aloadn (nx := 65) X 1 d_CM_note_64 rfl rfl ?_
          refine mk_get (nx := 68) (v := .ref (ad 1)) X 0 (by decide) (sh_CM cs ad _) rfl in_CM 0 (by decide) wd_287 rfl rfl d_CM_note_65 rfl ?_
          refine mk_iloadn (nx := 69) X 0 d_CM_note_68 rfl rfl ?_
          refine mk_iconst (nx := 70) X d_CM_note_69 rfl ?_
          refine mk_iadd (nx := 71) X d_CM_note_70 rfl ?_
          refine mk_putf (nx := 74) (ty := .int) X t_Subject t_Subject_ok n_Subject 1 (by decide) (sh_Subject cs ad _) rfl in_Subject 2 (by decide) wd_71 rfl rfl (by decide +kernel) rfl rfl (Nat.le_of_ble_eq_true rfl) ((sh_Subject cs ad _).trans rfl) d_CM_note_71 rfl ?_
          obtain ⟨J4, hJ4⟩ : ∃ z, z = up2 J3 1 2 ((I 1 2) + 1) := ⟨_, rfl⟩
          refine mk_same hJ4.symm ?_
          have hJ4s : J4 1 2 = (I 1 2) + 1 := hJ4 ▸ up2_ss J3 1 2 ((I 1 2) + 1)
          have hJ4o : ∀ a b, (a ≠ 1 ∨ b ≠ 2) → J4 a b = J3 a b := hJ4 ▸ up2_o J3 1 2 ((I 1 2) + 1)
          refine mk_iloadn (nx := 75) X 0 d_CM_note_74 rfl rfl ?_
          exact hret _ _ _ _ d_CM_note_75 (by exact ⟨by rw [an_note, if_neg (by omega), if_neg (by omega)]; omega, by rw [nw_note, if_neg (by omega), if_neg (by omega), hJ4, hJ3, hJ2]; rw [i12]; exact cm_s_note h (by omega) (by omega) (by omega) (by omega)⟩)
        · skip
          refine mk_bipush (nx := 35) X d_CM_note_33 (by decide) rfl ?_
          exact hret _ _ _ _ d_CM_note_35 (by exact ⟨by rw [an_note, if_neg (by omega), if_pos (by omega)], by rw [nw_note, if_neg (by omega), if_pos (by omega)]; exact h⟩)
      · skip
        refine mk_bipush (nx := 20) X d_CM_note_18 (by decide) rfl ?_
        exact hret _ _ _ _ d_CM_note_20 (by exact ⟨by rw [an_note, if_pos (by omega)], by rw [nw_note, if_pos (by omega)]; exact h⟩)

-- CanonMaker.pitch(II)I
theorem d_CM_pitch_0 : decode prog_1_method_3_code 0 = .ok (.aload_n 0, 1) := by decide +kernel
theorem d_CM_pitch_1 : decode prog_1_method_3_code 1 = .ok (.getfield 12, 3) := by decide +kernel
theorem d_CM_pitch_4 : decode prog_1_method_3_code 4 = .ok (.iload_n 1, 1) := by decide +kernel
theorem d_CM_pitch_5 : decode prog_1_method_3_code 5 = .ok (.invokevirtual 71, 3) := by decide +kernel
theorem d_CM_pitch_8 : decode prog_1_method_3_code 8 = .ok (.ifCond .ne 5, 3) := by decide +kernel
theorem d_CM_pitch_11 : decode prog_1_method_3_code 11 = .ok (.iconst (-1), 1) := by decide +kernel
theorem d_CM_pitch_12 : decode prog_1_method_3_code 12 = .ok (.ireturn, 1) := by decide +kernel
theorem d_CM_pitch_13 : decode prog_1_method_3_code 13 = .ok (.iload_n 2, 1) := by decide +kernel
theorem d_CM_pitch_14 : decode prog_1_method_3_code 14 = .ok (.invokestatic 57, 3) := by decide +kernel
theorem d_CM_pitch_17 : decode prog_1_method_3_code 17 = .ok (.ifCond .ne 6, 3) := by decide +kernel
theorem d_CM_pitch_20 : decode prog_1_method_3_code 20 = .ok (.bipush (-2), 2) := by decide +kernel
theorem d_CM_pitch_22 : decode prog_1_method_3_code 22 = .ok (.ireturn, 1) := by decide +kernel
theorem d_CM_pitch_23 : decode prog_1_method_3_code 23 = .ok (.aload_n 0, 1) := by decide +kernel
theorem d_CM_pitch_24 : decode prog_1_method_3_code 24 = .ok (.getfield 12, 3) := by decide +kernel
theorem d_CM_pitch_27 : decode prog_1_method_3_code 27 = .ok (.getfield 65, 3) := by decide +kernel
theorem d_CM_pitch_30 : decode prog_1_method_3_code 30 = .ok (.iload_n 1, 1) := by decide +kernel
theorem d_CM_pitch_31 : decode prog_1_method_3_code 31 = .ok (.iaload, 1) := by decide +kernel
theorem d_CM_pitch_32 : decode prog_1_method_3_code 32 = .ok (.istore_n 3, 1) := by decide +kernel
theorem d_CM_pitch_33 : decode prog_1_method_3_code 33 = .ok (.aload_n 0, 1) := by decide +kernel
theorem d_CM_pitch_34 : decode prog_1_method_3_code 34 = .ok (.getfield 12, 3) := by decide +kernel
theorem d_CM_pitch_37 : decode prog_1_method_3_code 37 = .ok (.getfield 65, 3) := by decide +kernel
theorem d_CM_pitch_40 : decode prog_1_method_3_code 40 = .ok (.iload_n 1, 1) := by decide +kernel
theorem d_CM_pitch_41 : decode prog_1_method_3_code 41 = .ok (.iload_n 2, 1) := by decide +kernel
theorem d_CM_pitch_42 : decode prog_1_method_3_code 42 = .ok (.iastore, 1) := by decide +kernel
theorem d_CM_pitch_43 : decode prog_1_method_3_code 43 = .ok (.iload_n 3, 1) := by decide +kernel
theorem d_CM_pitch_44 : decode prog_1_method_3_code 44 = .ok (.ireturn, 1) := by decide +kernel
abbrev rm_CM_pitch : Room := { frames := 1, cells := 0, slots := 0, locals := 21 }
set_option maxHeartbeats 4000000 in
set_option maxRecDepth 100000 in
theorem c_CM_pitch (l : Launch) (D : va_G) (cs : Nat → ClassId) (ad : Nat → Nat) (zt : Nat) (hi : cm_inj ad) (c I : Wo) (h : cmR c I) (k : Int) (h_k : -2147483648 ≤ k ∧ k < 2147483648) (a : Int) (h_a : -2147483648 ≤ a ∧ a < 2147483648) : cm_C l D cs ad zt y_CM_pitch ws_CM_pitch rm_CM_pitch [.ref (ad 0), .int (zi k), .int (zi a)] I (mk_pi (fun r J => r = an_pitch c k a ∧ cmR (nw_pitch c k a) J)) := by
  refine mk_meti (own := "CanonMaker") (Ts := wA) hi (Nat.le_refl _) (by decide) rfl (fun w h => List.mem_cons_of_mem _ h) rfl (Nat.le_of_ble_eq_true rfl) [(0, .ref (ad 0)), (1, .int (zi k)), (2, .int (zi a))] rfl ?_
  intro p_ e_ s_ m_ as_ bl_ me_ co_ Q_ X hret
  obtain ⟨⟨⟨hn, hN⟩, ⟨hlo, hsc, hbt, hru, hrd, hst⟩, ⟨hV, hV0⟩, ⟨hfc, hF⟩⟩, ⟨i12, iN⟩, ⟨⟨i50, i51, i52, i53, i54⟩, i07, i09⟩, iV, ⟨i010, iF⟩⟩ := id h
  refine mk_aloadn (nx := 1) X 0 d_CM_pitch_0 rfl rfl ?_
  refine mk_get (nx := 4) (v := .ref (ad 1)) X 0 (by decide) (sh_CM cs ad _) rfl in_CM 0 (by decide) wd_287 rfl rfl d_CM_pitch_1 rfl ?_
  refine mk_iloadn (nx := 5) X 1 d_CM_pitch_4 rfl rfl ?_
  refine mk_callVi (nx := 8) (n := 1) (As := [.int (zi k)]) (rest := []) X 1 (by decide) (sh_Subject cs ad _) rfl (c_Subject_has l D cs ad zt hi I k (by omega) (by omega)) (g_Subject_has wd_332) rfl ⟨rfl, rfl⟩ (by decide +kernel) ⟨by decide, by decide⟩ rfl (Nat.le_of_ble_eq_true rfl) rfl d_CM_pitch_5 rfl ?_
  intro r5 J1 hJ1
  obtain ⟨rfl, hr5⟩ := hJ1
  refine mk_if_ne (tgt := 13) (nx := 11) X d_CM_pitch_8 (by omega) (by decide) rfl (fun c8 => ?_) (fun c8 => ?_)
  · skip
    refine mk_iloadn (nx := 14) X 2 d_CM_pitch_13 rfl rfl ?_
    refine mk_callSi (nx := 17) (n := 1) (As := [.int (zi a)]) (rest := []) X (c_CM_isPitch l D cs ad zt hi I a (by omega)) (g_CM_isPitch wd_325) rfl ⟨rfl, rfl⟩ (by decide +kernel) ⟨by decide, by decide⟩ rfl (Nat.le_of_ble_eq_true rfl) rfl d_CM_pitch_14 rfl ?_
    intro r14 J2 hJ2
    obtain ⟨rfl, hr14⟩ := hJ2
    refine mk_if_ne (tgt := 23) (nx := 20) X d_CM_pitch_17 (by omega) (by decide) rfl (fun c17 => ?_) (fun c17 => ?_)
    · skip
      refine mk_aloadn (nx := 24) X 0 d_CM_pitch_23 rfl rfl ?_
      refine mk_get (nx := 27) (v := .ref (ad 1)) X 0 (by decide) (sh_CM cs ad _) rfl in_CM 0 (by decide) wd_287 rfl rfl d_CM_pitch_24 rfl ?_
      refine mk_get (nx := 30) (v := .ref (ad 2)) X 1 (by decide) (sh_Subject cs ad _) rfl in_Subject 0 (by decide) wd_65 rfl rfl d_CM_pitch_27 rfl ?_
      refine mk_iloadn (nx := 31) X 1 d_CM_pitch_30 rfl rfl ?_
      refine mk_iald (nx := 32) (j := k.toNat) X 2 0 (by decide) (sh_Spit cs ad _) rfl (by omega) (by omega) (by decide) rfl d_CM_pitch_31 rfl ?_
      refine mk_istoren (nx := 33) X [(3, .int (zi (I 2 k.toNat))), (0, .ref (ad 0)), (1, .int (zi k)), (2, .int (zi a))] d_CM_pitch_32 (by decide) rfl rfl ?_
      refine mk_aloadn (nx := 34) X 1 d_CM_pitch_33 rfl rfl ?_
      refine mk_get (nx := 37) (v := .ref (ad 1)) X 0 (by decide) (sh_CM cs ad _) rfl in_CM 0 (by decide) wd_287 rfl rfl d_CM_pitch_34 rfl ?_
      refine mk_get (nx := 40) (v := .ref (ad 2)) X 1 (by decide) (sh_Subject cs ad _) rfl in_Subject 0 (by decide) wd_65 rfl rfl d_CM_pitch_37 rfl ?_
      refine mk_iloadn (nx := 41) X 2 d_CM_pitch_40 rfl rfl ?_
      refine mk_iloadn (nx := 42) X 3 d_CM_pitch_41 rfl rfl ?_
      refine mk_iast (nx := 43) (j := k.toNat) X 2 0 (by decide) (sh_Spit cs ad) rfl (by omega) (by omega) (by decide) rfl d_CM_pitch_42 rfl ?_
      obtain ⟨J3, hJ3⟩ : ∃ z, z = up2 I 2 k.toNat a := ⟨_, rfl⟩
      refine mk_same hJ3.symm ?_
      have hJ3s : J3 2 k.toNat = a := hJ3 ▸ up2_ss I 2 k.toNat a
      have hJ3o : ∀ a b, (a ≠ 2 ∨ b ≠ k.toNat) → J3 a b = I a b := hJ3 ▸ up2_o I 2 k.toNat a
      refine mk_iloadn (nx := 44) X 0 d_CM_pitch_43 rfl rfl ?_
      exact hret _ _ _ _ d_CM_pitch_44 (by exact ⟨by rw [an_pitch, if_neg (by omega), if_neg (by omega)]; exact (iN k.toNat (by omega)).1, by rw [nw_pitch, if_neg (by omega), if_neg (by omega), hJ3]; exact cm_s_pitch h (by omega) (by omega)⟩)
    · skip
      refine mk_bipush (nx := 22) X d_CM_pitch_20 (by decide) rfl ?_
      exact hret _ _ _ _ d_CM_pitch_22 (by exact ⟨by rw [an_pitch, if_neg (by omega), if_pos (by omega)], by rw [nw_pitch, if_neg (by omega), if_pos (by omega)]; exact h⟩)
  · skip
    refine mk_iconst (nx := 12) X d_CM_pitch_11 rfl ?_
    exact hret _ _ _ _ d_CM_pitch_12 (by exact ⟨by rw [an_pitch, if_pos (by omega)], by rw [nw_pitch, if_pos (by omega)]; exact h⟩)

-- CanonMaker.told(II)I
theorem d_CM_told_0 : decode prog_1_method_4_code 0 = .ok (.aload_n 0, 1) := by decide +kernel
theorem d_CM_told_1 : decode prog_1_method_4_code 1 = .ok (.getfield 12, 3) := by decide +kernel
theorem d_CM_told_4 : decode prog_1_method_4_code 4 = .ok (.iload_n 1, 1) := by decide +kernel
theorem d_CM_told_5 : decode prog_1_method_4_code 5 = .ok (.invokevirtual 71, 3) := by decide +kernel
theorem d_CM_told_8 : decode prog_1_method_4_code 8 = .ok (.ifCond .ne 5, 3) := by decide +kernel
theorem d_CM_told_11 : decode prog_1_method_4_code 11 = .ok (.iconst (-1), 1) := by decide +kernel
theorem d_CM_told_12 : decode prog_1_method_4_code 12 = .ok (.ireturn, 1) := by decide +kernel
theorem d_CM_told_13 : decode prog_1_method_4_code 13 = .ok (.iload_n 2, 1) := by decide +kernel
theorem d_CM_told_14 : decode prog_1_method_4_code 14 = .ok (.lookupswitch 46 #[(0, 26), (1, 36)], 26) := by decide +kernel
theorem d_CM_told_40 : decode prog_1_method_4_code 40 = .ok (.aload_n 0, 1) := by decide +kernel
theorem d_CM_told_41 : decode prog_1_method_4_code 41 = .ok (.getfield 12, 3) := by decide +kernel
theorem d_CM_told_44 : decode prog_1_method_4_code 44 = .ok (.getfield 65, 3) := by decide +kernel
theorem d_CM_told_47 : decode prog_1_method_4_code 47 = .ok (.iload_n 1, 1) := by decide +kernel
theorem d_CM_told_48 : decode prog_1_method_4_code 48 = .ok (.iaload, 1) := by decide +kernel
theorem d_CM_told_49 : decode prog_1_method_4_code 49 = .ok (.ireturn, 1) := by decide +kernel
theorem d_CM_told_50 : decode prog_1_method_4_code 50 = .ok (.aload_n 0, 1) := by decide +kernel
theorem d_CM_told_51 : decode prog_1_method_4_code 51 = .ok (.getfield 12, 3) := by decide +kernel
theorem d_CM_told_54 : decode prog_1_method_4_code 54 = .ok (.getfield 68, 3) := by decide +kernel
theorem d_CM_told_57 : decode prog_1_method_4_code 57 = .ok (.iload_n 1, 1) := by decide +kernel
theorem d_CM_told_58 : decode prog_1_method_4_code 58 = .ok (.iaload, 1) := by decide +kernel
theorem d_CM_told_59 : decode prog_1_method_4_code 59 = .ok (.ireturn, 1) := by decide +kernel
theorem d_CM_told_60 : decode prog_1_method_4_code 60 = .ok (.bipush (-2), 2) := by decide +kernel
theorem d_CM_told_62 : decode prog_1_method_4_code 62 = .ok (.ireturn, 1) := by decide +kernel
abbrev rm_CM_told : Room := { frames := 1, cells := 0, slots := 0, locals := 21 }
set_option maxHeartbeats 4000000 in
set_option maxRecDepth 100000 in
theorem c_CM_told (l : Launch) (D : va_G) (cs : Nat → ClassId) (ad : Nat → Nat) (zt : Nat) (hi : cm_inj ad) (c I : Wo) (h : cmR c I) (k : Int) (h_k : -2147483648 ≤ k ∧ k < 2147483648) (w : Int) (h_w : -2147483648 ≤ w ∧ w < 2147483648) : cm_C l D cs ad zt y_CM_told ws_CM_told rm_CM_told [.ref (ad 0), .int (zi k), .int (zi w)] I (mk_pi (fun r J => r = an_told c k w ∧ cmR c J)) := by
  refine mk_meti (own := "CanonMaker") (Ts := wA) hi (Nat.le_refl _) (by decide) rfl (fun w h => List.mem_cons_of_mem _ h) rfl (Nat.le_of_ble_eq_true rfl) [(0, .ref (ad 0)), (1, .int (zi k)), (2, .int (zi w))] rfl ?_
  intro p_ e_ s_ m_ as_ bl_ me_ co_ Q_ X hret
  obtain ⟨⟨⟨hn, hN⟩, ⟨hlo, hsc, hbt, hru, hrd, hst⟩, ⟨hV, hV0⟩, ⟨hfc, hF⟩⟩, ⟨i12, iN⟩, ⟨⟨i50, i51, i52, i53, i54⟩, i07, i09⟩, iV, ⟨i010, iF⟩⟩ := id h
  refine mk_aloadn (nx := 1) X 0 d_CM_told_0 rfl rfl ?_
  refine mk_get (nx := 4) (v := .ref (ad 1)) X 0 (by decide) (sh_CM cs ad _) rfl in_CM 0 (by decide) wd_287 rfl rfl d_CM_told_1 rfl ?_
  refine mk_iloadn (nx := 5) X 1 d_CM_told_4 rfl rfl ?_
  refine mk_callVi (nx := 8) (n := 1) (As := [.int (zi k)]) (rest := []) X 1 (by decide) (sh_Subject cs ad _) rfl (c_Subject_has l D cs ad zt hi I k (by omega) (by omega)) (g_Subject_has wd_332) rfl ⟨rfl, rfl⟩ (by decide +kernel) ⟨by decide, by decide⟩ rfl (Nat.le_of_ble_eq_true rfl) rfl d_CM_told_5 rfl ?_
  intro r5 J1 hJ1
  obtain ⟨rfl, hr5⟩ := hJ1
  refine mk_if_ne (tgt := 13) (nx := 11) X d_CM_told_8 (by omega) (by decide) rfl (fun c8 => ?_) (fun c8 => ?_)
  · skip
    refine mk_iloadn (nx := 14) X 2 d_CM_told_13 rfl rfl ?_
    by_cases c14_0 : w = 0
    · refine mk_lookup (tgt := 40) (off := 26) X d_CM_told_14 (by omega) ⟨by decide, by rw [c14_0]; try rfl⟩ (by decide) ?_
      refine mk_aloadn (nx := 41) X 0 d_CM_told_40 rfl rfl ?_
      refine mk_get (nx := 44) (v := .ref (ad 1)) X 0 (by decide) (sh_CM cs ad _) rfl in_CM 0 (by decide) wd_287 rfl rfl d_CM_told_41 rfl ?_
      refine mk_get (nx := 47) (v := .ref (ad 2)) X 1 (by decide) (sh_Subject cs ad _) rfl in_Subject 0 (by decide) wd_65 rfl rfl d_CM_told_44 rfl ?_
      refine mk_iloadn (nx := 48) X 1 d_CM_told_47 rfl rfl ?_
      refine mk_iald (nx := 49) (j := k.toNat) X 2 0 (by decide) (sh_Spit cs ad _) rfl (by omega) (by omega) (by decide) rfl d_CM_told_48 rfl ?_
      exact hret _ _ _ _ d_CM_told_49 (by exact ⟨by rw [an_told, if_neg (by omega), if_pos (by omega)]; exact (iN k.toNat (by omega)).1, h⟩)
    · skip
      by_cases c14_1 : w = 1
      · refine mk_lookup (tgt := 50) (off := 36) X d_CM_told_14 (by omega) ⟨by decide, by rw [c14_1]; try rfl⟩ (by decide) ?_
        refine mk_aloadn (nx := 51) X 0 d_CM_told_50 rfl rfl ?_
        refine mk_get (nx := 54) (v := .ref (ad 1)) X 0 (by decide) (sh_CM cs ad _) rfl in_CM 0 (by decide) wd_287 rfl rfl d_CM_told_51 rfl ?_
        refine mk_get (nx := 57) (v := .ref (ad 3)) X 1 (by decide) (sh_Subject cs ad _) rfl in_Subject 1 (by decide) wd_68 rfl rfl d_CM_told_54 rfl ?_
        refine mk_iloadn (nx := 58) X 1 d_CM_told_57 rfl rfl ?_
        refine mk_iald (nx := 59) (j := k.toNat) X 3 0 (by decide) (sh_Slen cs ad _) rfl (by omega) (by omega) (by decide) rfl d_CM_told_58 rfl ?_
        exact hret _ _ _ _ d_CM_told_59 (by exact ⟨by rw [an_told, if_neg (by omega), if_neg (by omega), if_pos (by omega)]; exact (iN k.toNat (by omega)).2, h⟩)
      · skip
        refine mk_lookup (tgt := 60) (off := 46) X d_CM_told_14 (by omega) ⟨by decide, by simp only [Op.lookupswitch.offset_cons, Op.lookupswitch.offset_nil]; rw [if_neg (by omega), if_neg (by omega)]⟩ (by decide) ?_
        refine mk_bipush (nx := 62) X d_CM_told_60 (by decide) rfl ?_
        exact hret _ _ _ _ d_CM_told_62 (by exact ⟨by rw [an_told, if_neg (by omega), if_neg (by omega), if_neg (by omega)], h⟩)
  · skip
    refine mk_iconst (nx := 12) X d_CM_told_11 rfl ?_
    exact hret _ _ _ _ d_CM_told_12 (by exact ⟨by rw [an_told, if_pos (by omega)], by exact h⟩)

-- CanonMaker.cut(I)I
theorem d_CM_cut_0 : decode prog_1_method_5_code 0 = .ok (.iload_n 1, 1) := by decide +kernel
theorem d_CM_cut_1 : decode prog_1_method_5_code 1 = .ok (.ifCond .lt 14, 3) := by decide +kernel
theorem d_CM_cut_4 : decode prog_1_method_5_code 4 = .ok (.iload_n 1, 1) := by decide +kernel
theorem d_CM_cut_5 : decode prog_1_method_5_code 5 = .ok (.aload_n 0, 1) := by decide +kernel
theorem d_CM_cut_6 : decode prog_1_method_5_code 6 = .ok (.getfield 12, 3) := by decide +kernel
theorem d_CM_cut_9 : decode prog_1_method_5_code 9 = .ok (.getfield 61, 3) := by decide +kernel
theorem d_CM_cut_12 : decode prog_1_method_5_code 12 = .ok (.if_icmp .le 6, 3) := by decide +kernel
theorem d_CM_cut_15 : decode prog_1_method_5_code 15 = .ok (.bipush (-2), 2) := by decide +kernel
theorem d_CM_cut_17 : decode prog_1_method_5_code 17 = .ok (.ireturn, 1) := by decide +kernel
theorem d_CM_cut_18 : decode prog_1_method_5_code 18 = .ok (.aload_n 0, 1) := by decide +kernel
theorem d_CM_cut_19 : decode prog_1_method_5_code 19 = .ok (.getfield 12, 3) := by decide +kernel
theorem d_CM_cut_22 : decode prog_1_method_5_code 22 = .ok (.getfield 61, 3) := by decide +kernel
theorem d_CM_cut_25 : decode prog_1_method_5_code 25 = .ok (.istore_n 2, 1) := by decide +kernel
theorem d_CM_cut_26 : decode prog_1_method_5_code 26 = .ok (.aload_n 0, 1) := by decide +kernel
theorem d_CM_cut_27 : decode prog_1_method_5_code 27 = .ok (.getfield 12, 3) := by decide +kernel
theorem d_CM_cut_30 : decode prog_1_method_5_code 30 = .ok (.iload_n 1, 1) := by decide +kernel
theorem d_CM_cut_31 : decode prog_1_method_5_code 31 = .ok (.putfield 61, 3) := by decide +kernel
theorem d_CM_cut_34 : decode prog_1_method_5_code 34 = .ok (.iload_n 2, 1) := by decide +kernel
theorem d_CM_cut_35 : decode prog_1_method_5_code 35 = .ok (.ireturn, 1) := by decide +kernel
abbrev rm_CM_cut : Room := { frames := 0, cells := 0, slots := 0, locals := 0 }
set_option maxHeartbeats 4000000 in
set_option maxRecDepth 100000 in
theorem c_CM_cut (l : Launch) (D : va_G) (cs : Nat → ClassId) (ad : Nat → Nat) (zt : Nat) (hi : cm_inj ad) (c I : Wo) (h : cmR c I) (n : Int) (h_n : -2147483648 ≤ n ∧ n < 2147483648) : cm_C l D cs ad zt y_CM_cut ws_CM_cut rm_CM_cut [.ref (ad 0), .int (zi n)] I (mk_pi (fun r J => r = an_cut c n ∧ cmR (nw_cut c n) J)) := by
  refine mk_meti (own := "CanonMaker") (Ts := wA) hi (Nat.le_refl _) (by decide) rfl (fun w h => List.mem_cons_of_mem _ h) rfl (Nat.le_of_ble_eq_true rfl) [(0, .ref (ad 0)), (1, .int (zi n))] rfl ?_
  intro p_ e_ s_ m_ as_ bl_ me_ co_ Q_ X hret
  obtain ⟨⟨⟨hn, hN⟩, ⟨hlo, hsc, hbt, hru, hrd, hst⟩, ⟨hV, hV0⟩, ⟨hfc, hF⟩⟩, ⟨i12, iN⟩, ⟨⟨i50, i51, i52, i53, i54⟩, i07, i09⟩, iV, ⟨i010, iF⟩⟩ := id h
  refine mk_iloadn (nx := 1) X 1 d_CM_cut_0 rfl rfl ?_
  refine mk_if_lt (tgt := 15) (nx := 4) X d_CM_cut_1 (by omega) (by decide) rfl (fun c1 => ?_) (fun c1 => ?_)
  · skip
    refine mk_bipush (nx := 17) X d_CM_cut_15 (by decide) rfl ?_
    exact hret _ _ _ _ d_CM_cut_17 (by exact ⟨by rw [an_cut, if_pos (by omega)], by rw [nw_cut, if_pos (by omega)]; exact h⟩)
  · skip
    refine mk_iloadn (nx := 5) X 1 d_CM_cut_4 rfl rfl ?_
    refine mk_aloadn (nx := 6) X 0 d_CM_cut_5 rfl rfl ?_
    refine mk_get (nx := 9) (v := .ref (ad 1)) X 0 (by decide) (sh_CM cs ad _) rfl in_CM 0 (by decide) wd_287 rfl rfl d_CM_cut_6 rfl ?_
    refine mk_get (nx := 12) (v := .int (zi (I 1 2))) X 1 (by decide) (sh_Subject cs ad _) rfl in_Subject 2 (by decide) wd_71 rfl rfl d_CM_cut_9 rfl ?_
    refine mk_icmp_le (tgt := 18) (nx := 15) X d_CM_cut_12 (by omega) (by omega) (by decide) rfl (fun c12 => ?_) (fun c12 => ?_)
    · skip
      refine mk_aloadn (nx := 19) X 0 d_CM_cut_18 rfl rfl ?_
      refine mk_get (nx := 22) (v := .ref (ad 1)) X 0 (by decide) (sh_CM cs ad _) rfl in_CM 0 (by decide) wd_287 rfl rfl d_CM_cut_19 rfl ?_
      refine mk_get (nx := 25) (v := .int (zi (I 1 2))) X 1 (by decide) (sh_Subject cs ad _) rfl in_Subject 2 (by decide) wd_71 rfl rfl d_CM_cut_22 rfl ?_
      refine mk_istoren (nx := 26) X [(2, .int (zi (I 1 2))), (0, .ref (ad 0)), (1, .int (zi n))] d_CM_cut_25 (by decide) rfl rfl ?_
      refine mk_aloadn (nx := 27) X 1 d_CM_cut_26 rfl rfl ?_
      refine mk_get (nx := 30) (v := .ref (ad 1)) X 0 (by decide) (sh_CM cs ad _) rfl in_CM 0 (by decide) wd_287 rfl rfl d_CM_cut_27 rfl ?_
      refine mk_iloadn (nx := 31) X 2 d_CM_cut_30 rfl rfl ?_
      refine mk_putf (nx := 34) (ty := .int) X t_Subject t_Subject_ok n_Subject 1 (by decide) (sh_Subject cs ad _) rfl in_Subject 2 (by decide) wd_71 rfl rfl (by decide +kernel) rfl rfl (Nat.le_of_ble_eq_true rfl) ((sh_Subject cs ad _).trans rfl) d_CM_cut_31 rfl ?_
      obtain ⟨J1, hJ1⟩ : ∃ z, z = up2 I 1 2 n := ⟨_, rfl⟩
      refine mk_same hJ1.symm ?_
      have hJ1s : J1 1 2 = n := hJ1 ▸ up2_ss I 1 2 n
      have hJ1o : ∀ a b, (a ≠ 1 ∨ b ≠ 2) → J1 a b = I a b := hJ1 ▸ up2_o I 1 2 n
      refine mk_iloadn (nx := 35) X 0 d_CM_cut_34 rfl rfl ?_
      exact hret _ _ _ _ d_CM_cut_35 (by exact ⟨by rw [an_cut, if_neg (by omega)]; omega, by rw [nw_cut, if_neg (by omega), hJ1]; exact cm_s_cut h (by omega)⟩)
    · skip
      refine mk_bipush (nx := 17) X d_CM_cut_15 (by decide) rfl ?_
      exact hret _ _ _ _ d_CM_cut_17 (by exact ⟨by rw [an_cut, if_pos (by omega)], by rw [nw_cut, if_pos (by omega)]; exact h⟩)

-- CanonMaker.size()I
theorem d_CM_size_0 : decode prog_1_method_6_code 0 = .ok (.aload_n 0, 1) := by decide +kernel
theorem d_CM_size_1 : decode prog_1_method_6_code 1 = .ok (.getfield 12, 3) := by decide +kernel
theorem d_CM_size_4 : decode prog_1_method_6_code 4 = .ok (.invokevirtual 74, 3) := by decide +kernel
theorem d_CM_size_7 : decode prog_1_method_6_code 7 = .ok (.ireturn, 1) := by decide +kernel
abbrev rm_CM_size : Room := { frames := 1, cells := 0, slots := 0, locals := 22 }
set_option maxHeartbeats 4000000 in
set_option maxRecDepth 100000 in
theorem c_CM_size (l : Launch) (D : va_G) (cs : Nat → ClassId) (ad : Nat → Nat) (zt : Nat) (hi : cm_inj ad) (c I : Wo) (h : cmR c I)  : cm_C l D cs ad zt y_CM_size ws_CM_size rm_CM_size [.ref (ad 0)] I (mk_pi (fun r J => r = an_size c ∧ cmR c J)) := by
  refine mk_meti (own := "CanonMaker") (Ts := wA) hi (Nat.le_refl _) (by decide) rfl (fun w h => List.mem_cons_of_mem _ h) rfl (Nat.le_of_ble_eq_true rfl) [(0, .ref (ad 0))] rfl ?_
  intro p_ e_ s_ m_ as_ bl_ me_ co_ Q_ X hret
  obtain ⟨⟨⟨hn, hN⟩, ⟨hlo, hsc, hbt, hru, hrd, hst⟩, ⟨hV, hV0⟩, ⟨hfc, hF⟩⟩, ⟨i12, iN⟩, ⟨⟨i50, i51, i52, i53, i54⟩, i07, i09⟩, iV, ⟨i010, iF⟩⟩ := id h
  refine mk_aloadn (nx := 1) X 0 d_CM_size_0 rfl rfl ?_
  refine mk_get (nx := 4) (v := .ref (ad 1)) X 0 (by decide) (sh_CM cs ad _) rfl in_CM 0 (by decide) wd_287 rfl rfl d_CM_size_1 rfl ?_
  refine mk_callVi (nx := 7) (n := 0) (As := []) (rest := []) X 1 (by decide) (sh_Subject cs ad _) rfl (c_Subject_units l D cs ad zt hi c I h.1.1 h.2.1) (g_Subject_units wd_348) rfl ⟨rfl, rfl⟩ (by decide +kernel) ⟨by decide, by decide⟩ rfl (Nat.le_of_ble_eq_true rfl) rfl d_CM_size_4 rfl ?_
  intro r4 J1 hJ1
  obtain ⟨rfl, rfl⟩ := hJ1
  exact hret _ _ _ _ d_CM_size_7 (by exact ⟨rfl, h⟩)

-- CanonMaker.voice(IIIII)I
theorem d_CM_voice_0 : decode prog_1_method_7_code 0 = .ok (.iload_n 1, 1) := by decide +kernel
theorem d_CM_voice_1 : decode prog_1_method_7_code 1 = .ok (.invokestatic 78, 3) := by decide +kernel
theorem d_CM_voice_4 : decode prog_1_method_7_code 4 = .ok (.ifCond .ne 5, 3) := by decide +kernel
theorem d_CM_voice_7 : decode prog_1_method_7_code 7 = .ok (.iconst (-1), 1) := by decide +kernel
theorem d_CM_voice_8 : decode prog_1_method_7_code 8 = .ok (.ireturn, 1) := by decide +kernel
theorem d_CM_voice_9 : decode prog_1_method_7_code 9 = .ok (.iload_n 2, 1) := by decide +kernel
theorem d_CM_voice_10 : decode prog_1_method_7_code 10 = .ok (.ifCond .lt 21, 3) := by decide +kernel
theorem d_CM_voice_13 : decode prog_1_method_7_code 13 = .ok (.iload_n 2, 1) := by decide +kernel
theorem d_CM_voice_14 : decode prog_1_method_7_code 14 = .ok (.bipush 100, 2) := by decide +kernel
theorem d_CM_voice_16 : decode prog_1_method_7_code 16 = .ok (.if_icmp .gt 15, 3) := by decide +kernel
theorem d_CM_voice_19 : decode prog_1_method_7_code 19 = .ok (.iload_n 3, 1) := by decide +kernel
theorem d_CM_voice_20 : decode prog_1_method_7_code 20 = .ok (.bipush (-24), 2) := by decide +kernel
theorem d_CM_voice_22 : decode prog_1_method_7_code 22 = .ok (.if_icmp .lt 9, 3) := by decide +kernel
theorem d_CM_voice_25 : decode prog_1_method_7_code 25 = .ok (.iload_n 3, 1) := by decide +kernel
theorem d_CM_voice_26 : decode prog_1_method_7_code 26 = .ok (.bipush 24, 2) := by decide +kernel
theorem d_CM_voice_28 : decode prog_1_method_7_code 28 = .ok (.if_icmp .le 6, 3) := by decide +kernel
theorem d_CM_voice_31 : decode prog_1_method_7_code 31 = .ok (.bipush (-2), 2) := by decide +kernel
theorem d_CM_voice_33 : decode prog_1_method_7_code 33 = .ok (.ireturn, 1) := by decide +kernel
theorem d_CM_voice_34 : decode prog_1_method_7_code 34 = .ok (.iload 4, 2) := by decide +kernel
theorem d_CM_voice_36 : decode prog_1_method_7_code 36 = .ok (.ifCond .lt 21, 3) := by decide +kernel
theorem d_CM_voice_39 : decode prog_1_method_7_code 39 = .ok (.iload 4, 2) := by decide +kernel
theorem d_CM_voice_41 : decode prog_1_method_7_code 41 = .ok (.iconst 3, 1) := by decide +kernel
theorem d_CM_voice_42 : decode prog_1_method_7_code 42 = .ok (.if_icmp .gt 15, 3) := by decide +kernel
theorem d_CM_voice_45 : decode prog_1_method_7_code 45 = .ok (.iload 5, 2) := by decide +kernel
theorem d_CM_voice_47 : decode prog_1_method_7_code 47 = .ok (.iconst 1, 1) := by decide +kernel
theorem d_CM_voice_48 : decode prog_1_method_7_code 48 = .ok (.if_icmp .lt 9, 3) := by decide +kernel
theorem d_CM_voice_51 : decode prog_1_method_7_code 51 = .ok (.iload 5, 2) := by decide +kernel
theorem d_CM_voice_53 : decode prog_1_method_7_code 53 = .ok (.iconst 3, 1) := by decide +kernel
theorem d_CM_voice_54 : decode prog_1_method_7_code 54 = .ok (.if_icmp .le 6, 3) := by decide +kernel
theorem d_CM_voice_57 : decode prog_1_method_7_code 57 = .ok (.bipush (-2), 2) := by decide +kernel
theorem d_CM_voice_59 : decode prog_1_method_7_code 59 = .ok (.ireturn, 1) := by decide +kernel
theorem d_CM_voice_60 : decode prog_1_method_7_code 60 = .ok (.aload_n 0, 1) := by decide +kernel
theorem d_CM_voice_61 : decode prog_1_method_7_code 61 = .ok (.getfield 18, 3) := by decide +kernel
theorem d_CM_voice_64 : decode prog_1_method_7_code 64 = .ok (.iload_n 1, 1) := by decide +kernel
theorem d_CM_voice_65 : decode prog_1_method_7_code 65 = .ok (.aaload, 1) := by decide +kernel
theorem d_CM_voice_66 : decode prog_1_method_7_code 66 = .ok (.astore 6, 2) := by decide +kernel
theorem d_CM_voice_68 : decode prog_1_method_7_code 68 = .ok (.aload 6, 2) := by decide +kernel
theorem d_CM_voice_70 : decode prog_1_method_7_code 70 = .ok (.iconst 1, 1) := by decide +kernel
theorem d_CM_voice_71 : decode prog_1_method_7_code 71 = .ok (.putfield 53, 3) := by decide +kernel
theorem d_CM_voice_74 : decode prog_1_method_7_code 74 = .ok (.aload 6, 2) := by decide +kernel
theorem d_CM_voice_76 : decode prog_1_method_7_code 76 = .ok (.iload_n 2, 1) := by decide +kernel
theorem d_CM_voice_77 : decode prog_1_method_7_code 77 = .ok (.putfield 81, 3) := by decide +kernel
theorem d_CM_voice_80 : decode prog_1_method_7_code 80 = .ok (.aload 6, 2) := by decide +kernel
theorem d_CM_voice_82 : decode prog_1_method_7_code 82 = .ok (.iload_n 3, 1) := by decide +kernel
theorem d_CM_voice_83 : decode prog_1_method_7_code 83 = .ok (.putfield 84, 3) := by decide +kernel
theorem d_CM_voice_86 : decode prog_1_method_7_code 86 = .ok (.aload 6, 2) := by decide +kernel
theorem d_CM_voice_88 : decode prog_1_method_7_code 88 = .ok (.iload 4, 2) := by decide +kernel
theorem d_CM_voice_90 : decode prog_1_method_7_code 90 = .ok (.putfield 87, 3) := by decide +kernel
theorem d_CM_voice_93 : decode prog_1_method_7_code 93 = .ok (.aload 6, 2) := by decide +kernel
theorem d_CM_voice_95 : decode prog_1_method_7_code 95 = .ok (.iload 5, 2) := by decide +kernel
theorem d_CM_voice_97 : decode prog_1_method_7_code 97 = .ok (.putfield 90, 3) := by decide +kernel
theorem d_CM_voice_100 : decode prog_1_method_7_code 100 = .ok (.iconst 1, 1) := by decide +kernel
theorem d_CM_voice_101 : decode prog_1_method_7_code 101 = .ok (.ireturn, 1) := by decide +kernel
abbrev rm_CM_voice : Room := { frames := 1, cells := 0, slots := 0, locals := 20 }
set_option maxHeartbeats 4000000 in
set_option maxRecDepth 100000 in
theorem c_CM_voice (l : Launch) (D : va_G) (cs : Nat → ClassId) (ad : Nat → Nat) (zt : Nat) (hi : cm_inj ad) (c I : Wo) (h : cmR c I) (v : Int) (h_v : -2147483648 ≤ v ∧ v < 2147483648) (d : Int) (h_d : -2147483648 ≤ d ∧ d < 2147483648) (i : Int) (h_i : -2147483648 ≤ i ∧ i < 2147483648) (m : Int) (h_m : -2147483648 ≤ m ∧ m < 2147483648) (f : Int) (h_f : -2147483648 ≤ f ∧ f < 2147483648) : cm_C l D cs ad zt y_CM_voice ws_CM_voice rm_CM_voice [.ref (ad 0), .int (zi v), .int (zi d), .int (zi i), .int (zi m), .int (zi f)] I (mk_pi (fun r J => r = an_voice v d i m f ∧ cmR (nw_voice c v d i m f) J)) := by
  refine mk_meti (own := "CanonMaker") (Ts := wA) hi (Nat.le_refl _) (by decide) rfl (fun w h => List.mem_cons_of_mem _ h) rfl (Nat.le_of_ble_eq_true rfl) [(0, .ref (ad 0)), (1, .int (zi v)), (2, .int (zi d)), (3, .int (zi i)), (4, .int (zi m)), (5, .int (zi f))] rfl ?_
  intro p_ e_ s_ m_ as_ bl_ me_ co_ Q_ X hret
  obtain ⟨⟨⟨hn, hN⟩, ⟨hlo, hsc, hbt, hru, hrd, hst⟩, ⟨hV, hV0⟩, ⟨hfc, hF⟩⟩, ⟨i12, iN⟩, ⟨⟨i50, i51, i52, i53, i54⟩, i07, i09⟩, iV, ⟨i010, iF⟩⟩ := id h
  refine mk_iloadn (nx := 1) X 1 d_CM_voice_0 rfl rfl ?_
  refine mk_callSi (nx := 4) (n := 1) (As := [.int (zi v)]) (rest := []) X (c_CM_isFollower l D cs ad zt hi I v (by omega)) (g_CM_isFollower wd_356) rfl ⟨rfl, rfl⟩ (by decide +kernel) ⟨by decide, by decide⟩ rfl (Nat.le_of_ble_eq_true rfl) rfl d_CM_voice_1 rfl ?_
  intro r1 J1 hJ1
  obtain ⟨rfl, hr1⟩ := hJ1
  refine mk_if_ne (tgt := 9) (nx := 7) X d_CM_voice_4 (by omega) (by decide) rfl (fun c4 => ?_) (fun c4 => ?_)
  · skip
    refine mk_iloadn (nx := 10) X 2 d_CM_voice_9 rfl rfl ?_
    refine mk_if_lt (tgt := 31) (nx := 13) X d_CM_voice_10 (by omega) (by decide) rfl (fun c10 => ?_) (fun c10 => ?_)
    · skip
      refine mk_bipush (nx := 33) X d_CM_voice_31 (by decide) rfl ?_
      exact hret _ _ _ _ d_CM_voice_33 (by exact ⟨by rw [an_voice, if_neg (by omega), if_pos (by omega)], by rw [nw_voice, if_neg (by omega), if_pos (by omega)]; exact h⟩)
    · skip
      refine mk_iloadn (nx := 14) X 2 d_CM_voice_13 rfl rfl ?_
      refine mk_bipush (nx := 16) X d_CM_voice_14 (by decide) rfl ?_
      refine mk_icmp_gt (tgt := 31) (nx := 19) X d_CM_voice_16 (by omega) (by omega) (by decide) rfl (fun c16 => ?_) (fun c16 => ?_)
      · skip
        refine mk_bipush (nx := 33) X d_CM_voice_31 (by decide) rfl ?_
        exact hret _ _ _ _ d_CM_voice_33 (by exact ⟨by rw [an_voice, if_neg (by omega), if_pos (by omega)], by rw [nw_voice, if_neg (by omega), if_pos (by omega)]; exact h⟩)
      · skip
        refine mk_iloadn (nx := 20) X 3 d_CM_voice_19 rfl rfl ?_
        refine mk_bipush (nx := 22) X d_CM_voice_20 (by decide) rfl ?_
        refine mk_icmp_lt (tgt := 31) (nx := 25) X d_CM_voice_22 (by omega) (by omega) (by decide) rfl (fun c22 => ?_) (fun c22 => ?_)
        · skip
          refine mk_bipush (nx := 33) X d_CM_voice_31 (by decide) rfl ?_
          exact hret _ _ _ _ d_CM_voice_33 (by exact ⟨by rw [an_voice, if_neg (by omega), if_pos (by omega)], by rw [nw_voice, if_neg (by omega), if_pos (by omega)]; exact h⟩)
        · skip
          refine mk_iloadn (nx := 26) X 3 d_CM_voice_25 rfl rfl ?_
          refine mk_bipush (nx := 28) X d_CM_voice_26 (by decide) rfl ?_
          refine mk_icmp_le (tgt := 34) (nx := 31) X d_CM_voice_28 (by omega) (by omega) (by decide) rfl (fun c28 => ?_) (fun c28 => ?_)
          · skip
            refine mk_iload (nx := 36) X 4 d_CM_voice_34 rfl rfl ?_
            refine mk_if_lt (tgt := 57) (nx := 39) X d_CM_voice_36 (by omega) (by decide) rfl (fun c36 => ?_) (fun c36 => ?_)
            · skip
              refine mk_bipush (nx := 59) X d_CM_voice_57 (by decide) rfl ?_
              exact hret _ _ _ _ d_CM_voice_59 (by exact ⟨by rw [an_voice, if_neg (by omega), if_pos (by omega)], by rw [nw_voice, if_neg (by omega), if_pos (by omega)]; exact h⟩)
            · skip
              refine mk_iload (nx := 41) X 4 d_CM_voice_39 rfl rfl ?_
              refine mk_iconst (nx := 42) X d_CM_voice_41 rfl ?_
              refine mk_icmp_gt (tgt := 57) (nx := 45) X d_CM_voice_42 (by omega) (by omega) (by decide) rfl (fun c42 => ?_) (fun c42 => ?_)
              · skip
                refine mk_bipush (nx := 59) X d_CM_voice_57 (by decide) rfl ?_
                exact hret _ _ _ _ d_CM_voice_59 (by exact ⟨by rw [an_voice, if_neg (by omega), if_pos (by omega)], by rw [nw_voice, if_neg (by omega), if_pos (by omega)]; exact h⟩)
              · skip
                refine mk_iload (nx := 47) X 5 d_CM_voice_45 rfl rfl ?_
                refine mk_iconst (nx := 48) X d_CM_voice_47 rfl ?_
                refine mk_icmp_lt (tgt := 57) (nx := 51) X d_CM_voice_48 (by omega) (by omega) (by decide) rfl (fun c48 => ?_) (fun c48 => ?_)
                · skip
                  refine mk_bipush (nx := 59) X d_CM_voice_57 (by decide) rfl ?_
                  exact hret _ _ _ _ d_CM_voice_59 (by exact ⟨by rw [an_voice, if_neg (by omega), if_pos (by omega)], by rw [nw_voice, if_neg (by omega), if_pos (by omega)]; exact h⟩)
                · skip
                  refine mk_iload (nx := 53) X 5 d_CM_voice_51 rfl rfl ?_
                  refine mk_iconst (nx := 54) X d_CM_voice_53 rfl ?_
                  refine mk_icmp_le (tgt := 60) (nx := 57) X d_CM_voice_54 (by omega) (by omega) (by decide) rfl (fun c54 => ?_) (fun c54 => ?_)
                  · skip
                    refine mk_aloadn (nx := 61) X 0 d_CM_voice_60 rfl rfl ?_
                    refine mk_get (nx := 64) (v := .ref (ad 4)) X 0 (by decide) (sh_CM cs ad _) rfl in_CM 1 (by decide) wd_288 rfl rfl d_CM_voice_61 rfl ?_
                    refine mk_iloadn (nx := 65) X 1 d_CM_voice_64 rfl rfl ?_
                    refine mk_aald (nx := 66) (j := v.toNat) X 4 2 (by decide) (sh_voices cs ad _) rfl (by omega) (by omega) (by decide) rfl rfl d_CM_voice_65 rfl ?_
                    refine mk_astore (nx := 68) X [(6, .ref (ad (44 + v.toNat))), (0, .ref (ad 0)), (1, .int (zi v)), (2, .int (zi d)), (3, .int (zi i)), (4, .int (zi m)), (5, .int (zi f))] d_CM_voice_66 (by decide) rfl rfl ?_
                    refine mk_aload (nx := 70) X 0 d_CM_voice_68 rfl rfl ?_
                    refine mk_iconst (nx := 71) X d_CM_voice_70 rfl ?_
                    refine mk_putf (nx := 74) (ty := .boolean) X t_Voice t_Voice_ok n_Voice (44 + v.toNat) (by omega) (sh_Voice cs ad (show v.toNat < 4 by omega) _) rfl in_Voice 0 (by decide) wd_265 rfl rfl (by decide +kernel) (zi_nb (by omega)) (zi_fb (by omega)) (Nat.le_of_ble_eq_true rfl) ((sh_Voice cs ad (show v.toNat < 4 by omega) _).trans rfl) d_CM_voice_71 rfl ?_
                    obtain ⟨J2, hJ2⟩ : ∃ z, z = up2 I (44 + v.toNat) 0 1 := ⟨_, rfl⟩
                    refine mk_same hJ2.symm ?_
                    have hJ2s : J2 (44 + v.toNat) 0 = 1 := hJ2 ▸ up2_ss I (44 + v.toNat) 0 1
                    have hJ2o : ∀ a b, (a ≠ (44 + v.toNat) ∨ b ≠ 0) → J2 a b = I a b := hJ2 ▸ up2_o I (44 + v.toNat) 0 1
                    refine mk_aload (nx := 76) X 0 d_CM_voice_74 rfl rfl ?_
                    refine mk_iloadn (nx := 77) X 3 d_CM_voice_76 rfl rfl ?_
                    refine mk_putf (nx := 80) (ty := .int) X t_Voice t_Voice_ok n_Voice (44 + v.toNat) (by omega) (sh_Voice cs ad (show v.toNat < 4 by omega) _) rfl in_Voice 1 (by decide) wd_268 rfl rfl (by decide +kernel) rfl rfl (Nat.le_of_ble_eq_true rfl) ((sh_Voice cs ad (show v.toNat < 4 by omega) _).trans rfl) d_CM_voice_77 rfl ?_
                    obtain ⟨J3, hJ3⟩ : ∃ z, z = up2 J2 (44 + v.toNat) 1 d := ⟨_, rfl⟩
                    refine mk_same hJ3.symm ?_
                    have hJ3s : J3 (44 + v.toNat) 1 = d := hJ3 ▸ up2_ss J2 (44 + v.toNat) 1 d
                    have hJ3o : ∀ a b, (a ≠ (44 + v.toNat) ∨ b ≠ 1) → J3 a b = J2 a b := hJ3 ▸ up2_o J2 (44 + v.toNat) 1 d
                    refine mk_aload (nx := 82) X 0 d_CM_voice_80 rfl rfl ?_
                    refine mk_iloadn (nx := 83) X 4 d_CM_voice_82 rfl rfl ?_
                    refine mk_putf (nx := 86) (ty := .int) X t_Voice t_Voice_ok n_Voice (44 + v.toNat) (by omega) (sh_Voice cs ad (show v.toNat < 4 by omega) _) rfl in_Voice 2 (by decide) wd_270 rfl rfl (by decide +kernel) rfl rfl (Nat.le_of_ble_eq_true rfl) ((sh_Voice cs ad (show v.toNat < 4 by omega) _).trans rfl) d_CM_voice_83 rfl ?_
                    obtain ⟨J4, hJ4⟩ : ∃ z, z = up2 J3 (44 + v.toNat) 2 i := ⟨_, rfl⟩
                    refine mk_same hJ4.symm ?_
                    have hJ4s : J4 (44 + v.toNat) 2 = i := hJ4 ▸ up2_ss J3 (44 + v.toNat) 2 i
                    have hJ4o : ∀ a b, (a ≠ (44 + v.toNat) ∨ b ≠ 2) → J4 a b = J3 a b := hJ4 ▸ up2_o J3 (44 + v.toNat) 2 i
                    refine mk_aload (nx := 88) X 0 d_CM_voice_86 rfl rfl ?_
                    refine mk_iload (nx := 90) X 5 d_CM_voice_88 rfl rfl ?_
                    refine mk_putf (nx := 93) (ty := .int) X t_Voice t_Voice_ok n_Voice (44 + v.toNat) (by omega) (sh_Voice cs ad (show v.toNat < 4 by omega) _) rfl in_Voice 3 (by decide) wd_272 rfl rfl (by decide +kernel) rfl rfl (Nat.le_of_ble_eq_true rfl) ((sh_Voice cs ad (show v.toNat < 4 by omega) _).trans rfl) d_CM_voice_90 rfl ?_
                    obtain ⟨J5, hJ5⟩ : ∃ z, z = up2 J4 (44 + v.toNat) 3 m := ⟨_, rfl⟩
                    refine mk_same hJ5.symm ?_
                    have hJ5s : J5 (44 + v.toNat) 3 = m := hJ5 ▸ up2_ss J4 (44 + v.toNat) 3 m
                    have hJ5o : ∀ a b, (a ≠ (44 + v.toNat) ∨ b ≠ 3) → J5 a b = J4 a b := hJ5 ▸ up2_o J4 (44 + v.toNat) 3 m
                    refine mk_aload (nx := 95) X 0 d_CM_voice_93 rfl rfl ?_
                    refine mk_iload (nx := 97) X 6 d_CM_voice_95 rfl rfl ?_
                    refine mk_putf (nx := 100) (ty := .int) X t_Voice t_Voice_ok n_Voice (44 + v.toNat) (by omega) (sh_Voice cs ad (show v.toNat < 4 by omega) _) rfl in_Voice 4 (by decide) wd_275 rfl rfl (by decide +kernel) rfl rfl (Nat.le_of_ble_eq_true rfl) ((sh_Voice cs ad (show v.toNat < 4 by omega) _).trans rfl) d_CM_voice_97 rfl ?_
                    obtain ⟨J6, hJ6⟩ : ∃ z, z = up2 J5 (44 + v.toNat) 4 f := ⟨_, rfl⟩
                    refine mk_same hJ6.symm ?_
                    have hJ6s : J6 (44 + v.toNat) 4 = f := hJ6 ▸ up2_ss J5 (44 + v.toNat) 4 f
                    have hJ6o : ∀ a b, (a ≠ (44 + v.toNat) ∨ b ≠ 4) → J6 a b = J5 a b := hJ6 ▸ up2_o J5 (44 + v.toNat) 4 f
                    refine mk_iconst (nx := 101) X d_CM_voice_100 rfl ?_
                    exact hret _ _ _ _ d_CM_voice_101 (by exact ⟨by rw [an_voice, if_neg (by omega), if_neg (by omega)]; try rfl, by rw [nw_voice, if_neg (by omega), if_neg (by omega), hJ6, hJ5, hJ4, hJ3, hJ2]; exact cm_s_voice h (by omega) (by omega) (by omega) (by omega) (by omega)⟩)
                  · skip
                    refine mk_bipush (nx := 59) X d_CM_voice_57 (by decide) rfl ?_
                    exact hret _ _ _ _ d_CM_voice_59 (by exact ⟨by rw [an_voice, if_neg (by omega), if_pos (by omega)], by rw [nw_voice, if_neg (by omega), if_pos (by omega)]; exact h⟩)
          · skip
            refine mk_bipush (nx := 33) X d_CM_voice_31 (by decide) rfl ?_
            exact hret _ _ _ _ d_CM_voice_33 (by exact ⟨by rw [an_voice, if_neg (by omega), if_pos (by omega)], by rw [nw_voice, if_neg (by omega), if_pos (by omega)]; exact h⟩)
  · skip
    refine mk_iconst (nx := 8) X d_CM_voice_7 rfl ?_
    exact hret _ _ _ _ d_CM_voice_8 (by exact ⟨by rw [an_voice, if_pos (by omega)], by rw [nw_voice, if_pos (by omega)]; exact h⟩)

-- CanonMaker.off(I)I
theorem d_CM_off_0 : decode prog_1_method_8_code 0 = .ok (.iload_n 1, 1) := by decide +kernel
theorem d_CM_off_1 : decode prog_1_method_8_code 1 = .ok (.invokestatic 78, 3) := by decide +kernel
theorem d_CM_off_4 : decode prog_1_method_8_code 4 = .ok (.ifCond .ne 5, 3) := by decide +kernel
theorem d_CM_off_7 : decode prog_1_method_8_code 7 = .ok (.iconst (-1), 1) := by decide +kernel
theorem d_CM_off_8 : decode prog_1_method_8_code 8 = .ok (.ireturn, 1) := by decide +kernel
theorem d_CM_off_9 : decode prog_1_method_8_code 9 = .ok (.aload_n 0, 1) := by decide +kernel
theorem d_CM_off_10 : decode prog_1_method_8_code 10 = .ok (.getfield 18, 3) := by decide +kernel
theorem d_CM_off_13 : decode prog_1_method_8_code 13 = .ok (.iload_n 1, 1) := by decide +kernel
theorem d_CM_off_14 : decode prog_1_method_8_code 14 = .ok (.aaload, 1) := by decide +kernel
theorem d_CM_off_15 : decode prog_1_method_8_code 15 = .ok (.getfield 53, 3) := by decide +kernel
theorem d_CM_off_18 : decode prog_1_method_8_code 18 = .ok (.istore_n 2, 1) := by decide +kernel
theorem d_CM_off_19 : decode prog_1_method_8_code 19 = .ok (.aload_n 0, 1) := by decide +kernel
theorem d_CM_off_20 : decode prog_1_method_8_code 20 = .ok (.getfield 18, 3) := by decide +kernel
theorem d_CM_off_23 : decode prog_1_method_8_code 23 = .ok (.iload_n 1, 1) := by decide +kernel
theorem d_CM_off_24 : decode prog_1_method_8_code 24 = .ok (.aaload, 1) := by decide +kernel
theorem d_CM_off_25 : decode prog_1_method_8_code 25 = .ok (.iconst 0, 1) := by decide +kernel
theorem d_CM_off_26 : decode prog_1_method_8_code 26 = .ok (.putfield 53, 3) := by decide +kernel
theorem d_CM_off_29 : decode prog_1_method_8_code 29 = .ok (.iload_n 2, 1) := by decide +kernel
theorem d_CM_off_30 : decode prog_1_method_8_code 30 = .ok (.ifCond .eq 7, 3) := by decide +kernel
theorem d_CM_off_33 : decode prog_1_method_8_code 33 = .ok (.iconst 1, 1) := by decide +kernel
theorem d_CM_off_34 : decode prog_1_method_8_code 34 = .ok (.goto 4, 3) := by decide +kernel
theorem d_CM_off_37 : decode prog_1_method_8_code 37 = .ok (.iconst 0, 1) := by decide +kernel
theorem d_CM_off_38 : decode prog_1_method_8_code 38 = .ok (.ireturn, 1) := by decide +kernel
abbrev rm_CM_off : Room := { frames := 1, cells := 0, slots := 0, locals := 20 }
set_option maxHeartbeats 4000000 in
set_option maxRecDepth 100000 in
theorem c_CM_off (l : Launch) (D : va_G) (cs : Nat → ClassId) (ad : Nat → Nat) (zt : Nat) (hi : cm_inj ad) (c I : Wo) (h : cmR c I) (v : Int) (h_v : -2147483648 ≤ v ∧ v < 2147483648) : cm_C l D cs ad zt y_CM_off ws_CM_off rm_CM_off [.ref (ad 0), .int (zi v)] I (mk_pi (fun r J => r = an_off c v ∧ cmR (nw_off c v) J)) := by
  refine mk_meti (own := "CanonMaker") (Ts := wA) hi (Nat.le_refl _) (by decide) rfl (fun w h => List.mem_cons_of_mem _ h) rfl (Nat.le_of_ble_eq_true rfl) [(0, .ref (ad 0)), (1, .int (zi v))] rfl ?_
  intro p_ e_ s_ m_ as_ bl_ me_ co_ Q_ X hret
  obtain ⟨⟨⟨hn, hN⟩, ⟨hlo, hsc, hbt, hru, hrd, hst⟩, ⟨hV, hV0⟩, ⟨hfc, hF⟩⟩, ⟨i12, iN⟩, ⟨⟨i50, i51, i52, i53, i54⟩, i07, i09⟩, iV, ⟨i010, iF⟩⟩ := id h
  refine mk_iloadn (nx := 1) X 1 d_CM_off_0 rfl rfl ?_
  refine mk_callSi (nx := 4) (n := 1) (As := [.int (zi v)]) (rest := []) X (c_CM_isFollower l D cs ad zt hi I v (by omega)) (g_CM_isFollower wd_356) rfl ⟨rfl, rfl⟩ (by decide +kernel) ⟨by decide, by decide⟩ rfl (Nat.le_of_ble_eq_true rfl) rfl d_CM_off_1 rfl ?_
  intro r1 J1 hJ1
  obtain ⟨rfl, hr1⟩ := hJ1
  refine mk_if_ne (tgt := 9) (nx := 7) X d_CM_off_4 (by omega) (by decide) rfl (fun c4 => ?_) (fun c4 => ?_)
  · skip
    have hv4 := iV v.toNat (by omega)
    have hv5 := hV v.toNat (by omega)
    refine mk_aloadn (nx := 10) X 0 d_CM_off_9 rfl rfl ?_
    refine mk_get (nx := 13) (v := .ref (ad 4)) X 0 (by decide) (sh_CM cs ad _) rfl in_CM 1 (by decide) wd_288 rfl rfl d_CM_off_10 rfl ?_
    refine mk_iloadn (nx := 14) X 1 d_CM_off_13 rfl rfl ?_
    refine mk_aald (nx := 15) (j := v.toNat) X 4 2 (by decide) (sh_voices cs ad _) rfl (by omega) (by omega) (by decide) rfl rfl d_CM_off_14 rfl ?_
    refine mk_get (nx := 18) (v := .int (zi (I (44 + v.toNat) 0))) X (44 + v.toNat) (by omega) (sh_Voice cs ad (show v.toNat < 4 by omega) _) rfl in_Voice 0 (by decide) wd_265 rfl rfl d_CM_off_15 rfl ?_
    refine mk_istoren (nx := 19) X [(2, .int (zi (I (44 + v.toNat) 0))), (0, .ref (ad 0)), (1, .int (zi v))] d_CM_off_18 (by decide) rfl rfl ?_
    refine mk_aloadn (nx := 20) X 1 d_CM_off_19 rfl rfl ?_
    refine mk_get (nx := 23) (v := .ref (ad 4)) X 0 (by decide) (sh_CM cs ad _) rfl in_CM 1 (by decide) wd_288 rfl rfl d_CM_off_20 rfl ?_
    refine mk_iloadn (nx := 24) X 2 d_CM_off_23 rfl rfl ?_
    refine mk_aald (nx := 25) (j := v.toNat) X 4 2 (by decide) (sh_voices cs ad _) rfl (by omega) (by omega) (by decide) rfl rfl d_CM_off_24 rfl ?_
    refine mk_iconst (nx := 26) X d_CM_off_25 rfl ?_
    refine mk_putf (nx := 29) (ty := .boolean) X t_Voice t_Voice_ok n_Voice (44 + v.toNat) (by omega) (sh_Voice cs ad (show v.toNat < 4 by omega) _) rfl in_Voice 0 (by decide) wd_265 rfl rfl (by decide +kernel) (zi_nb (by omega)) (zi_fb (by omega)) (Nat.le_of_ble_eq_true rfl) ((sh_Voice cs ad (show v.toNat < 4 by omega) _).trans rfl) d_CM_off_26 rfl ?_
    obtain ⟨J2, hJ2⟩ : ∃ z, z = up2 I (44 + v.toNat) 0 0 := ⟨_, rfl⟩
    refine mk_same hJ2.symm ?_
    have hJ2s : J2 (44 + v.toNat) 0 = 0 := hJ2 ▸ up2_ss I (44 + v.toNat) 0 0
    have hJ2o : ∀ a b, (a ≠ (44 + v.toNat) ∨ b ≠ 0) → J2 a b = I a b := hJ2 ▸ up2_o I (44 + v.toNat) 0 0
    refine mk_iloadn (nx := 30) X 0 d_CM_off_29 rfl rfl ?_
    refine mk_if_eq (tgt := 37) (nx := 33) X d_CM_off_30 (by omega) (by decide) rfl (fun c30 => ?_) (fun c30 => ?_)
    · skip
      refine mk_iconst (nx := 38) X d_CM_off_37 rfl ?_
      exact hret _ _ _ _ d_CM_off_38 (by exact ⟨by rw [an_off, if_neg (by omega)]; omega, by rw [nw_off, if_neg (by omega), hJ2]; exact cm_s_off h (by omega)⟩)
    · skip
      refine mk_iconst (nx := 34) X d_CM_off_33 rfl ?_
      refine mk_goto (tgt := 38) X d_CM_off_34 (by decide) ?_
      exact hret _ _ _ _ d_CM_off_38 (by exact ⟨by rw [an_off, if_neg (by omega)]; omega, by rw [nw_off, if_neg (by omega), hJ2]; exact cm_s_off h (by omega)⟩)
  · skip
    refine mk_iconst (nx := 8) X d_CM_off_7 rfl ?_
    exact hret _ _ _ _ d_CM_off_8 (by exact ⟨by rw [an_off, if_pos (by omega)], by rw [nw_off, if_pos (by omega)]; exact h⟩)

-- CanonMaker.span(II)I
theorem d_CM_span_0 : decode prog_1_method_9_code 0 = .ok (.iload_n 1, 1) := by decide +kernel
theorem d_CM_span_1 : decode prog_1_method_9_code 1 = .ok (.ifCond .lt 14, 3) := by decide +kernel
theorem d_CM_span_4 : decode prog_1_method_9_code 4 = .ok (.iload_n 2, 1) := by decide +kernel
theorem d_CM_span_5 : decode prog_1_method_9_code 5 = .ok (.bipush 127, 2) := by decide +kernel
theorem d_CM_span_7 : decode prog_1_method_9_code 7 = .ok (.if_icmp .gt 8, 3) := by decide +kernel
theorem d_CM_span_10 : decode prog_1_method_9_code 10 = .ok (.iload_n 1, 1) := by decide +kernel
theorem d_CM_span_11 : decode prog_1_method_9_code 11 = .ok (.iload_n 2, 1) := by decide +kernel
theorem d_CM_span_12 : decode prog_1_method_9_code 12 = .ok (.if_icmp .le 6, 3) := by decide +kernel
theorem d_CM_span_15 : decode prog_1_method_9_code 15 = .ok (.bipush (-2), 2) := by decide +kernel
theorem d_CM_span_17 : decode prog_1_method_9_code 17 = .ok (.ireturn, 1) := by decide +kernel
theorem d_CM_span_18 : decode prog_1_method_9_code 18 = .ok (.aload_n 0, 1) := by decide +kernel
theorem d_CM_span_19 : decode prog_1_method_9_code 19 = .ok (.getfield 25, 3) := by decide +kernel
theorem d_CM_span_22 : decode prog_1_method_9_code 22 = .ok (.iload_n 1, 1) := by decide +kernel
theorem d_CM_span_23 : decode prog_1_method_9_code 23 = .ok (.putfield 93, 3) := by decide +kernel
theorem d_CM_span_26 : decode prog_1_method_9_code 26 = .ok (.aload_n 0, 1) := by decide +kernel
theorem d_CM_span_27 : decode prog_1_method_9_code 27 = .ok (.getfield 25, 3) := by decide +kernel
theorem d_CM_span_30 : decode prog_1_method_9_code 30 = .ok (.iload_n 2, 1) := by decide +kernel
theorem d_CM_span_31 : decode prog_1_method_9_code 31 = .ok (.putfield 96, 3) := by decide +kernel
theorem d_CM_span_34 : decode prog_1_method_9_code 34 = .ok (.iconst 1, 1) := by decide +kernel
theorem d_CM_span_35 : decode prog_1_method_9_code 35 = .ok (.ireturn, 1) := by decide +kernel
abbrev rm_CM_span : Room := { frames := 0, cells := 0, slots := 0, locals := 0 }
set_option maxHeartbeats 4000000 in
set_option maxRecDepth 100000 in
theorem c_CM_span (l : Launch) (D : va_G) (cs : Nat → ClassId) (ad : Nat → Nat) (zt : Nat) (hi : cm_inj ad) (c I : Wo) (h : cmR c I) (a : Int) (h_a : -2147483648 ≤ a ∧ a < 2147483648) (b : Int) (h_b : -2147483648 ≤ b ∧ b < 2147483648) : cm_C l D cs ad zt y_CM_span ws_CM_span rm_CM_span [.ref (ad 0), .int (zi a), .int (zi b)] I (mk_pi (fun r J => r = an_span a b ∧ cmR (nw_span c a b) J)) := by
  refine mk_meti (own := "CanonMaker") (Ts := wA) hi (Nat.le_refl _) (by decide) rfl (fun w h => List.mem_cons_of_mem _ h) rfl (Nat.le_of_ble_eq_true rfl) [(0, .ref (ad 0)), (1, .int (zi a)), (2, .int (zi b))] rfl ?_
  intro p_ e_ s_ m_ as_ bl_ me_ co_ Q_ X hret
  obtain ⟨⟨⟨hn, hN⟩, ⟨hlo, hsc, hbt, hru, hrd, hst⟩, ⟨hV, hV0⟩, ⟨hfc, hF⟩⟩, ⟨i12, iN⟩, ⟨⟨i50, i51, i52, i53, i54⟩, i07, i09⟩, iV, ⟨i010, iF⟩⟩ := id h
  refine mk_iloadn (nx := 1) X 1 d_CM_span_0 rfl rfl ?_
  refine mk_if_lt (tgt := 15) (nx := 4) X d_CM_span_1 (by omega) (by decide) rfl (fun c1 => ?_) (fun c1 => ?_)
  · skip
    refine mk_bipush (nx := 17) X d_CM_span_15 (by decide) rfl ?_
    exact hret _ _ _ _ d_CM_span_17 (by exact ⟨by rw [an_span, if_pos (by omega)], by rw [nw_span, if_pos (by omega)]; exact h⟩)
  · skip
    refine mk_iloadn (nx := 5) X 2 d_CM_span_4 rfl rfl ?_
    refine mk_bipush (nx := 7) X d_CM_span_5 (by decide) rfl ?_
    refine mk_icmp_gt (tgt := 15) (nx := 10) X d_CM_span_7 (by omega) (by omega) (by decide) rfl (fun c7 => ?_) (fun c7 => ?_)
    · skip
      refine mk_bipush (nx := 17) X d_CM_span_15 (by decide) rfl ?_
      exact hret _ _ _ _ d_CM_span_17 (by exact ⟨by rw [an_span, if_pos (by omega)], by rw [nw_span, if_pos (by omega)]; exact h⟩)
    · skip
      refine mk_iloadn (nx := 11) X 1 d_CM_span_10 rfl rfl ?_
      refine mk_iloadn (nx := 12) X 2 d_CM_span_11 rfl rfl ?_
      refine mk_icmp_le (tgt := 18) (nx := 15) X d_CM_span_12 (by omega) (by omega) (by decide) rfl (fun c12 => ?_) (fun c12 => ?_)
      · skip
        refine mk_aloadn (nx := 19) X 0 d_CM_span_18 rfl rfl ?_
        refine mk_get (nx := 22) (v := .ref (ad 5)) X 0 (by decide) (sh_CM cs ad _) rfl in_CM 2 (by decide) wd_289 rfl rfl d_CM_span_19 rfl ?_
        refine mk_iloadn (nx := 23) X 1 d_CM_span_22 rfl rfl ?_
        refine mk_putf (nx := 26) (ty := .int) X t_Bounds t_Bounds_ok n_Bounds 5 (by decide) (sh_Bounds cs ad _) rfl in_Bounds 0 (by decide) wd_90 rfl rfl (by decide +kernel) rfl rfl (Nat.le_of_ble_eq_true rfl) ((sh_Bounds cs ad _).trans rfl) d_CM_span_23 rfl ?_
        obtain ⟨J1, hJ1⟩ : ∃ z, z = up2 I 5 0 a := ⟨_, rfl⟩
        refine mk_same hJ1.symm ?_
        have hJ1s : J1 5 0 = a := hJ1 ▸ up2_ss I 5 0 a
        have hJ1o : ∀ a b, (a ≠ 5 ∨ b ≠ 0) → J1 a b = I a b := hJ1 ▸ up2_o I 5 0 a
        refine mk_aloadn (nx := 27) X 0 d_CM_span_26 rfl rfl ?_
        refine mk_get (nx := 30) (v := .ref (ad 5)) X 0 (by decide) (sh_CM cs ad _) rfl in_CM 2 (by decide) wd_289 rfl rfl d_CM_span_27 rfl ?_
        refine mk_iloadn (nx := 31) X 2 d_CM_span_30 rfl rfl ?_
        refine mk_putf (nx := 34) (ty := .int) X t_Bounds t_Bounds_ok n_Bounds 5 (by decide) (sh_Bounds cs ad _) rfl in_Bounds 1 (by decide) wd_93 rfl rfl (by decide +kernel) rfl rfl (Nat.le_of_ble_eq_true rfl) ((sh_Bounds cs ad _).trans rfl) d_CM_span_31 rfl ?_
        obtain ⟨J2, hJ2⟩ : ∃ z, z = up2 J1 5 1 b := ⟨_, rfl⟩
        refine mk_same hJ2.symm ?_
        have hJ2s : J2 5 1 = b := hJ2 ▸ up2_ss J1 5 1 b
        have hJ2o : ∀ a b, (a ≠ 5 ∨ b ≠ 1) → J2 a b = J1 a b := hJ2 ▸ up2_o J1 5 1 b
        refine mk_iconst (nx := 35) X d_CM_span_34 rfl ?_
        exact hret _ _ _ _ d_CM_span_35 (by exact ⟨by rw [an_span, if_neg (by omega)]; try rfl, by rw [nw_span, if_neg (by omega), hJ2, hJ1]; exact cm_s_span h (by omega)⟩)
      · skip
        refine mk_bipush (nx := 17) X d_CM_span_15 (by decide) rfl ?_
        exact hret _ _ _ _ d_CM_span_17 (by exact ⟨by rw [an_span, if_pos (by omega)], by rw [nw_span, if_pos (by omega)]; exact h⟩)

-- CanonMaker.scale(I)I
theorem d_CM_scale_0 : decode prog_1_method_10_code 0 = .ok (.iload_n 1, 1) := by decide +kernel
theorem d_CM_scale_1 : decode prog_1_method_10_code 1 = .ok (.ifCond .lt 10, 3) := by decide +kernel
theorem d_CM_scale_4 : decode prog_1_method_10_code 4 = .ok (.iload_n 1, 1) := by decide +kernel
theorem d_CM_scale_5 : decode prog_1_method_10_code 5 = .ok (.sipush 4095, 3) := by decide +kernel
theorem d_CM_scale_8 : decode prog_1_method_10_code 8 = .ok (.if_icmp .le 6, 3) := by decide +kernel
theorem d_CM_scale_11 : decode prog_1_method_10_code 11 = .ok (.bipush (-2), 2) := by decide +kernel
theorem d_CM_scale_13 : decode prog_1_method_10_code 13 = .ok (.ireturn, 1) := by decide +kernel
theorem d_CM_scale_14 : decode prog_1_method_10_code 14 = .ok (.aload_n 0, 1) := by decide +kernel
theorem d_CM_scale_15 : decode prog_1_method_10_code 15 = .ok (.getfield 25, 3) := by decide +kernel
theorem d_CM_scale_18 : decode prog_1_method_10_code 18 = .ok (.getfield 99, 3) := by decide +kernel
theorem d_CM_scale_21 : decode prog_1_method_10_code 21 = .ok (.istore_n 2, 1) := by decide +kernel
theorem d_CM_scale_22 : decode prog_1_method_10_code 22 = .ok (.aload_n 0, 1) := by decide +kernel
theorem d_CM_scale_23 : decode prog_1_method_10_code 23 = .ok (.getfield 25, 3) := by decide +kernel
theorem d_CM_scale_26 : decode prog_1_method_10_code 26 = .ok (.iload_n 1, 1) := by decide +kernel
theorem d_CM_scale_27 : decode prog_1_method_10_code 27 = .ok (.putfield 99, 3) := by decide +kernel
theorem d_CM_scale_30 : decode prog_1_method_10_code 30 = .ok (.iload_n 2, 1) := by decide +kernel
theorem d_CM_scale_31 : decode prog_1_method_10_code 31 = .ok (.ireturn, 1) := by decide +kernel
abbrev rm_CM_scale : Room := { frames := 0, cells := 0, slots := 0, locals := 0 }
set_option maxHeartbeats 4000000 in
set_option maxRecDepth 100000 in
theorem c_CM_scale (l : Launch) (D : va_G) (cs : Nat → ClassId) (ad : Nat → Nat) (zt : Nat) (hi : cm_inj ad) (c I : Wo) (h : cmR c I) (a : Int) (h_a : -2147483648 ≤ a ∧ a < 2147483648) : cm_C l D cs ad zt y_CM_scale ws_CM_scale rm_CM_scale [.ref (ad 0), .int (zi a)] I (mk_pi (fun r J => r = an_scale c a ∧ cmR (nw_scale c a) J)) := by
  refine mk_meti (own := "CanonMaker") (Ts := wA) hi (Nat.le_refl _) (by decide) rfl (fun w h => List.mem_cons_of_mem _ h) rfl (Nat.le_of_ble_eq_true rfl) [(0, .ref (ad 0)), (1, .int (zi a))] rfl ?_
  intro p_ e_ s_ m_ as_ bl_ me_ co_ Q_ X hret
  obtain ⟨⟨⟨hn, hN⟩, ⟨hlo, hsc, hbt, hru, hrd, hst⟩, ⟨hV, hV0⟩, ⟨hfc, hF⟩⟩, ⟨i12, iN⟩, ⟨⟨i50, i51, i52, i53, i54⟩, i07, i09⟩, iV, ⟨i010, iF⟩⟩ := id h
  refine mk_iloadn (nx := 1) X 1 d_CM_scale_0 rfl rfl ?_
  refine mk_if_lt (tgt := 11) (nx := 4) X d_CM_scale_1 (by omega) (by decide) rfl (fun c1 => ?_) (fun c1 => ?_)
  · skip
    refine mk_bipush (nx := 13) X d_CM_scale_11 (by decide) rfl ?_
    exact hret _ _ _ _ d_CM_scale_13 (by exact ⟨by rw [an_scale, if_pos (by omega)], by rw [nw_scale, if_pos (by omega)]; exact h⟩)
  · skip
    refine mk_iloadn (nx := 5) X 1 d_CM_scale_4 rfl rfl ?_
    refine mk_sipush (nx := 8) X d_CM_scale_5 (by decide) rfl ?_
    refine mk_icmp_le (tgt := 14) (nx := 11) X d_CM_scale_8 (by omega) (by omega) (by decide) rfl (fun c8 => ?_) (fun c8 => ?_)
    · skip
      refine mk_aloadn (nx := 15) X 0 d_CM_scale_14 rfl rfl ?_
      refine mk_get (nx := 18) (v := .ref (ad 5)) X 0 (by decide) (sh_CM cs ad _) rfl in_CM 2 (by decide) wd_289 rfl rfl d_CM_scale_15 rfl ?_
      refine mk_get (nx := 21) (v := .int (zi (I 5 2))) X 5 (by decide) (sh_Bounds cs ad _) rfl in_Bounds 2 (by decide) wd_96 rfl rfl d_CM_scale_18 rfl ?_
      refine mk_istoren (nx := 22) X [(2, .int (zi (I 5 2))), (0, .ref (ad 0)), (1, .int (zi a))] d_CM_scale_21 (by decide) rfl rfl ?_
      refine mk_aloadn (nx := 23) X 1 d_CM_scale_22 rfl rfl ?_
      refine mk_get (nx := 26) (v := .ref (ad 5)) X 0 (by decide) (sh_CM cs ad _) rfl in_CM 2 (by decide) wd_289 rfl rfl d_CM_scale_23 rfl ?_
      refine mk_iloadn (nx := 27) X 2 d_CM_scale_26 rfl rfl ?_
      refine mk_putf (nx := 30) (ty := .int) X t_Bounds t_Bounds_ok n_Bounds 5 (by decide) (sh_Bounds cs ad _) rfl in_Bounds 2 (by decide) wd_96 rfl rfl (by decide +kernel) rfl rfl (Nat.le_of_ble_eq_true rfl) ((sh_Bounds cs ad _).trans rfl) d_CM_scale_27 rfl ?_
      obtain ⟨J1, hJ1⟩ : ∃ z, z = up2 I 5 2 a := ⟨_, rfl⟩
      refine mk_same hJ1.symm ?_
      have hJ1s : J1 5 2 = a := hJ1 ▸ up2_ss I 5 2 a
      have hJ1o : ∀ a b, (a ≠ 5 ∨ b ≠ 2) → J1 a b = I a b := hJ1 ▸ up2_o I 5 2 a
      refine mk_iloadn (nx := 31) X 0 d_CM_scale_30 rfl rfl ?_
      exact hret _ _ _ _ d_CM_scale_31 (by exact ⟨by rw [an_scale, if_neg (by omega)]; omega, by rw [nw_scale, if_neg (by omega), hJ1]; exact cm_s_scale h (by omega)⟩)
    · skip
      refine mk_bipush (nx := 13) X d_CM_scale_11 (by decide) rfl ?_
      exact hret _ _ _ _ d_CM_scale_13 (by exact ⟨by rw [an_scale, if_pos (by omega)], by rw [nw_scale, if_pos (by omega)]; exact h⟩)

-- CanonMaker.beat(I)I
theorem d_CM_beat_0 : decode prog_1_method_11_code 0 = .ok (.iload_n 1, 1) := by decide +kernel
theorem d_CM_beat_1 : decode prog_1_method_11_code 1 = .ok (.iconst 1, 1) := by decide +kernel
theorem d_CM_beat_2 : decode prog_1_method_11_code 2 = .ok (.if_icmp .lt 9, 3) := by decide +kernel
theorem d_CM_beat_5 : decode prog_1_method_11_code 5 = .ok (.iload_n 1, 1) := by decide +kernel
theorem d_CM_beat_6 : decode prog_1_method_11_code 6 = .ok (.bipush 64, 2) := by decide +kernel
theorem d_CM_beat_8 : decode prog_1_method_11_code 8 = .ok (.if_icmp .le 6, 3) := by decide +kernel
theorem d_CM_beat_11 : decode prog_1_method_11_code 11 = .ok (.bipush (-2), 2) := by decide +kernel
theorem d_CM_beat_13 : decode prog_1_method_11_code 13 = .ok (.ireturn, 1) := by decide +kernel
theorem d_CM_beat_14 : decode prog_1_method_11_code 14 = .ok (.aload_n 0, 1) := by decide +kernel
theorem d_CM_beat_15 : decode prog_1_method_11_code 15 = .ok (.getfield 25, 3) := by decide +kernel
theorem d_CM_beat_18 : decode prog_1_method_11_code 18 = .ok (.getfield 102, 3) := by decide +kernel
theorem d_CM_beat_21 : decode prog_1_method_11_code 21 = .ok (.istore_n 2, 1) := by decide +kernel
theorem d_CM_beat_22 : decode prog_1_method_11_code 22 = .ok (.aload_n 0, 1) := by decide +kernel
theorem d_CM_beat_23 : decode prog_1_method_11_code 23 = .ok (.getfield 25, 3) := by decide +kernel
theorem d_CM_beat_26 : decode prog_1_method_11_code 26 = .ok (.iload_n 1, 1) := by decide +kernel
theorem d_CM_beat_27 : decode prog_1_method_11_code 27 = .ok (.putfield 102, 3) := by decide +kernel
theorem d_CM_beat_30 : decode prog_1_method_11_code 30 = .ok (.iload_n 2, 1) := by decide +kernel
theorem d_CM_beat_31 : decode prog_1_method_11_code 31 = .ok (.ireturn, 1) := by decide +kernel
abbrev rm_CM_beat : Room := { frames := 0, cells := 0, slots := 0, locals := 0 }
set_option maxHeartbeats 4000000 in
set_option maxRecDepth 100000 in
theorem c_CM_beat (l : Launch) (D : va_G) (cs : Nat → ClassId) (ad : Nat → Nat) (zt : Nat) (hi : cm_inj ad) (c I : Wo) (h : cmR c I) (a : Int) (h_a : -2147483648 ≤ a ∧ a < 2147483648) : cm_C l D cs ad zt y_CM_beat ws_CM_beat rm_CM_beat [.ref (ad 0), .int (zi a)] I (mk_pi (fun r J => r = an_beat c a ∧ cmR (nw_beat c a) J)) := by
  refine mk_meti (own := "CanonMaker") (Ts := wA) hi (Nat.le_refl _) (by decide) rfl (fun w h => List.mem_cons_of_mem _ h) rfl (Nat.le_of_ble_eq_true rfl) [(0, .ref (ad 0)), (1, .int (zi a))] rfl ?_
  intro p_ e_ s_ m_ as_ bl_ me_ co_ Q_ X hret
  obtain ⟨⟨⟨hn, hN⟩, ⟨hlo, hsc, hbt, hru, hrd, hst⟩, ⟨hV, hV0⟩, ⟨hfc, hF⟩⟩, ⟨i12, iN⟩, ⟨⟨i50, i51, i52, i53, i54⟩, i07, i09⟩, iV, ⟨i010, iF⟩⟩ := id h
  refine mk_iloadn (nx := 1) X 1 d_CM_beat_0 rfl rfl ?_
  refine mk_iconst (nx := 2) X d_CM_beat_1 rfl ?_
  refine mk_icmp_lt (tgt := 11) (nx := 5) X d_CM_beat_2 (by omega) (by omega) (by decide) rfl (fun c2 => ?_) (fun c2 => ?_)
  · skip
    refine mk_bipush (nx := 13) X d_CM_beat_11 (by decide) rfl ?_
    exact hret _ _ _ _ d_CM_beat_13 (by exact ⟨by rw [an_beat, if_pos (by omega)], by rw [nw_beat, if_pos (by omega)]; exact h⟩)
  · skip
    refine mk_iloadn (nx := 6) X 1 d_CM_beat_5 rfl rfl ?_
    refine mk_bipush (nx := 8) X d_CM_beat_6 (by decide) rfl ?_
    refine mk_icmp_le (tgt := 14) (nx := 11) X d_CM_beat_8 (by omega) (by omega) (by decide) rfl (fun c8 => ?_) (fun c8 => ?_)
    · skip
      refine mk_aloadn (nx := 15) X 0 d_CM_beat_14 rfl rfl ?_
      refine mk_get (nx := 18) (v := .ref (ad 5)) X 0 (by decide) (sh_CM cs ad _) rfl in_CM 2 (by decide) wd_289 rfl rfl d_CM_beat_15 rfl ?_
      refine mk_get (nx := 21) (v := .int (zi (I 5 3))) X 5 (by decide) (sh_Bounds cs ad _) rfl in_Bounds 3 (by decide) wd_99 rfl rfl d_CM_beat_18 rfl ?_
      refine mk_istoren (nx := 22) X [(2, .int (zi (I 5 3))), (0, .ref (ad 0)), (1, .int (zi a))] d_CM_beat_21 (by decide) rfl rfl ?_
      refine mk_aloadn (nx := 23) X 1 d_CM_beat_22 rfl rfl ?_
      refine mk_get (nx := 26) (v := .ref (ad 5)) X 0 (by decide) (sh_CM cs ad _) rfl in_CM 2 (by decide) wd_289 rfl rfl d_CM_beat_23 rfl ?_
      refine mk_iloadn (nx := 27) X 2 d_CM_beat_26 rfl rfl ?_
      refine mk_putf (nx := 30) (ty := .int) X t_Bounds t_Bounds_ok n_Bounds 5 (by decide) (sh_Bounds cs ad _) rfl in_Bounds 3 (by decide) wd_99 rfl rfl (by decide +kernel) rfl rfl (Nat.le_of_ble_eq_true rfl) ((sh_Bounds cs ad _).trans rfl) d_CM_beat_27 rfl ?_
      obtain ⟨J1, hJ1⟩ : ∃ z, z = up2 I 5 3 a := ⟨_, rfl⟩
      refine mk_same hJ1.symm ?_
      have hJ1s : J1 5 3 = a := hJ1 ▸ up2_ss I 5 3 a
      have hJ1o : ∀ a b, (a ≠ 5 ∨ b ≠ 3) → J1 a b = I a b := hJ1 ▸ up2_o I 5 3 a
      refine mk_iloadn (nx := 31) X 0 d_CM_beat_30 rfl rfl ?_
      exact hret _ _ _ _ d_CM_beat_31 (by exact ⟨by rw [an_beat, if_neg (by omega)]; omega, by rw [nw_beat, if_neg (by omega), hJ1]; exact cm_s_beat h (by omega)⟩)
    · skip
      refine mk_bipush (nx := 13) X d_CM_beat_11 (by decide) rfl ?_
      exact hret _ _ _ _ d_CM_beat_13 (by exact ⟨by rw [an_beat, if_pos (by omega)], by rw [nw_beat, if_pos (by omega)]; exact h⟩)

-- CanonMaker.rules(I)I
theorem d_CM_rules_0 : decode prog_1_method_13_code 0 = .ok (.iload_n 1, 1) := by decide +kernel
theorem d_CM_rules_1 : decode prog_1_method_13_code 1 = .ok (.ifCond .lt 10, 3) := by decide +kernel
theorem d_CM_rules_4 : decode prog_1_method_13_code 4 = .ok (.iload_n 1, 1) := by decide +kernel
theorem d_CM_rules_5 : decode prog_1_method_13_code 5 = .ok (.sipush 255, 3) := by decide +kernel
theorem d_CM_rules_8 : decode prog_1_method_13_code 8 = .ok (.if_icmp .le 6, 3) := by decide +kernel
theorem d_CM_rules_11 : decode prog_1_method_13_code 11 = .ok (.bipush (-2), 2) := by decide +kernel
theorem d_CM_rules_13 : decode prog_1_method_13_code 13 = .ok (.ireturn, 1) := by decide +kernel
theorem d_CM_rules_14 : decode prog_1_method_13_code 14 = .ok (.aload_n 0, 1) := by decide +kernel
theorem d_CM_rules_15 : decode prog_1_method_13_code 15 = .ok (.getfield 25, 3) := by decide +kernel
theorem d_CM_rules_18 : decode prog_1_method_13_code 18 = .ok (.getfield 108, 3) := by decide +kernel
theorem d_CM_rules_21 : decode prog_1_method_13_code 21 = .ok (.istore_n 2, 1) := by decide +kernel
theorem d_CM_rules_22 : decode prog_1_method_13_code 22 = .ok (.aload_n 0, 1) := by decide +kernel
theorem d_CM_rules_23 : decode prog_1_method_13_code 23 = .ok (.getfield 25, 3) := by decide +kernel
theorem d_CM_rules_26 : decode prog_1_method_13_code 26 = .ok (.iload_n 1, 1) := by decide +kernel
theorem d_CM_rules_27 : decode prog_1_method_13_code 27 = .ok (.putfield 108, 3) := by decide +kernel
theorem d_CM_rules_30 : decode prog_1_method_13_code 30 = .ok (.iload_n 2, 1) := by decide +kernel
theorem d_CM_rules_31 : decode prog_1_method_13_code 31 = .ok (.ireturn, 1) := by decide +kernel
abbrev rm_CM_rules : Room := { frames := 0, cells := 0, slots := 0, locals := 0 }
set_option maxHeartbeats 4000000 in
set_option maxRecDepth 100000 in
theorem c_CM_rules (l : Launch) (D : va_G) (cs : Nat → ClassId) (ad : Nat → Nat) (zt : Nat) (hi : cm_inj ad) (c I : Wo) (h : cmR c I) (a : Int) (h_a : -2147483648 ≤ a ∧ a < 2147483648) : cm_C l D cs ad zt y_CM_rules ws_CM_rules rm_CM_rules [.ref (ad 0), .int (zi a)] I (mk_pi (fun r J => r = an_rules c a ∧ cmR (nw_rules c a) J)) := by
  refine mk_meti (own := "CanonMaker") (Ts := wA) hi (Nat.le_refl _) (by decide) rfl (fun w h => List.mem_cons_of_mem _ h) rfl (Nat.le_of_ble_eq_true rfl) [(0, .ref (ad 0)), (1, .int (zi a))] rfl ?_
  intro p_ e_ s_ m_ as_ bl_ me_ co_ Q_ X hret
  obtain ⟨⟨⟨hn, hN⟩, ⟨hlo, hsc, hbt, hru, hrd, hst⟩, ⟨hV, hV0⟩, ⟨hfc, hF⟩⟩, ⟨i12, iN⟩, ⟨⟨i50, i51, i52, i53, i54⟩, i07, i09⟩, iV, ⟨i010, iF⟩⟩ := id h
  refine mk_iloadn (nx := 1) X 1 d_CM_rules_0 rfl rfl ?_
  refine mk_if_lt (tgt := 11) (nx := 4) X d_CM_rules_1 (by omega) (by decide) rfl (fun c1 => ?_) (fun c1 => ?_)
  · skip
    refine mk_bipush (nx := 13) X d_CM_rules_11 (by decide) rfl ?_
    exact hret _ _ _ _ d_CM_rules_13 (by exact ⟨by rw [an_rules, if_pos (by omega)], by rw [nw_rules, if_pos (by omega)]; exact h⟩)
  · skip
    refine mk_iloadn (nx := 5) X 1 d_CM_rules_4 rfl rfl ?_
    refine mk_sipush (nx := 8) X d_CM_rules_5 (by decide) rfl ?_
    refine mk_icmp_le (tgt := 14) (nx := 11) X d_CM_rules_8 (by omega) (by omega) (by decide) rfl (fun c8 => ?_) (fun c8 => ?_)
    · skip
      refine mk_aloadn (nx := 15) X 0 d_CM_rules_14 rfl rfl ?_
      refine mk_get (nx := 18) (v := .ref (ad 5)) X 0 (by decide) (sh_CM cs ad _) rfl in_CM 2 (by decide) wd_289 rfl rfl d_CM_rules_15 rfl ?_
      refine mk_get (nx := 21) (v := .int (zi (I 5 4))) X 5 (by decide) (sh_Bounds cs ad _) rfl in_Bounds 4 (by decide) wd_101 rfl rfl d_CM_rules_18 rfl ?_
      refine mk_istoren (nx := 22) X [(2, .int (zi (I 5 4))), (0, .ref (ad 0)), (1, .int (zi a))] d_CM_rules_21 (by decide) rfl rfl ?_
      refine mk_aloadn (nx := 23) X 1 d_CM_rules_22 rfl rfl ?_
      refine mk_get (nx := 26) (v := .ref (ad 5)) X 0 (by decide) (sh_CM cs ad _) rfl in_CM 2 (by decide) wd_289 rfl rfl d_CM_rules_23 rfl ?_
      refine mk_iloadn (nx := 27) X 2 d_CM_rules_26 rfl rfl ?_
      refine mk_putf (nx := 30) (ty := .int) X t_Bounds t_Bounds_ok n_Bounds 5 (by decide) (sh_Bounds cs ad _) rfl in_Bounds 4 (by decide) wd_101 rfl rfl (by decide +kernel) rfl rfl (Nat.le_of_ble_eq_true rfl) ((sh_Bounds cs ad _).trans rfl) d_CM_rules_27 rfl ?_
      obtain ⟨J1, hJ1⟩ : ∃ z, z = up2 I 5 4 a := ⟨_, rfl⟩
      refine mk_same hJ1.symm ?_
      have hJ1s : J1 5 4 = a := hJ1 ▸ up2_ss I 5 4 a
      have hJ1o : ∀ a b, (a ≠ 5 ∨ b ≠ 4) → J1 a b = I a b := hJ1 ▸ up2_o I 5 4 a
      refine mk_iloadn (nx := 31) X 0 d_CM_rules_30 rfl rfl ?_
      exact hret _ _ _ _ d_CM_rules_31 (by exact ⟨by rw [an_rules, if_neg (by omega)]; omega, by rw [nw_rules, if_neg (by omega), hJ1]; exact cm_s_rules h (by omega)⟩)
    · skip
      refine mk_bipush (nx := 13) X d_CM_rules_11 (by decide) rfl ?_
      exact hret _ _ _ _ d_CM_rules_13 (by exact ⟨by rw [an_rules, if_pos (by omega)], by rw [nw_rules, if_pos (by omega)]; exact h⟩)

-- CanonMaker.round(I)I
theorem d_CM_round_0 : decode prog_1_method_12_code 0 = .ok (.iload_n 1, 1) := by decide +kernel
theorem d_CM_round_1 : decode prog_1_method_12_code 1 = .ok (.ifCond .lt 10, 3) := by decide +kernel
theorem d_CM_round_4 : decode prog_1_method_12_code 4 = .ok (.iload_n 1, 1) := by decide +kernel
theorem d_CM_round_5 : decode prog_1_method_12_code 5 = .ok (.sipush 400, 3) := by decide +kernel
theorem d_CM_round_8 : decode prog_1_method_12_code 8 = .ok (.if_icmp .le 6, 3) := by decide +kernel
theorem d_CM_round_11 : decode prog_1_method_12_code 11 = .ok (.bipush (-2), 2) := by decide +kernel
theorem d_CM_round_13 : decode prog_1_method_12_code 13 = .ok (.ireturn, 1) := by decide +kernel
theorem d_CM_round_14 : decode prog_1_method_12_code 14 = .ok (.aload_n 0, 1) := by decide +kernel
theorem d_CM_round_15 : decode prog_1_method_12_code 15 = .ok (.getfield 105, 3) := by decide +kernel
theorem d_CM_round_18 : decode prog_1_method_12_code 18 = .ok (.istore_n 2, 1) := by decide +kernel
theorem d_CM_round_19 : decode prog_1_method_12_code 19 = .ok (.aload_n 0, 1) := by decide +kernel
theorem d_CM_round_20 : decode prog_1_method_12_code 20 = .ok (.iload_n 1, 1) := by decide +kernel
theorem d_CM_round_21 : decode prog_1_method_12_code 21 = .ok (.putfield 105, 3) := by decide +kernel
theorem d_CM_round_24 : decode prog_1_method_12_code 24 = .ok (.iload_n 2, 1) := by decide +kernel
theorem d_CM_round_25 : decode prog_1_method_12_code 25 = .ok (.ireturn, 1) := by decide +kernel
abbrev rm_CM_round : Room := { frames := 0, cells := 0, slots := 0, locals := 0 }
set_option maxHeartbeats 4000000 in
set_option maxRecDepth 100000 in
theorem c_CM_round (l : Launch) (D : va_G) (cs : Nat → ClassId) (ad : Nat → Nat) (zt : Nat) (hi : cm_inj ad) (c I : Wo) (h : cmR c I) (a : Int) (h_a : -2147483648 ≤ a ∧ a < 2147483648) : cm_C l D cs ad zt y_CM_round ws_CM_round rm_CM_round [.ref (ad 0), .int (zi a)] I (mk_pi (fun r J => r = an_round c a ∧ cmR (nw_round c a) J)) := by
  refine mk_meti (own := "CanonMaker") (Ts := wA) hi (Nat.le_refl _) (by decide) rfl (fun w h => List.mem_cons_of_mem _ h) rfl (Nat.le_of_ble_eq_true rfl) [(0, .ref (ad 0)), (1, .int (zi a))] rfl ?_
  intro p_ e_ s_ m_ as_ bl_ me_ co_ Q_ X hret
  obtain ⟨⟨⟨hn, hN⟩, ⟨hlo, hsc, hbt, hru, hrd, hst⟩, ⟨hV, hV0⟩, ⟨hfc, hF⟩⟩, ⟨i12, iN⟩, ⟨⟨i50, i51, i52, i53, i54⟩, i07, i09⟩, iV, ⟨i010, iF⟩⟩ := id h
  refine mk_iloadn (nx := 1) X 1 d_CM_round_0 rfl rfl ?_
  refine mk_if_lt (tgt := 11) (nx := 4) X d_CM_round_1 (by omega) (by decide) rfl (fun c1 => ?_) (fun c1 => ?_)
  · skip
    refine mk_bipush (nx := 13) X d_CM_round_11 (by decide) rfl ?_
    exact hret _ _ _ _ d_CM_round_13 (by exact ⟨by rw [an_round, if_pos (by omega)], by rw [nw_round, if_pos (by omega)]; exact h⟩)
  · skip
    refine mk_iloadn (nx := 5) X 1 d_CM_round_4 rfl rfl ?_
    refine mk_sipush (nx := 8) X d_CM_round_5 (by decide) rfl ?_
    refine mk_icmp_le (tgt := 14) (nx := 11) X d_CM_round_8 (by omega) (by omega) (by decide) rfl (fun c8 => ?_) (fun c8 => ?_)
    · skip
      refine mk_aloadn (nx := 15) X 0 d_CM_round_14 rfl rfl ?_
      refine mk_get (nx := 18) (v := .int (zi (I 0 7))) X 0 (by decide) (sh_CM cs ad _) rfl in_CM 7 (by decide) wd_294 rfl rfl d_CM_round_15 rfl ?_
      refine mk_istoren (nx := 19) X [(2, .int (zi (I 0 7))), (0, .ref (ad 0)), (1, .int (zi a))] d_CM_round_18 (by decide) rfl rfl ?_
      refine mk_aloadn (nx := 20) X 1 d_CM_round_19 rfl rfl ?_
      refine mk_iloadn (nx := 21) X 2 d_CM_round_20 rfl rfl ?_
      refine mk_putf (nx := 24) (ty := .int) X t_CM t_CM_ok n_CM 0 (by decide) (sh_CM cs ad _) rfl in_CM 7 (by decide) wd_294 rfl rfl (by decide +kernel) rfl rfl (Nat.le_of_ble_eq_true rfl) ((sh_CM cs ad _).trans rfl) d_CM_round_21 rfl ?_
      obtain ⟨J1, hJ1⟩ : ∃ z, z = up2 I 0 7 a := ⟨_, rfl⟩
      refine mk_same hJ1.symm ?_
      have hJ1s : J1 0 7 = a := hJ1 ▸ up2_ss I 0 7 a
      have hJ1o : ∀ a b, (a ≠ 0 ∨ b ≠ 7) → J1 a b = I a b := hJ1 ▸ up2_o I 0 7 a
      refine mk_iloadn (nx := 25) X 0 d_CM_round_24 rfl rfl ?_
      exact hret _ _ _ _ d_CM_round_25 (by exact ⟨by rw [an_round, if_neg (by omega)]; omega, by rw [nw_round, if_neg (by omega), hJ1]; exact cm_s_round h (by omega)⟩)
    · skip
      refine mk_bipush (nx := 13) X d_CM_round_11 (by decide) rfl ?_
      exact hret _ _ _ _ d_CM_round_13 (by exact ⟨by rw [an_round, if_pos (by omega)], by rw [nw_round, if_pos (by omega)]; exact h⟩)

-- CanonMaker.steps()I
theorem d_CM_steps_0 : decode prog_1_method_19_code 0 = .ok (.aload_n 0, 1) := by decide +kernel
theorem d_CM_steps_1 : decode prog_1_method_19_code 1 = .ok (.getfield 157, 3) := by decide +kernel
theorem d_CM_steps_4 : decode prog_1_method_19_code 4 = .ok (.ireturn, 1) := by decide +kernel
abbrev rm_CM_steps : Room := { frames := 0, cells := 0, slots := 0, locals := 0 }
set_option maxHeartbeats 4000000 in
set_option maxRecDepth 100000 in
theorem c_CM_steps (l : Launch) (D : va_G) (cs : Nat → ClassId) (ad : Nat → Nat) (zt : Nat) (hi : cm_inj ad) (c I : Wo) (h : cmR c I)  : cm_C l D cs ad zt y_CM_steps ws_CM_steps rm_CM_steps [.ref (ad 0)] I (mk_pi (fun r J => r = c 0 7 ∧ cmR c J)) := by
  refine mk_meti (own := "CanonMaker") (Ts := wA) hi (Nat.le_refl _) (by decide) rfl (fun w h => List.mem_cons_of_mem _ h) rfl (Nat.le_of_ble_eq_true rfl) [(0, .ref (ad 0))] rfl ?_
  intro p_ e_ s_ m_ as_ bl_ me_ co_ Q_ X hret
  obtain ⟨⟨⟨hn, hN⟩, ⟨hlo, hsc, hbt, hru, hrd, hst⟩, ⟨hV, hV0⟩, ⟨hfc, hF⟩⟩, ⟨i12, iN⟩, ⟨⟨i50, i51, i52, i53, i54⟩, i07, i09⟩, iV, ⟨i010, iF⟩⟩ := id h
  refine mk_aloadn (nx := 1) X 0 d_CM_steps_0 rfl rfl ?_
  refine mk_get (nx := 4) (v := .int (zi (I 0 9))) X 0 (by decide) (sh_CM cs ad _) rfl in_CM 9 (by decide) wd_296 rfl rfl d_CM_steps_1 rfl ?_
  exact hret _ _ _ _ d_CM_steps_4 (by exact ⟨by omega, h⟩)

-- CanonMaker.shift(II)I
theorem d_CM_shift_0 : decode prog_1_method_21_code 0 = .ok (.iload_n 1, 1) := by decide +kernel
theorem d_CM_shift_1 : decode prog_1_method_21_code 1 = .ok (.ifCond .lt 11, 3) := by decide +kernel
theorem d_CM_shift_4 : decode prog_1_method_21_code 4 = .ok (.iload_n 1, 1) := by decide +kernel
theorem d_CM_shift_5 : decode prog_1_method_21_code 5 = .ok (.aload_n 0, 1) := by decide +kernel
theorem d_CM_shift_6 : decode prog_1_method_21_code 6 = .ok (.getfield 180, 3) := by decide +kernel
theorem d_CM_shift_9 : decode prog_1_method_21_code 9 = .ok (.if_icmp .lt 5, 3) := by decide +kernel
theorem d_CM_shift_12 : decode prog_1_method_21_code 12 = .ok (.iconst (-1), 1) := by decide +kernel
theorem d_CM_shift_13 : decode prog_1_method_21_code 13 = .ok (.ireturn, 1) := by decide +kernel
theorem d_CM_shift_14 : decode prog_1_method_21_code 14 = .ok (.iload_n 2, 1) := by decide +kernel
theorem d_CM_shift_15 : decode prog_1_method_21_code 15 = .ok (.lookupswitch 48 #[(0, 25), (1, 35)], 25) := by decide +kernel
theorem d_CM_shift_40 : decode prog_1_method_21_code 40 = .ok (.aload_n 0, 1) := by decide +kernel
theorem d_CM_shift_41 : decode prog_1_method_21_code 41 = .ok (.getfield 49, 3) := by decide +kernel
theorem d_CM_shift_44 : decode prog_1_method_21_code 44 = .ok (.iload_n 1, 1) := by decide +kernel
theorem d_CM_shift_45 : decode prog_1_method_21_code 45 = .ok (.iaload, 1) := by decide +kernel
theorem d_CM_shift_46 : decode prog_1_method_21_code 46 = .ok (.bipush 25, 2) := by decide +kernel
theorem d_CM_shift_48 : decode prog_1_method_21_code 48 = .ok (.idiv, 1) := by decide +kernel
theorem d_CM_shift_49 : decode prog_1_method_21_code 49 = .ok (.ireturn, 1) := by decide +kernel
theorem d_CM_shift_50 : decode prog_1_method_21_code 50 = .ok (.aload_n 0, 1) := by decide +kernel
theorem d_CM_shift_51 : decode prog_1_method_21_code 51 = .ok (.getfield 49, 3) := by decide +kernel
theorem d_CM_shift_54 : decode prog_1_method_21_code 54 = .ok (.iload_n 1, 1) := by decide +kernel
theorem d_CM_shift_55 : decode prog_1_method_21_code 55 = .ok (.iaload, 1) := by decide +kernel
theorem d_CM_shift_56 : decode prog_1_method_21_code 56 = .ok (.bipush 25, 2) := by decide +kernel
theorem d_CM_shift_58 : decode prog_1_method_21_code 58 = .ok (.irem, 1) := by decide +kernel
theorem d_CM_shift_59 : decode prog_1_method_21_code 59 = .ok (.bipush 12, 2) := by decide +kernel
theorem d_CM_shift_61 : decode prog_1_method_21_code 61 = .ok (.isub, 1) := by decide +kernel
theorem d_CM_shift_62 : decode prog_1_method_21_code 62 = .ok (.ireturn, 1) := by decide +kernel
theorem d_CM_shift_63 : decode prog_1_method_21_code 63 = .ok (.bipush (-2), 2) := by decide +kernel
theorem d_CM_shift_65 : decode prog_1_method_21_code 65 = .ok (.ireturn, 1) := by decide +kernel
abbrev rm_CM_shift : Room := { frames := 0, cells := 0, slots := 0, locals := 0 }
set_option maxHeartbeats 4000000 in
set_option maxRecDepth 100000 in
theorem c_CM_shift (l : Launch) (D : va_G) (cs : Nat → ClassId) (ad : Nat → Nat) (zt : Nat) (hi : cm_inj ad) (c I : Wo) (h : cmR c I) (k : Int) (h_k : -2147483648 ≤ k ∧ k < 2147483648) (w : Int) (h_w : -2147483648 ≤ w ∧ w < 2147483648) : cm_C l D cs ad zt y_CM_shift ws_CM_shift rm_CM_shift [.ref (ad 0), .int (zi k), .int (zi w)] I (mk_pi (fun r J => r = an_shift c k w ∧ cmR c J)) := by
  refine mk_meti (own := "CanonMaker") (Ts := wA) hi (Nat.le_refl _) (by decide) rfl (fun w h => List.mem_cons_of_mem _ h) rfl (Nat.le_of_ble_eq_true rfl) [(0, .ref (ad 0)), (1, .int (zi k)), (2, .int (zi w))] rfl ?_
  intro p_ e_ s_ m_ as_ bl_ me_ co_ Q_ X hret
  obtain ⟨⟨⟨hn, hN⟩, ⟨hlo, hsc, hbt, hru, hrd, hst⟩, ⟨hV, hV0⟩, ⟨hfc, hF⟩⟩, ⟨i12, iN⟩, ⟨⟨i50, i51, i52, i53, i54⟩, i07, i09⟩, iV, ⟨i010, iF⟩⟩ := id h
  refine mk_iloadn (nx := 1) X 1 d_CM_shift_0 rfl rfl ?_
  refine mk_if_lt (tgt := 12) (nx := 4) X d_CM_shift_1 (by omega) (by decide) rfl (fun c1 => ?_) (fun c1 => ?_)
  · skip
    refine mk_iconst (nx := 13) X d_CM_shift_12 rfl ?_
    exact hret _ _ _ _ d_CM_shift_13 (by exact ⟨by rw [an_shift, if_pos (by omega)], by exact h⟩)
  · skip
    refine mk_iloadn (nx := 5) X 1 d_CM_shift_4 rfl rfl ?_
    refine mk_aloadn (nx := 6) X 0 d_CM_shift_5 rfl rfl ?_
    refine mk_get (nx := 9) (v := .int (zi (I 0 10))) X 0 (by decide) (sh_CM cs ad _) rfl in_CM 10 (by decide) wd_297 rfl rfl d_CM_shift_6 rfl ?_
    refine mk_icmp_lt (tgt := 14) (nx := 12) X d_CM_shift_9 (by omega) (by omega) (by decide) rfl (fun c9 => ?_) (fun c9 => ?_)
    · skip
      refine mk_iloadn (nx := 15) X 2 d_CM_shift_14 rfl rfl ?_
      by_cases c15_0 : w = 0
      · refine mk_lookup (tgt := 40) (off := 25) X d_CM_shift_15 (by omega) ⟨by decide, by rw [c15_0]; try rfl⟩ (by decide) ?_
        refine mk_aloadn (nx := 41) X 0 d_CM_shift_40 rfl rfl ?_
        refine mk_get (nx := 44) (v := .ref (ad 43)) X 0 (by decide) (sh_CM cs ad _) rfl in_CM 6 (by decide) wd_293 rfl rfl d_CM_shift_41 rfl ?_
        refine mk_iloadn (nx := 45) X 1 d_CM_shift_44 rfl rfl ?_
        refine mk_iald (nx := 46) (j := k.toNat) X 43 0 (by decide) (sh_shiftsFound cs ad _) rfl (by omega) (by omega) (by decide) rfl d_CM_shift_45 rfl ?_
        refine mk_bipush (nx := 48) X d_CM_shift_46 (by decide) rfl ?_
        have hq := iF k.toNat (by omega)
        have hq2 := hF k.toNat (by omega)
        refine mk_idiv (nx := 49) X d_CM_shift_48 (by omega) (by omega) (by omega) rfl ?_
        exact hret _ _ _ _ d_CM_shift_49 (by exact ⟨by rw [an_shift, if_neg (by omega), if_pos (by omega), hq, Int.tdiv_eq_ediv_of_nonneg (by omega)]; omega, h⟩)
      · skip
        by_cases c15_1 : w = 1
        · refine mk_lookup (tgt := 50) (off := 35) X d_CM_shift_15 (by omega) ⟨by decide, by rw [c15_1]; try rfl⟩ (by decide) ?_
          refine mk_aloadn (nx := 51) X 0 d_CM_shift_50 rfl rfl ?_
          refine mk_get (nx := 54) (v := .ref (ad 43)) X 0 (by decide) (sh_CM cs ad _) rfl in_CM 6 (by decide) wd_293 rfl rfl d_CM_shift_51 rfl ?_
          refine mk_iloadn (nx := 55) X 1 d_CM_shift_54 rfl rfl ?_
          refine mk_iald (nx := 56) (j := k.toNat) X 43 0 (by decide) (sh_shiftsFound cs ad _) rfl (by omega) (by omega) (by decide) rfl d_CM_shift_55 rfl ?_
          refine mk_bipush (nx := 58) X d_CM_shift_56 (by decide) rfl ?_
          have hq := iF k.toNat (by omega)
          have hq2 := hF k.toNat (by omega)
          refine mk_irem (nx := 59) X d_CM_shift_58 (by omega) (by omega) (by omega) rfl ?_
          refine mk_bipush (nx := 61) X d_CM_shift_59 (by decide) rfl ?_
          refine mk_isub (nx := 62) X d_CM_shift_61 rfl ?_
          exact hret _ _ _ _ d_CM_shift_62 (by exact ⟨by rw [an_shift, if_neg (by omega), if_neg (by omega), if_pos (by omega), hq, Int.tmod_eq_emod_of_nonneg (by omega)]; omega, h⟩)
        · skip
          refine mk_lookup (tgt := 63) (off := 48) X d_CM_shift_15 (by omega) ⟨by decide, by simp only [Op.lookupswitch.offset_cons, Op.lookupswitch.offset_nil]; rw [if_neg (by omega), if_neg (by omega)]⟩ (by decide) ?_
          refine mk_bipush (nx := 65) X d_CM_shift_63 (by decide) rfl ?_
          exact hret _ _ _ _ d_CM_shift_65 (by exact ⟨by rw [an_shift, if_neg (by omega), if_neg (by omega), if_neg (by omega)], h⟩)
    · skip
      refine mk_iconst (nx := 13) X d_CM_shift_12 rfl ?_
      exact hret _ _ _ _ d_CM_shift_13 (by exact ⟨by rw [an_shift, if_pos (by omega)], by exact h⟩)
