/-- the reference's tables hold a voice's LINE; all that are on -/
def MoD (c J : Wo) (v : Nat) : Prop := MlL c J v (cn c) ∧ ∀ x : Nat, (x : Int) < an_end c → J 10 (1300 * v + x) = cpl c v x ∧ J 8 (1300 * v + x) = cpt c v x ∧ J 9 (1300 * v + x) = csk c v x
def MoL (c J : Wo) : Prop := J 0 19 = an_end c ∧ ∀ v, v < 4 → c (3 + v) 0 = 1 → MoD c J v
theorem MoD_fr {c J K : Wo} {u v : Nat} (he : an_end c ≤ 1252) (hn : cn c ≤ 24) (hO : MlO J K u) (huv : u ≠ v) (h : MoD c J v) : MoD c K v := by
  refine ⟨fun q hq => by rw [hO.2.2 _ (by omega)]; exact h.1 q hq, fun x hx => ?_⟩
  rw [hO.2.1 10 _ (by omega) (by omega) (by omega), hO.2.1 8 _ (by omega) (by omega) (by omega), hO.2.1 9 _ (by omega) (by omega) (by omega)]
  exact h.2 x hx
/-- the pitch beside the NOTE at place p in its LINE -/
def cbs (c : Wo) (v : Nat) (p way : Int) : Int := if 0 ≤ p + way ∧ p + way < c 0 0 then clp c v (p + way).toNat else if c 0 6 = 0 ∨ ¬ an_size c * c (3 + v) 4 = c 0 6 then 1000 else if p + way < 0 then clp c v (cn c - 1) else clp c v 0
def gp (a b : Int) : Int := ((a - b).natAbs : Int) % 12
theorem cpt_b {c : Wo} {v : Nat} (h : wfN c) (hV : wfV c) (hv : v < 4) (t : Int) : -200 ≤ cpt c v t ∧ cpt c v t ≤ 1001 := by
  unfold cpt
  rcases cpl_b h hV hv t with q | q
  · rw [if_pos q]; omega
  · rw [if_neg (by omega)]
    exact clp_b h hV hv (by omega)
theorem csk_b (c : Wo) (v : Nat) (t : Int) : csk c v t = 0 ∨ csk c v t = 1 := by
  unfold csk
  split
  · exact Or.inl rfl
  · split
    · exact Or.inr rfl
    · exact Or.inl rfl

-- CanonMakerModel.layAll()V
theorem d_Mo_layAll_0 : decode prog_9_method_18_code 0 = .ok (.aload_n 0, 1) := by decide +kernel
theorem d_Mo_layAll_1 : decode prog_9_method_18_code 1 = .ok (.aload_n 0, 1) := by decide +kernel
theorem d_Mo_layAll_2 : decode prog_9_method_18_code 2 = .ok (.invokevirtual 93, 3) := by decide +kernel
theorem d_Mo_layAll_5 : decode prog_9_method_18_code 5 = .ok (.putfield 82, 3) := by decide +kernel
theorem d_Mo_layAll_8 : decode prog_9_method_18_code 8 = .ok (.iconst 0, 1) := by decide +kernel
theorem d_Mo_layAll_9 : decode prog_9_method_18_code 9 = .ok (.istore_n 1, 1) := by decide +kernel
theorem d_Mo_layAll_10 : decode prog_9_method_18_code 10 = .ok (.iload_n 1, 1) := by decide +kernel
theorem d_Mo_layAll_11 : decode prog_9_method_18_code 11 = .ok (.iconst 4, 1) := by decide +kernel
theorem d_Mo_layAll_12 : decode prog_9_method_18_code 12 = .ok (.if_icmp .ge 23, 3) := by decide +kernel
theorem d_Mo_layAll_15 : decode prog_9_method_18_code 15 = .ok (.aload_n 0, 1) := by decide +kernel
theorem d_Mo_layAll_16 : decode prog_9_method_18_code 16 = .ok (.getfield 16, 3) := by decide +kernel
theorem d_Mo_layAll_19 : decode prog_9_method_18_code 19 = .ok (.iload_n 1, 1) := by decide +kernel
theorem d_Mo_layAll_20 : decode prog_9_method_18_code 20 = .ok (.baload, 1) := by decide +kernel
theorem d_Mo_layAll_21 : decode prog_9_method_18_code 21 = .ok (.ifCond .eq 8, 3) := by decide +kernel
theorem d_Mo_layAll_24 : decode prog_9_method_18_code 24 = .ok (.aload_n 0, 1) := by decide +kernel
theorem d_Mo_layAll_25 : decode prog_9_method_18_code 25 = .ok (.iload_n 1, 1) := by decide +kernel
theorem d_Mo_layAll_26 : decode prog_9_method_18_code 26 = .ok (.invokevirtual 96, 3) := by decide +kernel
theorem d_Mo_layAll_29 : decode prog_9_method_18_code 29 = .ok (.iinc 1 1, 3) := by decide +kernel
theorem d_Mo_layAll_32 : decode prog_9_method_18_code 32 = .ok (.goto (-22), 3) := by decide +kernel
theorem d_Mo_layAll_35 : decode prog_9_method_18_code 35 = .ok (.return_, 1) := by decide +kernel
abbrev rm_Mo_layAll : Room := { frames := 3, cells := 0, slots := 0, locals := 66 }
set_option maxHeartbeats 4000000 in
set_option maxRecDepth 100000 in
theorem c_Mo_layAll (l : Launch) (D : va_G) (cs : Nat → ClassId) (ad : Nat → Nat) (hi : mo_inj ad) (c I : Wo) (h : moR c I) : mo_C l D cs ad y_Mo_layAll ws_Mo_layAll rm_Mo_layAll [.ref (ad 0)] I (mk_pv (fun J => MoL c J ∧ (∀ a b, (a < 8 ∨ 11 < a) → ¬ (a = 0 ∧ b = 19) → J a b = I a b))) := by
  refine mk_metv (own := "CanonMakerModel") (Ts := wA) hi (Nat.le_refl _) (by decide) rfl (fun w h => List.mem_cons_of_mem _ h) rfl (Nat.le_of_ble_eq_true rfl) [(0, .ref (ad 0))] rfl ?_
  intro p_ e_ s_ m_ as_ bl_ me_ co_ Q_ X hret
  obtain ⟨⟨⟨hn, hN⟩, ⟨hlo, hsc, hbt, hru, hrd, hst⟩, ⟨hV, hV0⟩, ⟨hfc, hF⟩⟩, ⟨i12, iN⟩, ⟨⟨i50, i51, i52, i53, i54⟩, i07, i09⟩, iV, ⟨i010, iF⟩⟩ := id h
  have hcn := cn_e h.1.1
  have heb := an_end_b h.1.1 h.1.2.1 h.1.2.2.1
  have L10 : ∀ nf : Nat, ∀ (u : Nat) (J : Wo), (u ≤ 4) → (J 0 19 = an_end c) → (∀ v, v < u → c (3 + v) 0 = 1 → MoD c J v) → (∀ a b, (a < 8 ∨ 11 < a) → ¬ (a = 0 ∧ b = 19) → J a b = I a b) → 4 - u < nf → mk_A p_ l e_ rm_Mo_layAll s_ m_ as_ bl_ me_ co_ Q_ 2 D cmcl (mo_sh cs ad) 16 16 ad J [(0, .ref (ad 0)), (1, .int (zi (u : Int)))] 10 [] := by
    intro nf
    induction nf with
    | zero => intro u J hu hT hA hO hn; exact absurd hn (Nat.not_lt_zero _)
    | succ nf ih10 =>
      intro u J hu hT hA hO hn10
      refine mk_iloadn (nx := 11) X 1 d_Mo_layAll_10 rfl rfl ?_
      refine mk_iconst (nx := 12) X d_Mo_layAll_11 rfl ?_
      refine mk_icmp_ge (tgt := 35) (nx := 15) X d_Mo_layAll_12 (by omega) (by omega) (by decide) rfl (fun c12 => ?_) (fun c12 => ?_)
      · skip
        exact hret _ _ _ d_Mo_layAll_35 (by exact ⟨⟨hT, fun v hv => hA v (by omega)⟩, hO⟩)
      · skip
        have hv5 := hV u (by omega)
        refine mk_aloadn (nx := 16) X 0 d_Mo_layAll_15 rfl rfl ?_
        refine mk_get (nx := 19) (v := .ref (ad 3)) X 0 (by decide) (mh_Mo cs ad _) rfl in_Mo 3 (by decide) wd_598 rfl rfl d_Mo_layAll_16 rfl ?_
        refine mk_iloadn (nx := 20) X 1 d_Mo_layAll_19 rfl rfl ?_
        refine mk_zald (nx := 21) (j := u) X 3 1 (by decide) (mh_on cs ad _) rfl (by omega) (by omega) (by decide) rfl d_Mo_layAll_20 rfl ?_
        rw [show J 3 u = c (3 + u) 0 from ((hO 3 u (by omega) (by omega)).trans (iV u (by omega)).1)]
        refine mk_if_eq (tgt := 29) (nx := 24) X d_Mo_layAll_21 (by omega) (by decide) rfl (fun c21 => ?_) (fun c21 => ?_)
        · skip
          refine mk_iinc (nx := 32) X 1 [(1, .int (zi ((u : Int) + 1))), (0, .ref (ad 0))] d_Mo_layAll_29 rfl (by decide) rfl rfl ?_
          refine mk_goto (tgt := 10) X d_Mo_layAll_32 (by decide) ?_
          refine mk_lv [1, 0] rfl ?_
          exact ih10 (u + 1) J (by omega) (by first | exact hJs | exact hT | exact (hJA.1.1 0 19 (by omega)).trans hT) (by first | exact lt_0 | exact lt_s (fun v hv hon => MoD_fr heb.2 hcn.2 hJA.1 (by omega) (hA v hv hon)) (fun _ => hJA.2) | exact lt_s hA (fun hon => absurd hon (by omega))) (by first | exact fun a b x y => hJo a b (by omega) | exact hO | exact fun a b x y => (hJA.1.1 a b (by omega)).trans (hO a b x y)) (by omega)
        · skip
          refine mk_aloadn (nx := 25) X 0 d_Mo_layAll_24 rfl rfl ?_
          refine mk_iloadn (nx := 26) X 1 d_Mo_layAll_25 rfl rfl ?_
          refine mk_callVv (nx := 29) (n := 1) (As := [.int (zi (u : Int))]) (rest := []) X 0 (by decide) (mh_Mo cs ad _) rfl (c_Mo_lay l D cs ad hi c J (moR_fr (fun a b x y => hO a b (by omega) (by omega)) h) u (by omega) (by omega) hT) (g_Mo_lay wd_752) rfl ⟨rfl, rfl⟩ (by decide +kernel) ⟨by decide, by decide⟩ rfl (Nat.le_of_ble_eq_true rfl) rfl d_Mo_layAll_26 rfl ?_
          intro JA hJA
          refine mk_iinc (nx := 32) X 1 [(1, .int (zi ((u : Int) + 1))), (0, .ref (ad 0))] d_Mo_layAll_29 rfl (by decide) rfl rfl ?_
          refine mk_goto (tgt := 10) X d_Mo_layAll_32 (by decide) ?_
          refine mk_lv [1, 0] rfl ?_
          exact ih10 (u + 1) JA (by omega) (by first | exact hJAs | exact hT | exact (hJA.1.1 0 19 (by omega)).trans hT) (by first | exact lt_0 | exact lt_s (fun v hv hon => MoD_fr heb.2 hcn.2 hJA.1 (by omega) (hA v hv hon)) (fun _ => hJA.2) | exact lt_s hA (fun hon => absurd hon (by omega))) (by first | exact fun a b x y => hJAo a b (by omega) | exact hO | exact fun a b x y => (hJA.1.1 a b (by omega)).trans (hO a b x y)) (by omega)
  refine mk_aloadn (nx := 1) X 0 d_Mo_layAll_0 rfl rfl ?_
  refine mk_aloadn (nx := 2) X 0 d_Mo_layAll_1 rfl rfl ?_
  refine mk_callVi (nx := 5) (n := 0) (As := []) (rest := [.ref (ad 0)]) X 0 (by decide) (mh_Mo cs ad _) rfl (c_Mo_endOf l D cs ad hi c I h) (g_Mo_endOf wd_735) rfl ⟨rfl, rfl⟩ (by decide +kernel) ⟨by decide, by decide⟩ rfl (Nat.le_of_ble_eq_true rfl) rfl d_Mo_layAll_2 rfl ?_
  intro r2 J1 hJ1
  obtain ⟨rfl, rfl⟩ := hJ1
  refine mk_putf (nx := 8) (ty := .int) X t_Mo t_Mo_ok n_Mo 0 (by decide) (mh_Mo cs ad _) rfl in_Mo 19 (by decide) wd_614 rfl rfl (by decide +kernel) rfl rfl (Nat.le_of_ble_eq_true rfl) ((mh_Mo cs ad _).trans rfl) d_Mo_layAll_5 rfl ?_
  obtain ⟨J2, hJ2⟩ : ∃ W_ : Wo, W_ = up2 I 0 19 (an_end c) := ⟨_, rfl⟩
  refine mk_same hJ2.symm ?_
  have hJ2s : J2 0 19 = an_end c := hJ2 ▸ up2_ss I 0 19 (an_end c)
  have hJ2o : ∀ a b, (a ≠ 0 ∨ b ≠ 19) → J2 a b = I a b := hJ2 ▸ up2_o I 0 19 (an_end c)
  refine mk_iconst (nx := 9) X d_Mo_layAll_8 rfl ?_
  refine mk_istoren (nx := 10) X [(1, .int (zi 0)), (0, .ref (ad 0))] d_Mo_layAll_9 (by decide) rfl rfl ?_
  refine mk_lv [1, 0] rfl ?_
  exact L10 _ 0 J2 (by omega) (by first | exact hJ2s | exact hT | exact (hJA.1.1 0 19 (by omega)).trans hT) (by first | exact lt_0 | exact lt_s (fun v hv hon => MoD_fr heb.2 hcn.2 hJA.1 (by omega) (hA v hv hon)) (fun _ => hJA.2) | exact lt_s hA (fun hon => absurd hon (by omega))) (by first | exact fun a b x y => hJ2o a b (by omega) | exact hO | exact fun a b x y => (hJA.1.1 a b (by omega)).trans (hO a b x y)) (Nat.lt_succ_self _)

-- CanonMakerModel.at(II)I
theorem d_Mo_at_0 : decode prog_9_method_20_code 0 = .ok (.iload_n 1, 1) := by decide +kernel
theorem d_Mo_at_1 : decode prog_9_method_20_code 1 = .ok (.ifCond .lt 17, 3) := by decide +kernel
theorem d_Mo_at_4 : decode prog_9_method_20_code 4 = .ok (.iload_n 1, 1) := by decide +kernel
theorem d_Mo_at_5 : decode prog_9_method_20_code 5 = .ok (.iconst 3, 1) := by decide +kernel
theorem d_Mo_at_6 : decode prog_9_method_20_code 6 = .ok (.if_icmp .gt 12, 3) := by decide +kernel
theorem d_Mo_at_9 : decode prog_9_method_20_code 9 = .ok (.aload_n 0, 1) := by decide +kernel
theorem d_Mo_at_10 : decode prog_9_method_20_code 10 = .ok (.getfield 16, 3) := by decide +kernel
theorem d_Mo_at_13 : decode prog_9_method_20_code 13 = .ok (.iload_n 1, 1) := by decide +kernel
theorem d_Mo_at_14 : decode prog_9_method_20_code 14 = .ok (.baload, 1) := by decide +kernel
theorem d_Mo_at_15 : decode prog_9_method_20_code 15 = .ok (.ifCond .ne 7, 3) := by decide +kernel
theorem d_Mo_at_18 : decode prog_9_method_20_code 18 = .ok (.sipush 1002, 3) := by decide +kernel
theorem d_Mo_at_21 : decode prog_9_method_20_code 21 = .ok (.ireturn, 1) := by decide +kernel
theorem d_Mo_at_22 : decode prog_9_method_20_code 22 = .ok (.aload_n 0, 1) := by decide +kernel
theorem d_Mo_at_23 : decode prog_9_method_20_code 23 = .ok (.invokevirtual 100, 3) := by decide +kernel
theorem d_Mo_at_26 : decode prog_9_method_20_code 26 = .ok (.iload_n 2, 1) := by decide +kernel
theorem d_Mo_at_27 : decode prog_9_method_20_code 27 = .ok (.ifCond .lt 11, 3) := by decide +kernel
theorem d_Mo_at_30 : decode prog_9_method_20_code 30 = .ok (.iload_n 2, 1) := by decide +kernel
theorem d_Mo_at_31 : decode prog_9_method_20_code 31 = .ok (.aload_n 0, 1) := by decide +kernel
theorem d_Mo_at_32 : decode prog_9_method_20_code 32 = .ok (.getfield 82, 3) := by decide +kernel
theorem d_Mo_at_35 : decode prog_9_method_20_code 35 = .ok (.if_icmp .lt 9, 3) := by decide +kernel
theorem d_Mo_at_38 : decode prog_9_method_20_code 38 = .ok (.sipush 1000, 3) := by decide +kernel
theorem d_Mo_at_41 : decode prog_9_method_20_code 41 = .ok (.goto 15, 3) := by decide +kernel
theorem d_Mo_at_44 : decode prog_9_method_20_code 44 = .ok (.aload_n 0, 1) := by decide +kernel
theorem d_Mo_at_45 : decode prog_9_method_20_code 45 = .ok (.getfield 42, 3) := by decide +kernel
theorem d_Mo_at_48 : decode prog_9_method_20_code 48 = .ok (.sipush 1300, 3) := by decide +kernel
theorem d_Mo_at_51 : decode prog_9_method_20_code 51 = .ok (.iload_n 1, 1) := by decide +kernel
theorem d_Mo_at_52 : decode prog_9_method_20_code 52 = .ok (.imul, 1) := by decide +kernel
theorem d_Mo_at_53 : decode prog_9_method_20_code 53 = .ok (.iload_n 2, 1) := by decide +kernel
theorem d_Mo_at_54 : decode prog_9_method_20_code 54 = .ok (.iadd, 1) := by decide +kernel
theorem d_Mo_at_55 : decode prog_9_method_20_code 55 = .ok (.iaload, 1) := by decide +kernel
theorem d_Mo_at_56 : decode prog_9_method_20_code 56 = .ok (.ireturn, 1) := by decide +kernel
abbrev rm_Mo_at : Room := { frames := 4, cells := 0, slots := 0, locals := 87 }
set_option maxHeartbeats 4000000 in
set_option maxRecDepth 100000 in
theorem c_Mo_at (l : Launch) (D : va_G) (cs : Nat → ClassId) (ad : Nat → Nat) (hi : mo_inj ad) (c I : Wo) (h : moR c I) (v : Int) (h_v : -2147483648 ≤ v ∧ v < 2147483648) (t : Int) (h_t : -2147483648 ≤ t ∧ t < 2147483648) : mo_C l D cs ad y_Mo_at ws_Mo_at rm_Mo_at [.ref (ad 0), .int (zi v), .int (zi t)] I (mk_pi (fun r J => r = an_at c v t ∧ moR c J)) := by
  refine mk_meti (own := "CanonMakerModel") (Ts := wA) hi (Nat.le_refl _) (by decide) rfl (fun w h => List.mem_cons_of_mem _ h) rfl (Nat.le_of_ble_eq_true rfl) [(0, .ref (ad 0)), (1, .int (zi v)), (2, .int (zi t))] rfl ?_
  intro p_ e_ s_ m_ as_ bl_ me_ co_ Q_ X hret
  obtain ⟨⟨⟨hn, hN⟩, ⟨hlo, hsc, hbt, hru, hrd, hst⟩, ⟨hV, hV0⟩, ⟨hfc, hF⟩⟩, ⟨i12, iN⟩, ⟨⟨i50, i51, i52, i53, i54⟩, i07, i09⟩, iV, ⟨i010, iF⟩⟩ := id h
  have heb := an_end_b h.1.1 h.1.2.1 h.1.2.2.1
  refine mk_iloadn (nx := 1) X 1 d_Mo_at_0 rfl rfl ?_
  refine mk_if_lt (tgt := 18) (nx := 4) X d_Mo_at_1 (by omega) (by decide) rfl (fun c1 => ?_) (fun c1 => ?_)
  · skip
    refine mk_sipush (nx := 21) X d_Mo_at_18 (by decide) rfl ?_
    exact hret _ _ _ _ d_Mo_at_21 (by exact ⟨by rw [an_at, if_pos (by omega)], h⟩)
  · skip
    refine mk_iloadn (nx := 5) X 1 d_Mo_at_4 rfl rfl ?_
    refine mk_iconst (nx := 6) X d_Mo_at_5 rfl ?_
    refine mk_icmp_gt (tgt := 18) (nx := 9) X d_Mo_at_6 (by omega) (by omega) (by decide) rfl (fun c6 => ?_) (fun c6 => ?_)
    · skip
      refine mk_sipush (nx := 21) X d_Mo_at_18 (by decide) rfl ?_
      exact hret _ _ _ _ d_Mo_at_21 (by exact ⟨by rw [an_at, if_pos (by omega)], h⟩)
    · skip
      refine mk_aloadn (nx := 10) X 0 d_Mo_at_9 rfl rfl ?_
      refine mk_get (nx := 13) (v := .ref (ad 3)) X 0 (by decide) (mh_Mo cs ad _) rfl in_Mo 3 (by decide) wd_598 rfl rfl d_Mo_at_10 rfl ?_
      refine mk_iloadn (nx := 14) X 1 d_Mo_at_13 rfl rfl ?_
      refine mk_zald (nx := 15) (j := v.toNat) X 3 1 (by decide) (mh_on cs ad _) rfl (by omega) (by omega) (by decide) rfl d_Mo_at_14 rfl ?_
      rw [show I 3 v.toNat = c (3 + v.toNat) 0 from (iV v.toNat (by omega)).1]
      have hv5 := hV v.toNat (by omega)
      refine mk_if_ne (tgt := 22) (nx := 18) X d_Mo_at_15 (by omega) (by decide) rfl (fun c15 => ?_) (fun c15 => ?_)
      · skip
        refine mk_aloadn (nx := 23) X 0 d_Mo_at_22 rfl rfl ?_
        refine mk_callVv (nx := 26) (n := 0) (As := []) (rest := []) X 0 (by decide) (mh_Mo cs ad _) rfl (c_Mo_layAll l D cs ad hi c I h) (g_Mo_layAll wd_748) rfl ⟨rfl, rfl⟩ (by decide +kernel) ⟨by decide, by decide⟩ rfl (Nat.le_of_ble_eq_true rfl) rfl d_Mo_at_23 rfl ?_
        intro JA hJA
        have hRA : moR c JA := moR_fr (fun a b x y => hJA.2 a b (by omega) (by omega)) h
        refine mk_iloadn (nx := 27) X 2 d_Mo_at_26 rfl rfl ?_
        refine mk_if_lt (tgt := 38) (nx := 30) X d_Mo_at_27 (by omega) (by decide) rfl (fun c27 => ?_) (fun c27 => ?_)
        · skip
          refine mk_sipush (nx := 41) X d_Mo_at_38 (by decide) rfl ?_
          refine mk_goto (tgt := 56) X d_Mo_at_41 (by decide) ?_
          exact hret _ _ _ _ d_Mo_at_56 (by first | exact ⟨by rw [an_at, if_neg (by omega), if_pos (by omega)], hRA⟩ | exact ⟨by rw [an_at, if_neg (by omega), if_neg (by omega), show ((1300 * v) + t).toNat = 1300 * v.toNat + t.toNat by omega, ((hJA.1.2 v.toNat (by omega) (by omega)).2 t.toNat (by omega)).2.1, show ((t.toNat : Nat) : Int) = t by omega], hRA⟩)
        · skip
          refine mk_iloadn (nx := 31) X 2 d_Mo_at_30 rfl rfl ?_
          refine mk_aloadn (nx := 32) X 0 d_Mo_at_31 rfl rfl ?_
          refine mk_get (nx := 35) (v := .int (zi (JA 0 19))) X 0 (by decide) (mh_Mo cs ad _) rfl in_Mo 19 (by decide) wd_614 rfl rfl d_Mo_at_32 rfl ?_
          rw [show JA 0 19 = an_end c from hJA.1.1]
          refine mk_icmp_lt (tgt := 44) (nx := 38) X d_Mo_at_35 (by omega) (by omega) (by decide) rfl (fun c35 => ?_) (fun c35 => ?_)
          · skip
            refine mk_aloadn (nx := 45) X 0 d_Mo_at_44 rfl rfl ?_
            refine mk_get (nx := 48) (v := .ref (ad 8)) X 0 (by decide) (mh_Mo cs ad _) rfl in_Mo 15 (by decide) wd_610 rfl rfl d_Mo_at_45 rfl ?_
            refine mk_sipush (nx := 51) X d_Mo_at_48 (by decide) rfl ?_
            refine mk_iloadn (nx := 52) X 1 d_Mo_at_51 rfl rfl ?_
            refine mk_imul (nx := 53) X d_Mo_at_52 rfl ?_
            refine mk_iloadn (nx := 54) X 2 d_Mo_at_53 rfl rfl ?_
            refine mk_iadd (nx := 55) X d_Mo_at_54 rfl ?_
            refine mk_iald (nx := 56) (j := ((1300 * v) + t).toNat) X 8 0 (by decide) (mh_pitchAt cs ad _) rfl (by omega) (by omega) (by decide) rfl d_Mo_at_55 rfl ?_
            exact hret _ _ _ _ d_Mo_at_56 (by first | exact ⟨by rw [an_at, if_neg (by omega), if_pos (by omega)], hRA⟩ | exact ⟨by rw [an_at, if_neg (by omega), if_neg (by omega), show ((1300 * v) + t).toNat = 1300 * v.toNat + t.toNat by omega, ((hJA.1.2 v.toNat (by omega) (by omega)).2 t.toNat (by omega)).2.1, show ((t.toNat : Nat) : Int) = t by omega], hRA⟩)
          · skip
            refine mk_sipush (nx := 41) X d_Mo_at_38 (by decide) rfl ?_
            refine mk_goto (tgt := 56) X d_Mo_at_41 (by decide) ?_
            exact hret _ _ _ _ d_Mo_at_56 (by first | exact ⟨by rw [an_at, if_neg (by omega), if_pos (by omega)], hRA⟩ | exact ⟨by rw [an_at, if_neg (by omega), if_neg (by omega), show ((1300 * v) + t).toNat = 1300 * v.toNat + t.toNat by omega, ((hJA.1.2 v.toNat (by omega) (by omega)).2 t.toNat (by omega)).2.1, show ((t.toNat : Nat) : Int) = t by omega], hRA⟩)
      · skip
        refine mk_sipush (nx := 21) X d_Mo_at_18 (by decide) rfl ?_
        exact hret _ _ _ _ d_Mo_at_21 (by exact ⟨by rw [an_at, if_pos (by omega)], h⟩)

-- CanonMakerModel.sounds(II)Z
theorem d_Mo_sounds_0 : decode prog_9_method_22_code 0 = .ok (.aload_n 0, 1) := by decide +kernel
theorem d_Mo_sounds_1 : decode prog_9_method_22_code 1 = .ok (.getfield 16, 3) := by decide +kernel
theorem d_Mo_sounds_4 : decode prog_9_method_22_code 4 = .ok (.iload_n 1, 1) := by decide +kernel
theorem d_Mo_sounds_5 : decode prog_9_method_22_code 5 = .ok (.baload, 1) := by decide +kernel
theorem d_Mo_sounds_6 : decode prog_9_method_22_code 6 = .ok (.ifCond .eq 25, 3) := by decide +kernel
theorem d_Mo_sounds_9 : decode prog_9_method_22_code 9 = .ok (.aload_n 0, 1) := by decide +kernel
theorem d_Mo_sounds_10 : decode prog_9_method_22_code 10 = .ok (.getfield 42, 3) := by decide +kernel
theorem d_Mo_sounds_13 : decode prog_9_method_22_code 13 = .ok (.sipush 1300, 3) := by decide +kernel
theorem d_Mo_sounds_16 : decode prog_9_method_22_code 16 = .ok (.iload_n 1, 1) := by decide +kernel
theorem d_Mo_sounds_17 : decode prog_9_method_22_code 17 = .ok (.imul, 1) := by decide +kernel
theorem d_Mo_sounds_18 : decode prog_9_method_22_code 18 = .ok (.iload_n 2, 1) := by decide +kernel
theorem d_Mo_sounds_19 : decode prog_9_method_22_code 19 = .ok (.iadd, 1) := by decide +kernel
theorem d_Mo_sounds_20 : decode prog_9_method_22_code 20 = .ok (.iaload, 1) := by decide +kernel
theorem d_Mo_sounds_21 : decode prog_9_method_22_code 21 = .ok (.sipush 1000, 3) := by decide +kernel
theorem d_Mo_sounds_24 : decode prog_9_method_22_code 24 = .ok (.if_icmp .eq 7, 3) := by decide +kernel
theorem d_Mo_sounds_27 : decode prog_9_method_22_code 27 = .ok (.iconst 1, 1) := by decide +kernel
theorem d_Mo_sounds_28 : decode prog_9_method_22_code 28 = .ok (.goto 4, 3) := by decide +kernel
theorem d_Mo_sounds_31 : decode prog_9_method_22_code 31 = .ok (.iconst 0, 1) := by decide +kernel
theorem d_Mo_sounds_32 : decode prog_9_method_22_code 32 = .ok (.ireturn, 1) := by decide +kernel
abbrev rm_Mo_sounds : Room := { frames := 0, cells := 0, slots := 0, locals := 0 }
set_option maxHeartbeats 4000000 in
set_option maxRecDepth 100000 in
theorem c_Mo_sounds (l : Launch) (D : va_G) (cs : Nat → ClassId) (ad : Nat → Nat) (hi : mo_inj ad) (c I : Wo) (h : moR c I) (hL : MoL c I) (v : Nat) (hv : v < 4) (t : Nat) (ht : (t : Int) < an_end c) : mo_C l D cs ad y_Mo_sounds ws_Mo_sounds rm_Mo_sounds [.ref (ad 0), .int (zi (v : Int)), .int (zi (t : Int))] I (mk_pi (fun r J => I = J ∧ ((r = 1 ∧ c (3 + v) 0 = 1 ∧ ¬ cpt c v t = 1000) ∨ (r = 0 ∧ ¬ (c (3 + v) 0 = 1 ∧ ¬ cpt c v t = 1000))))) := by
  refine mk_metz (own := "CanonMakerModel") (Ts := wA) hi (Nat.le_refl _) (by decide) rfl (fun w h => List.mem_cons_of_mem _ h) rfl (Nat.le_of_ble_eq_true rfl) [(0, .ref (ad 0)), (1, .int (zi (v : Int))), (2, .int (zi (t : Int)))] rfl ?_
  intro p_ e_ s_ m_ as_ bl_ me_ co_ Q_ X hret
  obtain ⟨⟨⟨hn, hN⟩, ⟨hlo, hsc, hbt, hru, hrd, hst⟩, ⟨hV, hV0⟩, ⟨hfc, hF⟩⟩, ⟨i12, iN⟩, ⟨⟨i50, i51, i52, i53, i54⟩, i07, i09⟩, iV, ⟨i010, iF⟩⟩ := id h
  have heb := an_end_b h.1.1 h.1.2.1 h.1.2.2.1
  have hcn := cn_e h.1.1
  have hv5 := hV v hv
  have hpb := cpt_b h.1.1 h.1.2.2.1 hv (t : Int)
  have hsb := csk_b c v (t : Int)
  have hlb := cpl_b h.1.1 h.1.2.2.1 hv (t : Int)
  refine mk_aloadn (nx := 1) X 0 d_Mo_sounds_0 rfl rfl ?_
  refine mk_get (nx := 4) (v := .ref (ad 3)) X 0 (by decide) (mh_Mo cs ad _) rfl in_Mo 3 (by decide) wd_598 rfl rfl d_Mo_sounds_1 rfl ?_
  refine mk_iloadn (nx := 5) X 1 d_Mo_sounds_4 rfl rfl ?_
  refine mk_zald (nx := 6) (j := v) X 3 1 (by decide) (mh_on cs ad _) rfl (by omega) (by omega) (by decide) rfl d_Mo_sounds_5 rfl ?_
  rw [show I 3 v = c (3 + v) 0 from (iV v hv).1]
  refine mk_if_eq (tgt := 31) (nx := 9) X d_Mo_sounds_6 (by omega) (by decide) rfl (fun c6 => ?_) (fun c6 => ?_)
  · skip
    refine mk_iconst (nx := 32) X d_Mo_sounds_31 rfl ?_
    exact hret _ _ _ _ d_Mo_sounds_32 (by omega) (by exact ⟨rfl, by omega⟩)
  · skip
    refine mk_aloadn (nx := 10) X 0 d_Mo_sounds_9 rfl rfl ?_
    refine mk_get (nx := 13) (v := .ref (ad 8)) X 0 (by decide) (mh_Mo cs ad _) rfl in_Mo 15 (by decide) wd_610 rfl rfl d_Mo_sounds_10 rfl ?_
    refine mk_sipush (nx := 16) X d_Mo_sounds_13 (by decide) rfl ?_
    refine mk_iloadn (nx := 17) X 1 d_Mo_sounds_16 rfl rfl ?_
    refine mk_imul (nx := 18) X d_Mo_sounds_17 rfl ?_
    refine mk_iloadn (nx := 19) X 2 d_Mo_sounds_18 rfl rfl ?_
    refine mk_iadd (nx := 20) X d_Mo_sounds_19 rfl ?_
    refine mk_iald (nx := 21) (j := ((1300 * v) + t)) X 8 0 (by decide) (mh_pitchAt cs ad _) rfl (by omega) (by omega) (by decide) (by omega) d_Mo_sounds_20 rfl ?_
    rw [show I 8 ((1300 * v) + t) = cpt c v (t : Int) from ((hL.2 v hv (by omega)).2 t ht).2.1]
    refine mk_sipush (nx := 24) X d_Mo_sounds_21 (by decide) rfl ?_
    refine mk_icmp_eq (tgt := 31) (nx := 27) X d_Mo_sounds_24 (by omega) (by omega) (by decide) rfl (fun c24 => ?_) (fun c24 => ?_)
    · skip
      refine mk_iconst (nx := 32) X d_Mo_sounds_31 rfl ?_
      exact hret _ _ _ _ d_Mo_sounds_32 (by omega) (by exact ⟨rfl, by omega⟩)
    · skip
      refine mk_iconst (nx := 28) X d_Mo_sounds_27 rfl ?_
      refine mk_goto (tgt := 32) X d_Mo_sounds_28 (by decide) ?_
      exact hret _ _ _ _ d_Mo_sounds_32 (by omega) (by exact ⟨rfl, by omega⟩)

-- CanonMakerModel.isStruck(II)Z
theorem d_Mo_isStruck_0 : decode prog_9_method_23_code 0 = .ok (.aload_n 0, 1) := by decide +kernel
theorem d_Mo_isStruck_1 : decode prog_9_method_23_code 1 = .ok (.getfield 16, 3) := by decide +kernel
theorem d_Mo_isStruck_4 : decode prog_9_method_23_code 4 = .ok (.iload_n 1, 1) := by decide +kernel
theorem d_Mo_isStruck_5 : decode prog_9_method_23_code 5 = .ok (.baload, 1) := by decide +kernel
theorem d_Mo_isStruck_6 : decode prog_9_method_23_code 6 = .ok (.ifCond .eq 22, 3) := by decide +kernel
theorem d_Mo_isStruck_9 : decode prog_9_method_23_code 9 = .ok (.aload_n 0, 1) := by decide +kernel
theorem d_Mo_isStruck_10 : decode prog_9_method_23_code 10 = .ok (.getfield 45, 3) := by decide +kernel
theorem d_Mo_isStruck_13 : decode prog_9_method_23_code 13 = .ok (.sipush 1300, 3) := by decide +kernel
theorem d_Mo_isStruck_16 : decode prog_9_method_23_code 16 = .ok (.iload_n 1, 1) := by decide +kernel
theorem d_Mo_isStruck_17 : decode prog_9_method_23_code 17 = .ok (.imul, 1) := by decide +kernel
theorem d_Mo_isStruck_18 : decode prog_9_method_23_code 18 = .ok (.iload_n 2, 1) := by decide +kernel
theorem d_Mo_isStruck_19 : decode prog_9_method_23_code 19 = .ok (.iadd, 1) := by decide +kernel
theorem d_Mo_isStruck_20 : decode prog_9_method_23_code 20 = .ok (.baload, 1) := by decide +kernel
theorem d_Mo_isStruck_21 : decode prog_9_method_23_code 21 = .ok (.ifCond .eq 7, 3) := by decide +kernel
theorem d_Mo_isStruck_24 : decode prog_9_method_23_code 24 = .ok (.iconst 1, 1) := by decide +kernel
theorem d_Mo_isStruck_25 : decode prog_9_method_23_code 25 = .ok (.goto 4, 3) := by decide +kernel
theorem d_Mo_isStruck_28 : decode prog_9_method_23_code 28 = .ok (.iconst 0, 1) := by decide +kernel
theorem d_Mo_isStruck_29 : decode prog_9_method_23_code 29 = .ok (.ireturn, 1) := by decide +kernel
abbrev rm_Mo_isStruck : Room := { frames := 0, cells := 0, slots := 0, locals := 0 }
set_option maxHeartbeats 4000000 in
set_option maxRecDepth 100000 in
theorem c_Mo_isStruck (l : Launch) (D : va_G) (cs : Nat → ClassId) (ad : Nat → Nat) (hi : mo_inj ad) (c I : Wo) (h : moR c I) (hL : MoL c I) (v : Nat) (hv : v < 4) (t : Nat) (ht : (t : Int) < an_end c) : mo_C l D cs ad y_Mo_isStruck ws_Mo_isStruck rm_Mo_isStruck [.ref (ad 0), .int (zi (v : Int)), .int (zi (t : Int))] I (mk_pi (fun r J => I = J ∧ ((r = 1 ∧ c (3 + v) 0 = 1 ∧ csk c v t = 1) ∨ (r = 0 ∧ ¬ (c (3 + v) 0 = 1 ∧ csk c v t = 1))))) := by
  refine mk_metz (own := "CanonMakerModel") (Ts := wA) hi (Nat.le_refl _) (by decide) rfl (fun w h => List.mem_cons_of_mem _ h) rfl (Nat.le_of_ble_eq_true rfl) [(0, .ref (ad 0)), (1, .int (zi (v : Int))), (2, .int (zi (t : Int)))] rfl ?_
  intro p_ e_ s_ m_ as_ bl_ me_ co_ Q_ X hret
  obtain ⟨⟨⟨hn, hN⟩, ⟨hlo, hsc, hbt, hru, hrd, hst⟩, ⟨hV, hV0⟩, ⟨hfc, hF⟩⟩, ⟨i12, iN⟩, ⟨⟨i50, i51, i52, i53, i54⟩, i07, i09⟩, iV, ⟨i010, iF⟩⟩ := id h
  have heb := an_end_b h.1.1 h.1.2.1 h.1.2.2.1
  have hcn := cn_e h.1.1
  have hv5 := hV v hv
  have hpb := cpt_b h.1.1 h.1.2.2.1 hv (t : Int)
  have hsb := csk_b c v (t : Int)
  have hlb := cpl_b h.1.1 h.1.2.2.1 hv (t : Int)
  refine mk_aloadn (nx := 1) X 0 d_Mo_isStruck_0 rfl rfl ?_
  refine mk_get (nx := 4) (v := .ref (ad 3)) X 0 (by decide) (mh_Mo cs ad _) rfl in_Mo 3 (by decide) wd_598 rfl rfl d_Mo_isStruck_1 rfl ?_
  refine mk_iloadn (nx := 5) X 1 d_Mo_isStruck_4 rfl rfl ?_
  refine mk_zald (nx := 6) (j := v) X 3 1 (by decide) (mh_on cs ad _) rfl (by omega) (by omega) (by decide) rfl d_Mo_isStruck_5 rfl ?_
  rw [show I 3 v = c (3 + v) 0 from (iV v hv).1]
  refine mk_if_eq (tgt := 28) (nx := 9) X d_Mo_isStruck_6 (by omega) (by decide) rfl (fun c6 => ?_) (fun c6 => ?_)
  · skip
    refine mk_iconst (nx := 29) X d_Mo_isStruck_28 rfl ?_
    exact hret _ _ _ _ d_Mo_isStruck_29 (by omega) (by exact ⟨rfl, by omega⟩)
  · skip
    refine mk_aloadn (nx := 10) X 0 d_Mo_isStruck_9 rfl rfl ?_
    refine mk_get (nx := 13) (v := .ref (ad 9)) X 0 (by decide) (mh_Mo cs ad _) rfl in_Mo 16 (by decide) wd_611 rfl rfl d_Mo_isStruck_10 rfl ?_
    refine mk_sipush (nx := 16) X d_Mo_isStruck_13 (by decide) rfl ?_
    refine mk_iloadn (nx := 17) X 1 d_Mo_isStruck_16 rfl rfl ?_
    refine mk_imul (nx := 18) X d_Mo_isStruck_17 rfl ?_
    refine mk_iloadn (nx := 19) X 2 d_Mo_isStruck_18 rfl rfl ?_
    refine mk_iadd (nx := 20) X d_Mo_isStruck_19 rfl ?_
    refine mk_zald (nx := 21) (j := ((1300 * v) + t)) X 9 1 (by decide) (mh_struck cs ad _) rfl (by omega) (by omega) (by decide) (by omega) d_Mo_isStruck_20 rfl ?_
    rw [show I 9 ((1300 * v) + t) = csk c v (t : Int) from ((hL.2 v hv (by omega)).2 t ht).2.2]
    refine mk_if_eq (tgt := 28) (nx := 24) X d_Mo_isStruck_21 (by omega) (by decide) rfl (fun c21 => ?_) (fun c21 => ?_)
    · skip
      refine mk_iconst (nx := 29) X d_Mo_isStruck_28 rfl ?_
      exact hret _ _ _ _ d_Mo_isStruck_29 (by omega) (by exact ⟨rfl, by omega⟩)
    · skip
      refine mk_iconst (nx := 25) X d_Mo_isStruck_24 rfl ?_
      refine mk_goto (tgt := 29) X d_Mo_isStruck_25 (by decide) ?_
      exact hret _ _ _ _ d_Mo_isStruck_29 (by omega) (by exact ⟨rfl, by omega⟩)

-- CanonMakerModel.gap(II)I
theorem d_Mo_gap_0 : decode prog_9_method_25_code 0 = .ok (.iload_n 0, 1) := by decide +kernel
theorem d_Mo_gap_1 : decode prog_9_method_25_code 1 = .ok (.iload_n 1, 1) := by decide +kernel
theorem d_Mo_gap_2 : decode prog_9_method_25_code 2 = .ok (.if_icmp .ge 9, 3) := by decide +kernel
theorem d_Mo_gap_5 : decode prog_9_method_25_code 5 = .ok (.iload_n 1, 1) := by decide +kernel
theorem d_Mo_gap_6 : decode prog_9_method_25_code 6 = .ok (.iload_n 0, 1) := by decide +kernel
theorem d_Mo_gap_7 : decode prog_9_method_25_code 7 = .ok (.isub, 1) := by decide +kernel
theorem d_Mo_gap_8 : decode prog_9_method_25_code 8 = .ok (.goto 6, 3) := by decide +kernel
theorem d_Mo_gap_11 : decode prog_9_method_25_code 11 = .ok (.iload_n 0, 1) := by decide +kernel
theorem d_Mo_gap_12 : decode prog_9_method_25_code 12 = .ok (.iload_n 1, 1) := by decide +kernel
theorem d_Mo_gap_13 : decode prog_9_method_25_code 13 = .ok (.isub, 1) := by decide +kernel
theorem d_Mo_gap_14 : decode prog_9_method_25_code 14 = .ok (.bipush 12, 2) := by decide +kernel
theorem d_Mo_gap_16 : decode prog_9_method_25_code 16 = .ok (.irem, 1) := by decide +kernel
theorem d_Mo_gap_17 : decode prog_9_method_25_code 17 = .ok (.ireturn, 1) := by decide +kernel
abbrev rm_Mo_gap : Room := { frames := 0, cells := 0, slots := 0, locals := 0 }
set_option maxHeartbeats 4000000 in
set_option maxRecDepth 100000 in
theorem c_Mo_gap (l : Launch) (D : va_G) (cs : Nat → ClassId) (ad : Nat → Nat) (hi : mo_inj ad) (I : Wo) (a b : Int) (ha : -100000 ≤ a ∧ a ≤ 100000) (hb : -100000 ≤ b ∧ b ≤ 100000) : mo_C l D cs ad y_Mo_gap ws_Mo_gap rm_Mo_gap [.int (zi a), .int (zi b)] I (mk_pi (fun r J => I = J ∧ r = gp a b)) := by
  refine mk_meti (own := "CanonMakerModel") (Ts := wA) hi (Nat.le_refl _) (by decide) rfl (fun w h => List.mem_cons_of_mem _ h) rfl (Nat.le_of_ble_eq_true rfl) [(0, .int (zi a)), (1, .int (zi b))] rfl ?_
  intro p_ e_ s_ m_ as_ bl_ me_ co_ Q_ X hret
  refine mk_iloadn (nx := 1) X 0 d_Mo_gap_0 rfl rfl ?_
  refine mk_iloadn (nx := 2) X 1 d_Mo_gap_1 rfl rfl ?_
  refine mk_icmp_ge (tgt := 11) (nx := 5) X d_Mo_gap_2 (by omega) (by omega) (by decide) rfl (fun c2 => ?_) (fun c2 => ?_)
  · skip
    refine mk_iloadn (nx := 12) X 0 d_Mo_gap_11 rfl rfl ?_
    refine mk_iloadn (nx := 13) X 1 d_Mo_gap_12 rfl rfl ?_
    refine mk_isub (nx := 14) X d_Mo_gap_13 rfl ?_
    refine mk_bipush (nx := 16) X d_Mo_gap_14 (by decide) rfl ?_
    refine mk_irem (nx := 17) X d_Mo_gap_16 (by omega) (by omega) (by omega) rfl ?_
    exact hret _ _ _ _ d_Mo_gap_17 (by exact ⟨rfl, by unfold gp; rw [Int.tmod_eq_emod_of_nonneg (by omega)]; omega⟩)
  · skip
    refine mk_iloadn (nx := 6) X 1 d_Mo_gap_5 rfl rfl ?_
    refine mk_iloadn (nx := 7) X 0 d_Mo_gap_6 rfl rfl ?_
    refine mk_isub (nx := 8) X d_Mo_gap_7 rfl ?_
    refine mk_goto (tgt := 14) X d_Mo_gap_8 (by decide) ?_
    refine mk_bipush (nx := 16) X d_Mo_gap_14 (by decide) rfl ?_
    refine mk_irem (nx := 17) X d_Mo_gap_16 (by omega) (by omega) (by omega) rfl ?_
    exact hret _ _ _ _ d_Mo_gap_17 (by exact ⟨rfl, by unfold gp; rw [Int.tmod_eq_emod_of_nonneg (by omega)]; omega⟩)
