theorem jd_1 {c I J : Wo} {r : Int} (h : jdP c I 1 r J) : (r = 0 ∧ FL c = []) ∨ (r = 1 ∧ ¬ FL c = []) := by
  rcases h.2 with ⟨k, x, h1, h2, h3, _⟩ | ⟨h1, h2⟩
  · exact Or.inr ⟨h2, fun e => by rw [e] at h3; simp at h3⟩
  · have h4 : (FL c).length = 0 := by omega
    exact Or.inl ⟨by omega, List.eq_nil_of_length_eq_zero h4⟩
theorem jd_m {c I J : Wo} {r : Int} (h : jdP c I (-1) r J) : r = (FL c).length := by
  rcases h.2 with ⟨k, x, h1, _⟩ | ⟨h1, h2⟩
  · omega
  · exact h2

-- CanonMakerModel.isClean()Z
theorem d_Mo_isClean_0 : decode prog_9_method_33_code 0 = .ok (.aload_n 0, 1) := by decide +kernel
theorem d_Mo_isClean_1 : decode prog_9_method_33_code 1 = .ok (.invokevirtual 100, 3) := by decide +kernel
theorem d_Mo_isClean_4 : decode prog_9_method_33_code 4 = .ok (.aload_n 0, 1) := by decide +kernel
theorem d_Mo_isClean_5 : decode prog_9_method_33_code 5 = .ok (.iconst 1, 1) := by decide +kernel
theorem d_Mo_isClean_6 : decode prog_9_method_33_code 6 = .ok (.invokevirtual 147, 3) := by decide +kernel
theorem d_Mo_isClean_9 : decode prog_9_method_33_code 9 = .ok (.ifCond .ne 7, 3) := by decide +kernel
theorem d_Mo_isClean_12 : decode prog_9_method_33_code 12 = .ok (.iconst 1, 1) := by decide +kernel
theorem d_Mo_isClean_13 : decode prog_9_method_33_code 13 = .ok (.goto 4, 3) := by decide +kernel
theorem d_Mo_isClean_16 : decode prog_9_method_33_code 16 = .ok (.iconst 0, 1) := by decide +kernel
theorem d_Mo_isClean_17 : decode prog_9_method_33_code 17 = .ok (.ireturn, 1) := by decide +kernel
abbrev rm_Mo_isClean : Room := { frames := 7, cells := 0, slots := 0, locals := 186 }
set_option maxHeartbeats 4000000 in
set_option maxRecDepth 100000 in
theorem c_Mo_isClean (l : Launch) (D : va_G) (cs : Nat → ClassId) (ad : Nat → Nat) (hi : mo_inj ad) (c I : Wo) (h : moR c I) : mo_C l D cs ad y_Mo_isClean ws_Mo_isClean rm_Mo_isClean [.ref (ad 0)] I (mk_pi (fun r J => (∀ a b, (a < 8 ∨ 11 < a) → ¬ (a = 0 ∧ 18 < b ∧ b < 24) → J a b = I a b) ∧ ((r = 1 ∧ FL c = []) ∨ (r = 0 ∧ ¬ FL c = [])))) := by
  refine mk_metz (own := "CanonMakerModel") (Ts := wA) hi (Nat.le_refl _) (by decide) rfl (fun w h => List.mem_cons_of_mem _ h) rfl (Nat.le_of_ble_eq_true rfl) [(0, .ref (ad 0))] rfl ?_
  intro p_ e_ s_ m_ as_ bl_ me_ co_ Q_ X hret
  refine mk_aloadn (nx := 1) X 0 d_Mo_isClean_0 rfl rfl ?_
  refine mk_callVv (nx := 4) (n := 0) (As := []) (rest := []) X 0 (by decide) (mh_Mo cs ad _) rfl (c_Mo_layAll l D cs ad hi c I h) (g_Mo_layAll wd_748) rfl ⟨rfl, rfl⟩ (by decide +kernel) ⟨by decide, by decide⟩ rfl (Nat.le_of_ble_eq_true rfl) rfl d_Mo_isClean_1 rfl ?_
  intro JA hJA
  have hRA : moR c JA := moR_fr (fun a b x y => hJA.2 a b (by omega) (by omega)) h
  refine mk_aloadn (nx := 5) X 0 d_Mo_isClean_4 rfl rfl ?_
  refine mk_iconst (nx := 6) X d_Mo_isClean_5 rfl ?_
  refine mk_callVi (nx := 9) (n := 1) (As := [.int (zi 1)]) (rest := []) X 0 (by decide) (mh_Mo cs ad _) rfl (c_Mo_judge l D cs ad hi c JA hRA hJA.1 1 (by omega)) (g_Mo_judge wd_768) rfl ⟨rfl, rfl⟩ (by decide +kernel) ⟨by decide, by decide⟩ rfl (Nat.le_of_ble_eq_true rfl) rfl d_Mo_isClean_6 rfl ?_
  intro r6 JB hJB
  have hfr : ∀ a b, (a < 8 ∨ 11 < a) → ¬ (a = 0 ∧ 18 < b ∧ b < 24) → JB a b = I a b := fun a b x y => (hJB.1 a b (by omega)).trans (hJA.2 a b x (by omega))
  have hcl := jd_1 hJB
  have hr6 : r6 = 0 ∨ r6 = 1 := hcl.elim (fun e => Or.inl e.1) (fun e => Or.inr e.1)
  refine mk_if_ne (tgt := 16) (nx := 12) X d_Mo_isClean_9 (by omega) (by decide) rfl (fun c9 => ?_) (fun c9 => ?_)
  · skip
    refine mk_iconst (nx := 17) X d_Mo_isClean_16 rfl ?_
    exact hret _ _ _ _ d_Mo_isClean_17 (by omega) (by first | exact ⟨hfr, Or.inr ⟨rfl, (hcl.resolve_left (fun z => absurd z.1 (by omega))).2⟩⟩ | exact ⟨hfr, Or.inl ⟨rfl, (hcl.resolve_right (fun z => absurd z.1 (by omega))).2⟩⟩)
  · skip
    refine mk_iconst (nx := 13) X d_Mo_isClean_12 rfl ?_
    refine mk_goto (tgt := 17) X d_Mo_isClean_13 (by decide) ?_
    exact hret _ _ _ _ d_Mo_isClean_17 (by omega) (by first | exact ⟨hfr, Or.inr ⟨rfl, (hcl.resolve_left (fun z => absurd z.1 (by omega))).2⟩⟩ | exact ⟨hfr, Or.inl ⟨rfl, (hcl.resolve_right (fun z => absurd z.1 (by omega))).2⟩⟩)

-- CanonMakerModel.faults()I
theorem d_Mo_faults_0 : decode prog_9_method_31_code 0 = .ok (.aload_n 0, 1) := by decide +kernel
theorem d_Mo_faults_1 : decode prog_9_method_31_code 1 = .ok (.invokevirtual 143, 3) := by decide +kernel
theorem d_Mo_faults_4 : decode prog_9_method_31_code 4 = .ok (.ifCond .eq 6, 3) := by decide +kernel
theorem d_Mo_faults_7 : decode prog_9_method_31_code 7 = .ok (.bipush (-3), 2) := by decide +kernel
theorem d_Mo_faults_9 : decode prog_9_method_31_code 9 = .ok (.ireturn, 1) := by decide +kernel
theorem d_Mo_faults_10 : decode prog_9_method_31_code 10 = .ok (.aload_n 0, 1) := by decide +kernel
theorem d_Mo_faults_11 : decode prog_9_method_31_code 11 = .ok (.invokevirtual 100, 3) := by decide +kernel
theorem d_Mo_faults_14 : decode prog_9_method_31_code 14 = .ok (.aload_n 0, 1) := by decide +kernel
theorem d_Mo_faults_15 : decode prog_9_method_31_code 15 = .ok (.iconst (-1), 1) := by decide +kernel
theorem d_Mo_faults_16 : decode prog_9_method_31_code 16 = .ok (.invokevirtual 147, 3) := by decide +kernel
theorem d_Mo_faults_19 : decode prog_9_method_31_code 19 = .ok (.ireturn, 1) := by decide +kernel
abbrev rm_Mo_faults : Room := { frames := 7, cells := 0, slots := 0, locals := 186 }
set_option maxHeartbeats 4000000 in
set_option maxRecDepth 100000 in
theorem c_Mo_faults (l : Launch) (D : va_G) (cs : Nat → ClassId) (ad : Nat → Nat) (hi : mo_inj ad) (c I : Wo) (h : moR c I) : mo_C l D cs ad y_Mo_faults ws_Mo_faults rm_Mo_faults [.ref (ad 0)] I (mk_pi (fun r J => moR c J ∧ (((∃ v, v < 4 ∧ tl c v) ∧ r = -3) ∨ ((∀ v, v < 4 → ¬ tl c v) ∧ r = (FL c).length)))) := by
  refine mk_meti (own := "CanonMakerModel") (Ts := wA) hi (Nat.le_refl _) (by decide) rfl (fun w h => List.mem_cons_of_mem _ h) rfl (Nat.le_of_ble_eq_true rfl) [(0, .ref (ad 0))] rfl ?_
  intro p_ e_ s_ m_ as_ bl_ me_ co_ Q_ X hret
  refine mk_aloadn (nx := 1) X 0 d_Mo_faults_0 rfl rfl ?_
  refine mk_callVi (nx := 4) (n := 0) (As := []) (rest := []) X 0 (by decide) (mh_Mo cs ad _) rfl (c_Mo_isLong l D cs ad hi c I h) (g_Mo_isLong wd_764) rfl ⟨rfl, rfl⟩ (by decide +kernel) ⟨by decide, by decide⟩ rfl (Nat.le_of_ble_eq_true rfl) rfl d_Mo_faults_1 rfl ?_
  intro r1 J1 hJ1
  obtain ⟨rfl, hr1⟩ := hJ1
  have hr1b : r1 = 1 ∨ r1 = 0 := hr1.elim (fun e => Or.inl e.1) (fun e => Or.inr e.1)
  refine mk_if_eq (tgt := 10) (nx := 7) X d_Mo_faults_4 (by omega) (by decide) rfl (fun c4 => ?_) (fun c4 => ?_)
  · skip
    refine mk_aloadn (nx := 11) X 0 d_Mo_faults_10 rfl rfl ?_
    refine mk_callVv (nx := 14) (n := 0) (As := []) (rest := []) X 0 (by decide) (mh_Mo cs ad _) rfl (c_Mo_layAll l D cs ad hi c I h) (g_Mo_layAll wd_748) rfl ⟨rfl, rfl⟩ (by decide +kernel) ⟨by decide, by decide⟩ rfl (Nat.le_of_ble_eq_true rfl) rfl d_Mo_faults_11 rfl ?_
    intro JA hJA
    have hRA : moR c JA := moR_fr (fun a b x y => hJA.2 a b (by omega) (by omega)) h
    refine mk_aloadn (nx := 15) X 0 d_Mo_faults_14 rfl rfl ?_
    refine mk_iconst (nx := 16) X d_Mo_faults_15 rfl ?_
    refine mk_callVi (nx := 19) (n := 1) (As := [.int (zi (-1))]) (rest := []) X 0 (by decide) (mh_Mo cs ad _) rfl (c_Mo_judge l D cs ad hi c JA hRA hJA.1 (-1) (by omega)) (g_Mo_judge wd_768) rfl ⟨rfl, rfl⟩ (by decide +kernel) ⟨by decide, by decide⟩ rfl (Nat.le_of_ble_eq_true rfl) rfl d_Mo_faults_16 rfl ?_
    intro r16 JB hJB
    have hfr : ∀ a b, (a < 8 ∨ 11 < a) → ¬ (a = 0 ∧ 18 < b ∧ b < 24) → JB a b = I a b := fun a b x y => (hJB.1 a b (by omega)).trans (hJA.2 a b x (by omega))
    have hRB : moR c JB := moR_fr (fun a b x y => hfr a b (by omega) (by omega)) h
    have hm := jd_m hJB
    exact hret _ _ _ _ d_Mo_faults_19 (by exact ⟨hRB, Or.inr ⟨(hr1.resolve_left (fun z => absurd z.1 (by omega))).2, hm⟩⟩)
  · skip
    refine mk_bipush (nx := 9) X d_Mo_faults_7 (by decide) rfl ?_
    exact hret _ _ _ _ d_Mo_faults_9 (by exact ⟨h, Or.inl ⟨(hr1.resolve_right (fun z => absurd z.1 (by omega))).2, rfl⟩⟩)
