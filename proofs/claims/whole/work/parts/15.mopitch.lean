/-! the reference's lay: which entry an offset meets -/
theorem eo_ge {c : Wo} {v : Nat} (hon : c (3 + v) 0 = 1) : ∀ m, v < m → c (3 + v) 1 + an_size c * c (3 + v) 4 ≤ eo c m := by
  intro m
  induction m with
  | zero => intro h; omega
  | succ m ih =>
    intro h
    simp only [eo]
    by_cases e : v = m
    · subst e; rw [if_pos hon]; omega
    · have := ih (by omega)
      split <;> omega
section ML
variable {c : Wo} {v : Nat}
/-- the entry at which the offset o of the LINE lies -/
def mlx (c : Wo) (v : Nat) (o : Int) : Int := if 0 < c 0 6 then (c (3 + v) 1 + o) % c 0 6 else c (3 + v) 1 + o
theorem mlx_b (h : wfN c) (hS : wfS c) (hV : wfV c) (hv : v < 4) (hon : c (3 + v) 0 = 1) {o : Int} (h0 : 0 ≤ o) (h1 : o < cbg c v (cn c)) : 0 ≤ mlx c v o ∧ mlx c v o < an_end c := by
  have hd := (hV.1 v hv).2.1
  unfold mlx an_end
  by_cases hr : 0 < c 0 6
  · rw [if_pos hr, if_pos hr]
    exact ⟨Int.emod_nonneg _ (by omega), Int.emod_lt_of_pos _ hr⟩
  · rw [if_neg hr, if_neg hr]
    have h2 := eo_ge hon 4 hv
    rw [cbg_all] at h1
    omega
theorem csn_mlx (hS : wfS c) {o : Int} (h0 : 0 ≤ o) : csn c v (mlx c v o) = if 0 < c 0 6 then o % c 0 6 else o := by
  unfold csn mlx
  by_cases hr : 0 < c 0 6
  · rw [if_pos hr, if_pos hr, if_pos hr, Int.sub_emod, Int.emod_emod, ← Int.sub_emod]
    congr 1
    omega
  · rw [if_neg hr, if_neg hr, if_neg hr]
    omega
theorem csn_nn (x : Int) (hr : 0 < c 0 6) : 0 ≤ csn c v x ∧ csn c v x < c 0 6 := by
  unfold csn
  rw [if_pos hr]
  exact ⟨Int.emod_nonneg _ (by omega), Int.emod_lt_of_pos _ hr⟩
theorem csn_inj {x y : Int} (hx : 0 ≤ x ∧ x < an_end c) (hy : 0 ≤ y ∧ y < an_end c) (h : csn c v x = csn c v y) : x = y := by
  unfold csn at h
  unfold an_end at hx hy
  by_cases hr : 0 < c 0 6
  · rw [if_pos hr] at hx hy h
    rw [if_pos hr] at h
    have h1 := Int.emod_emod_of_dvd (x - c (3 + v) 1 - (y - c (3 + v) 1)) (Int.dvd_refl (c 0 6))
    have h2 : (x - c (3 + v) 1 - (y - c (3 + v) 1)) % c 0 6 = 0 := by
      rw [Int.sub_emod, h, Int.sub_self, Int.zero_emod]
    rw [show x - c (3 + v) 1 - (y - c (3 + v) 1) = x - y by omega] at h2
    obtain ⟨k, hk⟩ := Int.dvd_of_emod_eq_zero h2
    have h3 : -c 0 6 < x - y ∧ x - y < c 0 6 := by omega
    rw [hk] at h3
    have hk0 : k = 0 := by
      rcases Int.lt_trichotomy k 0 with q | q | q
      · have h5 : c 0 6 * k ≤ c 0 6 * (-1) := Int.mul_le_mul_of_nonneg_left (by omega) (by omega)
        omega
      · exact q
      · have h5 : c 0 6 * 1 ≤ c 0 6 * k := Int.mul_le_mul_of_nonneg_left (by omega) (by omega)
        omega
    rw [hk0] at hk
    omega
  · rw [if_neg hr, if_neg hr] at h
    omega
/-- lay's loop over the offsets: the entries whose offset is below lim are set -/
def MlV (c J : Wo) (v : Nat) (lim : Int) : Prop := ∀ x : Nat, (x : Int) < an_end c → (J 10 (1300 * v + x) = if 0 ≤ csn c v x ∧ csn c v x < lim then cpl c v x else -1) ∧ (J 8 (1300 * v + x) = if 0 ≤ csn c v x ∧ csn c v x < lim then cpt c v x else 1000) ∧ (J 9 (1300 * v + x) = if 0 ≤ csn c v x ∧ csn c v x < lim then csk c v x else 0)
def MlL (c J : Wo) (v m : Nat) : Prop := ∀ q, q < m → J 11 (24 * v + q) = clp c v q
def MlO (I J : Wo) (v : Nat) : Prop := (∀ a b, (a < 8 ∨ 11 < a) → J a b = I a b) ∧ (∀ a b, 8 ≤ a → a ≤ 10 → (b < 1300 * v ∨ 1300 * v + 1300 ≤ b) → J a b = I a b) ∧ ∀ b, (b < 24 * v ∨ 24 * v + 24 ≤ b) → J 11 b = I 11 b
theorem ml_A {J : Wo} (h : wfN c) (hS : wfS c) (hV : wfV c) (hv : v < 4) (hon : c (3 + v) 0 = 1) {o : Int} (h0 : 0 ≤ o) (h1 : o < cbg c v (cn c)) {x0 : Nat} (hx : (x0 : Int) = mlx c v o) (hM : MlV c J v o) (hs : 0 ≤ J 10 (1300 * v + x0)) : MlV c J v (o + 1) := by
  have hb := mlx_b h hS hV hv hon h0 h1
  have e0 := csn_mlx (v := v) hS h0
  rw [← hx] at e0 hb
  have hlt : 0 ≤ csn c v x0 ∧ csn c v x0 < o := by
    have := (hM x0 (by omega)).1
    by_cases hc : 0 ≤ csn c v x0 ∧ csn c v x0 < o
    · exact hc
    · rw [if_neg hc] at this; omega
  intro x hxT
  have hne : csn c v x ≠ o := by
    intro z
    by_cases hr : 0 < c 0 6
    · have h3 := csn_nn (c := c) (v := v) x hr
      rw [if_pos hr, Int.emod_eq_of_lt h0 (by omega)] at e0
      omega
    · rw [if_neg hr] at e0
      omega
  have hiff : (0 ≤ csn c v x ∧ csn c v x < o + 1) ↔ (0 ≤ csn c v x ∧ csn c v x < o) := by omega
  simp only [hiff]
  exact hM x hxT
theorem ml_B {J J1 J2 J3 : Wo} (h : wfN c) (hS : wfS c) (hV : wfV c) (hv : v < 4) (hon : c (3 + v) 0 = 1) {o : Int} {j : Nat} {sk : Int} (hj : j < cn c) (h0 : cbg c v j ≤ o) (h1 : o < cbg c v (j + 1)) {x0 : Nat} (hx : (x0 : Int) = mlx c v o) (hM : MlV c J v o) (hs : J 10 (1300 * v + x0) < 0)
    (e1 : J1 = up2 J 10 (1300 * v + x0) (j : Int)) (e2 : J2 = up2 J1 8 (1300 * v + x0) (clp c v j)) (e3 : J3 = up2 J2 9 (1300 * v + x0) sk) (hsk : sk = if o = cbg c v j ∧ ¬ clp c v j = 1000 then 1 else 0) : MlV c J3 v (o + 1) := by
  have hj0 := cbg_b h hV hv (Nat.le_of_lt hj)
  have hle : cbg c v (j + 1) ≤ cbg c v (cn c) := by
    by_cases e : j + 1 = cn c
    · rw [e]; exact Int.le_refl _
    · exact Int.le_of_lt (cbg_lt h hV hv (show j + 1 < cn c by omega) (Nat.le_refl _))
  have hb := mlx_b h hS hV hv hon (o := o) (by omega) (by omega)
  have e0 := csn_mlx (v := v) hS (o := o) (by omega)
  rw [← hx] at e0 hb
  have hs0 : csn c v x0 = o := by
    have h3 := (hM x0 (by omega)).1
    have h4 := cpl_b h hV hv (x0 : Int)
    have h5 : ¬ (0 ≤ csn c v x0 ∧ csn c v x0 < o) := by
      intro z
      rw [if_pos z] at h3
      rcases plc_spec h hV hv (csn c v x0) with q | ⟨p, a, b, _⟩
      · omega
      · unfold cpl at h3; omega
    by_cases hr : 0 < c 0 6
    · have h6 := csn_nn (c := c) (v := v) x0 hr
      rw [if_pos hr] at e0
      by_cases hlt : o < c 0 6
      · rw [e0, Int.emod_eq_of_lt (by omega) hlt]
      · omega
    · rw [e0, if_neg hr]
  have hpl : cpl c v x0 = j := by
    unfold cpl
    rw [hs0]
    exact plc_eq h hV hv hj h0 h1
  subst e3; subst e2; subst e1
  intro x hxT
  by_cases e : x = x0
  · subst e
    have hc : 0 ≤ csn c v x ∧ csn c v x < o + 1 := by omega
    simp only [if_pos hc]
    refine ⟨by simp [up2, up1, hpl], ?_, ?_⟩
    · have : cpt c v x = clp c v j := by
        unfold cpt
        rw [hpl, if_neg (by omega), Int.toNat_natCast]
      simp [up2, up1, this]
    · have : csk c v x = sk := by
        unfold csk
        rw [hpl, if_neg (by omega), Int.toNat_natCast, hs0, hsk]
      simp [up2, up1, this]
  · have hne : csn c v x ≠ o := fun z => e (by
      have := csn_inj (c := c) (v := v) (x := x) (y := x0) (by omega) (by omega) (by rw [z, hs0])
      omega)
    have hiff : (0 ≤ csn c v x ∧ csn c v x < o + 1) ↔ (0 ≤ csn c v x ∧ csn c v x < o) := by omega
    have e2 : ¬ 1300 * v + x = 1300 * v + x0 := by omega
    have := hM x hxT
    simp only [hiff]
    simpa [up2, up1, e, e2] using this
theorem ml_end {J : Wo} (h : wfN c) (hV : wfV c) (hv : v < 4) (hM : MlV c J v (cbg c v (cn c))) : ∀ x : Nat, (x : Int) < an_end c → J 10 (1300 * v + x) = cpl c v x ∧ J 8 (1300 * v + x) = cpt c v x ∧ J 9 (1300 * v + x) = csk c v x := by
  intro x hx
  obtain ⟨a, b, d⟩ := hM x hx
  by_cases hc : 0 ≤ csn c v x ∧ csn c v x < cbg c v (cn c)
  · rw [if_pos hc] at a b d
    exact ⟨a, b, d⟩
  · rw [if_neg hc] at a b d
    have e : cpl c v x = -1 := by
      unfold cpl plc
      rw [if_pos (by omega)]
    refine ⟨by rw [a, e], ?_, ?_⟩
    · rw [b, cpt, if_pos e]
    · rw [d, csk, if_pos e]
end ML

-- CanonMakerModel.pitchOf(II)I
theorem d_Mo_pitchOf_0 : decode prog_9_method_15_code 0 = .ok (.aload_n 0, 1) := by decide +kernel
theorem d_Mo_pitchOf_1 : decode prog_9_method_15_code 1 = .ok (.getfield 7, 3) := by decide +kernel
theorem d_Mo_pitchOf_4 : decode prog_9_method_15_code 4 = .ok (.iload_n 2, 1) := by decide +kernel
theorem d_Mo_pitchOf_5 : decode prog_9_method_15_code 5 = .ok (.iaload, 1) := by decide +kernel
theorem d_Mo_pitchOf_6 : decode prog_9_method_15_code 6 = .ok (.istore_n 3, 1) := by decide +kernel
theorem d_Mo_pitchOf_7 : decode prog_9_method_15_code 7 = .ok (.iload_n 3, 1) := by decide +kernel
theorem d_Mo_pitchOf_8 : decode prog_9_method_15_code 8 = .ok (.iconst (-1), 1) := by decide +kernel
theorem d_Mo_pitchOf_9 : decode prog_9_method_15_code 9 = .ok (.if_icmp .ne 7, 3) := by decide +kernel
theorem d_Mo_pitchOf_12 : decode prog_9_method_15_code 12 = .ok (.sipush 1000, 3) := by decide +kernel
theorem d_Mo_pitchOf_15 : decode prog_9_method_15_code 15 = .ok (.ireturn, 1) := by decide +kernel
theorem d_Mo_pitchOf_16 : decode prog_9_method_15_code 16 = .ok (.aload_n 0, 1) := by decide +kernel
theorem d_Mo_pitchOf_17 : decode prog_9_method_15_code 17 = .ok (.getfield 26, 3) := by decide +kernel
theorem d_Mo_pitchOf_20 : decode prog_9_method_15_code 20 = .ok (.iload_n 1, 1) := by decide +kernel
theorem d_Mo_pitchOf_21 : decode prog_9_method_15_code 21 = .ok (.iaload, 1) := by decide +kernel
theorem d_Mo_pitchOf_22 : decode prog_9_method_15_code 22 = .ok (.iconst 1, 1) := by decide +kernel
theorem d_Mo_pitchOf_23 : decode prog_9_method_15_code 23 = .ok (.iand, 1) := by decide +kernel
theorem d_Mo_pitchOf_24 : decode prog_9_method_15_code 24 = .ok (.ifCond .ne 24, 3) := by decide +kernel
theorem d_Mo_pitchOf_27 : decode prog_9_method_15_code 27 = .ok (.iload_n 3, 1) := by decide +kernel
theorem d_Mo_pitchOf_28 : decode prog_9_method_15_code 28 = .ok (.bipush (-2), 2) := by decide +kernel
theorem d_Mo_pitchOf_30 : decode prog_9_method_15_code 30 = .ok (.if_icmp .ne 9, 3) := by decide +kernel
theorem d_Mo_pitchOf_33 : decode prog_9_method_15_code 33 = .ok (.sipush 1001, 3) := by decide +kernel
theorem d_Mo_pitchOf_36 : decode prog_9_method_15_code 36 = .ok (.goto 11, 3) := by decide +kernel
theorem d_Mo_pitchOf_39 : decode prog_9_method_15_code 39 = .ok (.iload_n 3, 1) := by decide +kernel
theorem d_Mo_pitchOf_40 : decode prog_9_method_15_code 40 = .ok (.aload_n 0, 1) := by decide +kernel
theorem d_Mo_pitchOf_41 : decode prog_9_method_15_code 41 = .ok (.getfield 23, 3) := by decide +kernel
theorem d_Mo_pitchOf_44 : decode prog_9_method_15_code 44 = .ok (.iload_n 1, 1) := by decide +kernel
theorem d_Mo_pitchOf_45 : decode prog_9_method_15_code 45 = .ok (.iaload, 1) := by decide +kernel
theorem d_Mo_pitchOf_46 : decode prog_9_method_15_code 46 = .ok (.iadd, 1) := by decide +kernel
theorem d_Mo_pitchOf_47 : decode prog_9_method_15_code 47 = .ok (.ireturn, 1) := by decide +kernel
theorem d_Mo_pitchOf_48 : decode prog_9_method_15_code 48 = .ok (.iconst 0, 1) := by decide +kernel
theorem d_Mo_pitchOf_49 : decode prog_9_method_15_code 49 = .ok (.istore 4, 2) := by decide +kernel
theorem d_Mo_pitchOf_51 : decode prog_9_method_15_code 51 = .ok (.aload_n 0, 1) := by decide +kernel
theorem d_Mo_pitchOf_52 : decode prog_9_method_15_code 52 = .ok (.getfield 7, 3) := by decide +kernel
theorem d_Mo_pitchOf_55 : decode prog_9_method_15_code 55 = .ok (.iload 4, 2) := by decide +kernel
theorem d_Mo_pitchOf_57 : decode prog_9_method_15_code 57 = .ok (.iaload, 1) := by decide +kernel
theorem d_Mo_pitchOf_58 : decode prog_9_method_15_code 58 = .ok (.iconst (-1), 1) := by decide +kernel
theorem d_Mo_pitchOf_59 : decode prog_9_method_15_code 59 = .ok (.if_icmp .ne 9, 3) := by decide +kernel
theorem d_Mo_pitchOf_62 : decode prog_9_method_15_code 62 = .ok (.iinc 4 1, 3) := by decide +kernel
theorem d_Mo_pitchOf_65 : decode prog_9_method_15_code 65 = .ok (.goto (-14), 3) := by decide +kernel
theorem d_Mo_pitchOf_68 : decode prog_9_method_15_code 68 = .ok (.iload_n 3, 1) := by decide +kernel
theorem d_Mo_pitchOf_69 : decode prog_9_method_15_code 69 = .ok (.bipush (-2), 2) := by decide +kernel
theorem d_Mo_pitchOf_71 : decode prog_9_method_15_code 71 = .ok (.if_icmp .eq 15, 3) := by decide +kernel
theorem d_Mo_pitchOf_74 : decode prog_9_method_15_code 74 = .ok (.aload_n 0, 1) := by decide +kernel
theorem d_Mo_pitchOf_75 : decode prog_9_method_15_code 75 = .ok (.getfield 7, 3) := by decide +kernel
theorem d_Mo_pitchOf_78 : decode prog_9_method_15_code 78 = .ok (.iload 4, 2) := by decide +kernel
theorem d_Mo_pitchOf_80 : decode prog_9_method_15_code 80 = .ok (.iaload, 1) := by decide +kernel
theorem d_Mo_pitchOf_81 : decode prog_9_method_15_code 81 = .ok (.bipush (-2), 2) := by decide +kernel
theorem d_Mo_pitchOf_83 : decode prog_9_method_15_code 83 = .ok (.if_icmp .ne 9, 3) := by decide +kernel
theorem d_Mo_pitchOf_86 : decode prog_9_method_15_code 86 = .ok (.sipush 1001, 3) := by decide +kernel
theorem d_Mo_pitchOf_89 : decode prog_9_method_15_code 89 = .ok (.goto 21, 3) := by decide +kernel
theorem d_Mo_pitchOf_92 : decode prog_9_method_15_code 92 = .ok (.iconst 2, 1) := by decide +kernel
theorem d_Mo_pitchOf_93 : decode prog_9_method_15_code 93 = .ok (.aload_n 0, 1) := by decide +kernel
theorem d_Mo_pitchOf_94 : decode prog_9_method_15_code 94 = .ok (.getfield 7, 3) := by decide +kernel
theorem d_Mo_pitchOf_97 : decode prog_9_method_15_code 97 = .ok (.iload 4, 2) := by decide +kernel
theorem d_Mo_pitchOf_99 : decode prog_9_method_15_code 99 = .ok (.iaload, 1) := by decide +kernel
theorem d_Mo_pitchOf_100 : decode prog_9_method_15_code 100 = .ok (.imul, 1) := by decide +kernel
theorem d_Mo_pitchOf_101 : decode prog_9_method_15_code 101 = .ok (.iload_n 3, 1) := by decide +kernel
theorem d_Mo_pitchOf_102 : decode prog_9_method_15_code 102 = .ok (.isub, 1) := by decide +kernel
theorem d_Mo_pitchOf_103 : decode prog_9_method_15_code 103 = .ok (.aload_n 0, 1) := by decide +kernel
theorem d_Mo_pitchOf_104 : decode prog_9_method_15_code 104 = .ok (.getfield 23, 3) := by decide +kernel
theorem d_Mo_pitchOf_107 : decode prog_9_method_15_code 107 = .ok (.iload_n 1, 1) := by decide +kernel
theorem d_Mo_pitchOf_108 : decode prog_9_method_15_code 108 = .ok (.iaload, 1) := by decide +kernel
theorem d_Mo_pitchOf_109 : decode prog_9_method_15_code 109 = .ok (.iadd, 1) := by decide +kernel
theorem d_Mo_pitchOf_110 : decode prog_9_method_15_code 110 = .ok (.ireturn, 1) := by decide +kernel
abbrev rm_Mo_pitchOf : Room := { frames := 0, cells := 0, slots := 0, locals := 0 }
set_option maxHeartbeats 4000000 in
set_option maxRecDepth 100000 in
theorem c_Mo_pitchOf (l : Launch) (D : va_G) (cs : Nat → ClassId) (ad : Nat → Nat) (hi : mo_inj ad) (c I : Wo) (h : moR c I) (v : Nat) (hv : v < 4) (i : Nat) (hin : i < cn c) : mo_C l D cs ad y_Mo_pitchOf ws_Mo_pitchOf rm_Mo_pitchOf [.ref (ad 0), .int (zi (v : Int)), .int (zi (i : Int))] I (mk_pi (fun r J => I = J ∧ r = lpi (c 1) (cn c) (c (3 + v) 3) (c (3 + v) 2) i)) := by
  refine mk_meti (own := "CanonMakerModel") (Ts := wA) hi (Nat.le_refl _) (by decide) rfl (fun w h => List.mem_cons_of_mem _ h) rfl (Nat.le_of_ble_eq_true rfl) [(0, .ref (ad 0)), (1, .int (zi (v : Int))), (2, .int (zi (i : Int)))] rfl ?_
  intro p_ e_ s_ m_ as_ bl_ me_ co_ Q_ X hret
  obtain ⟨⟨⟨hn, hN⟩, ⟨hlo, hsc, hbt, hru, hrd, hst⟩, ⟨hV, hV0⟩, ⟨hfc, hF⟩⟩, ⟨i12, iN⟩, ⟨⟨i50, i51, i52, i53, i54⟩, i07, i09⟩, iV, ⟨i010, iF⟩⟩ := id h
  have hcn := cn_e h.1.1
  have hp0 := (hN i (by omega)).1
  have hv5 := hV v hv
  have L51 : ∀ nf : Nat, ∀ (k : Nat), (k ≤ i) → (∀ j, j < k → c 1 j = -1) → (¬ ziand (c (3 + v) 3) 1 = 0) → (¬ c 1 i = -1) → 24 - k < nf → mk_A p_ l e_ rm_Mo_pitchOf s_ m_ as_ bl_ me_ co_ Q_ 5 D cmcl (mo_sh cs ad) 16 16 ad I [(0, .ref (ad 0)), (1, .int (zi (v : Int))), (2, .int (zi (i : Int))), (3, .int (zi (c 1 i))), (4, .int (zi (k : Int)))] 51 [] := by
    intro nf
    induction nf with
    | zero => intro k hk hb hmo hpi hn; exact absurd hn (Nat.not_lt_zero _)
    | succ nf ih51 =>
      intro k hk hb hmo hpi hn51
      refine mk_aloadn (nx := 52) X 0 d_Mo_pitchOf_51 rfl rfl ?_
      refine mk_get (nx := 55) (v := .ref (ad 1)) X 0 (by decide) (mh_Mo cs ad _) rfl in_Mo 0 (by decide) wd_595 rfl rfl d_Mo_pitchOf_52 rfl ?_
      refine mk_iload (nx := 57) X 4 d_Mo_pitchOf_55 rfl rfl ?_
      refine mk_iald (nx := 58) (j := k) X 1 0 (by decide) (mh_pitches cs ad _) rfl (by omega) (by omega) (by decide) rfl d_Mo_pitchOf_57 rfl ?_
      rw [show I 1 k = c 1 k from (iN k (by omega)).1]
      have hpk := (hN k (by omega)).1
      refine mk_iconst (nx := 59) X d_Mo_pitchOf_58 rfl ?_
      refine mk_icmp_ne (tgt := 68) (nx := 62) X d_Mo_pitchOf_59 (by omega) (by omega) (by decide) rfl (fun c59 => ?_) (fun c59 => ?_)
      · skip
        refine mk_iloadn (nx := 69) X 3 d_Mo_pitchOf_68 rfl rfl ?_
        refine mk_bipush (nx := 71) X d_Mo_pitchOf_69 (by decide) rfl ?_
        refine mk_icmp_eq (tgt := 86) (nx := 74) X d_Mo_pitchOf_71 (by omega) (by omega) (by decide) rfl (fun c71 => ?_) (fun c71 => ?_)
        · skip
          refine mk_sipush (nx := 89) X d_Mo_pitchOf_86 (by decide) rfl ?_
          refine mk_goto (tgt := 110) X d_Mo_pitchOf_89 (by decide) ?_
          exact hret _ _ _ _ d_Mo_pitchOf_110 (by first | exact ⟨rfl, by rw [lpi, if_neg (by omega), if_neg (by omega), fso_eq (k := k) (by omega) hb (fun _ => by omega), if_pos (by omega)]⟩ | exact ⟨rfl, by rw [lpi, if_neg (by omega), if_neg (by omega), fso_eq (k := k) (by omega) hb (fun _ => by omega), if_neg (by omega)]⟩)
        · skip
          refine mk_aloadn (nx := 75) X 0 d_Mo_pitchOf_74 rfl rfl ?_
          refine mk_get (nx := 78) (v := .ref (ad 1)) X 0 (by decide) (mh_Mo cs ad _) rfl in_Mo 0 (by decide) wd_595 rfl rfl d_Mo_pitchOf_75 rfl ?_
          refine mk_iload (nx := 80) X 4 d_Mo_pitchOf_78 rfl rfl ?_
          refine mk_iald (nx := 81) (j := k) X 1 0 (by decide) (mh_pitches cs ad _) rfl (by omega) (by omega) (by decide) rfl d_Mo_pitchOf_80 rfl ?_
          rw [show I 1 k = c 1 k from (iN k (by omega)).1]
          refine mk_bipush (nx := 83) X d_Mo_pitchOf_81 (by decide) rfl ?_
          refine mk_icmp_ne (tgt := 92) (nx := 86) X d_Mo_pitchOf_83 (by omega) (by omega) (by decide) rfl (fun c83 => ?_) (fun c83 => ?_)
          · skip
            refine mk_iconst (nx := 93) X d_Mo_pitchOf_92 rfl ?_
            refine mk_aloadn (nx := 94) X 0 d_Mo_pitchOf_93 rfl rfl ?_
            refine mk_get (nx := 97) (v := .ref (ad 1)) X 0 (by decide) (mh_Mo cs ad _) rfl in_Mo 0 (by decide) wd_595 rfl rfl d_Mo_pitchOf_94 rfl ?_
            refine mk_iload (nx := 99) X 4 d_Mo_pitchOf_97 rfl rfl ?_
            refine mk_iald (nx := 100) (j := k) X 1 0 (by decide) (mh_pitches cs ad _) rfl (by omega) (by omega) (by decide) rfl d_Mo_pitchOf_99 rfl ?_
            rw [show I 1 k = c 1 k from (iN k (by omega)).1]
            refine mk_imul (nx := 101) X d_Mo_pitchOf_100 rfl ?_
            refine mk_iloadn (nx := 102) X 3 d_Mo_pitchOf_101 rfl rfl ?_
            refine mk_isub (nx := 103) X d_Mo_pitchOf_102 rfl ?_
            refine mk_aloadn (nx := 104) X 0 d_Mo_pitchOf_103 rfl rfl ?_
            refine mk_get (nx := 107) (v := .ref (ad 5)) X 0 (by decide) (mh_Mo cs ad _) rfl in_Mo 5 (by decide) wd_600 rfl rfl d_Mo_pitchOf_104 rfl ?_
            refine mk_iloadn (nx := 108) X 1 d_Mo_pitchOf_107 rfl rfl ?_
            refine mk_iald (nx := 109) (j := v) X 5 0 (by decide) (mh_intervals cs ad _) rfl (by omega) (by omega) (by decide) rfl d_Mo_pitchOf_108 rfl ?_
            rw [show I 5 v = c (3 + v) 2 from (iV v hv).2.2.1]
            refine mk_iadd (nx := 110) X d_Mo_pitchOf_109 rfl ?_
            exact hret _ _ _ _ d_Mo_pitchOf_110 (by first | exact ⟨rfl, by rw [lpi, if_neg (by omega), if_neg (by omega), fso_eq (k := k) (by omega) hb (fun _ => by omega), if_pos (by omega)]⟩ | exact ⟨rfl, by rw [lpi, if_neg (by omega), if_neg (by omega), fso_eq (k := k) (by omega) hb (fun _ => by omega), if_neg (by omega)]⟩)
          · skip
            refine mk_sipush (nx := 89) X d_Mo_pitchOf_86 (by decide) rfl ?_
            refine mk_goto (tgt := 110) X d_Mo_pitchOf_89 (by decide) ?_
            exact hret _ _ _ _ d_Mo_pitchOf_110 (by first | exact ⟨rfl, by rw [lpi, if_neg (by omega), if_neg (by omega), fso_eq (k := k) (by omega) hb (fun _ => by omega), if_pos (by omega)]⟩ | exact ⟨rfl, by rw [lpi, if_neg (by omega), if_neg (by omega), fso_eq (k := k) (by omega) hb (fun _ => by omega), if_neg (by omega)]⟩)
      · skip
        refine mk_iinc (nx := 65) X 4 [(4, .int (zi ((k : Int) + 1))), (0, .ref (ad 0)), (1, .int (zi (v : Int))), (2, .int (zi (i : Int))), (3, .int (zi (c 1 i)))] d_Mo_pitchOf_62 rfl (by decide) rfl rfl ?_
        refine mk_goto (tgt := 51) X d_Mo_pitchOf_65 (by decide) ?_
        refine mk_lv [1, 2, 3, 4, 0] rfl ?_
        exact ih51 (k + 1) (by first | omega | (have : k ≠ i := (fun z => by subst z; omega); omega)) (by first | exact lt_0 | exact lt_s hb (by omega)) (by omega) (by omega) (by omega)
  refine mk_aloadn (nx := 1) X 0 d_Mo_pitchOf_0 rfl rfl ?_
  refine mk_get (nx := 4) (v := .ref (ad 1)) X 0 (by decide) (mh_Mo cs ad _) rfl in_Mo 0 (by decide) wd_595 rfl rfl d_Mo_pitchOf_1 rfl ?_
  refine mk_iloadn (nx := 5) X 2 d_Mo_pitchOf_4 rfl rfl ?_
  refine mk_iald (nx := 6) (j := i) X 1 0 (by decide) (mh_pitches cs ad _) rfl (by omega) (by omega) (by decide) rfl d_Mo_pitchOf_5 rfl ?_
  rw [show I 1 i = c 1 i from (iN i (by omega)).1]
  refine mk_istoren (nx := 7) X [(3, .int (zi (c 1 i))), (0, .ref (ad 0)), (1, .int (zi (v : Int))), (2, .int (zi (i : Int)))] d_Mo_pitchOf_6 (by decide) rfl rfl ?_
  refine mk_iloadn (nx := 8) X 0 d_Mo_pitchOf_7 rfl rfl ?_
  refine mk_iconst (nx := 9) X d_Mo_pitchOf_8 rfl ?_
  refine mk_icmp_ne (tgt := 16) (nx := 12) X d_Mo_pitchOf_9 (by omega) (by omega) (by decide) rfl (fun c9 => ?_) (fun c9 => ?_)
  · skip
    refine mk_aloadn (nx := 17) X 1 d_Mo_pitchOf_16 rfl rfl ?_
    refine mk_get (nx := 20) (v := .ref (ad 6)) X 0 (by decide) (mh_Mo cs ad _) rfl in_Mo 6 (by decide) wd_601 rfl rfl d_Mo_pitchOf_17 rfl ?_
    refine mk_iloadn (nx := 21) X 2 d_Mo_pitchOf_20 rfl rfl ?_
    refine mk_iald (nx := 22) (j := v) X 6 0 (by decide) (mh_modes cs ad _) rfl (by omega) (by omega) (by decide) rfl d_Mo_pitchOf_21 rfl ?_
    rw [show I 6 v = c (3 + v) 3 from (iV v hv).2.2.2.1]
    refine mk_iconst (nx := 23) X d_Mo_pitchOf_22 rfl ?_
    refine mk_iand (nx := 24) X d_Mo_pitchOf_23 rfl ?_
    refine mk_if_ne (tgt := 48) (nx := 27) X d_Mo_pitchOf_24 (by exact zi_rng _) (by decide) rfl (fun c24 => ?_) (fun c24 => ?_)
    · skip
      refine mk_iconst (nx := 49) X d_Mo_pitchOf_48 rfl ?_
      refine mk_istore (nx := 51) X [(4, .int (zi 0)), (3, .int (zi (c 1 i))), (0, .ref (ad 0)), (1, .int (zi (v : Int))), (2, .int (zi (i : Int)))] d_Mo_pitchOf_49 (by decide) rfl rfl ?_
      refine mk_lv [2, 3, 4, 1, 0] rfl ?_
      exact L51 _ 0 (by first | omega | (have : k ≠ i := (fun z => by subst z; omega); omega)) (by first | exact lt_0 | exact lt_s hb (by omega)) (by omega) (by omega) (Nat.lt_succ_self _)
    · skip
      refine mk_iloadn (nx := 28) X 0 d_Mo_pitchOf_27 rfl rfl ?_
      refine mk_bipush (nx := 30) X d_Mo_pitchOf_28 (by decide) rfl ?_
      refine mk_icmp_ne (tgt := 39) (nx := 33) X d_Mo_pitchOf_30 (by omega) (by omega) (by decide) rfl (fun c30 => ?_) (fun c30 => ?_)
      · skip
        refine mk_iloadn (nx := 40) X 0 d_Mo_pitchOf_39 rfl rfl ?_
        refine mk_aloadn (nx := 41) X 1 d_Mo_pitchOf_40 rfl rfl ?_
        refine mk_get (nx := 44) (v := .ref (ad 5)) X 0 (by decide) (mh_Mo cs ad _) rfl in_Mo 5 (by decide) wd_600 rfl rfl d_Mo_pitchOf_41 rfl ?_
        refine mk_iloadn (nx := 45) X 2 d_Mo_pitchOf_44 rfl rfl ?_
        refine mk_iald (nx := 46) (j := v) X 5 0 (by decide) (mh_intervals cs ad _) rfl (by omega) (by omega) (by decide) rfl d_Mo_pitchOf_45 rfl ?_
        rw [show I 5 v = c (3 + v) 2 from (iV v hv).2.2.1]
        refine mk_iadd (nx := 47) X d_Mo_pitchOf_46 rfl ?_
        exact hret _ _ _ _ d_Mo_pitchOf_47 (by first | exact ⟨rfl, by rw [lpi, if_neg (by omega), if_pos (by omega), if_pos (by omega)]⟩ | exact ⟨rfl, by rw [lpi, if_neg (by omega), if_pos (by omega), if_neg (by omega)]⟩)
      · skip
        refine mk_sipush (nx := 36) X d_Mo_pitchOf_33 (by decide) rfl ?_
        refine mk_goto (tgt := 47) X d_Mo_pitchOf_36 (by decide) ?_
        exact hret _ _ _ _ d_Mo_pitchOf_47 (by first | exact ⟨rfl, by rw [lpi, if_neg (by omega), if_pos (by omega), if_pos (by omega)]⟩ | exact ⟨rfl, by rw [lpi, if_neg (by omega), if_pos (by omega), if_neg (by omega)]⟩)
  · skip
    refine mk_sipush (nx := 15) X d_Mo_pitchOf_12 (by decide) rfl ?_
    exact hret _ _ _ _ d_Mo_pitchOf_15 (by exact ⟨rfl, by rw [lpi, if_pos (by omega)]⟩)
