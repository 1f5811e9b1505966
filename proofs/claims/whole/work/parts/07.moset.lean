abbrev mo_inj (ad : Nat → Nat) : Prop := ∀ i j, i < 16 → j < 16 → ad i = ad j → i = j
def mo_sh (cs : Nat → ClassId) (ad : Nat → Nat) (k : Nat) (f : Nat → Int) : va_E := (([
  .inr (7, [.ref (ad 1), .ref (ad 2), .int (zi (f 2)), .ref (ad 3), .ref (ad 4), .ref (ad 5), .ref (ad 6), .ref (ad 7), .int (zi (f 8)), .int (zi (f 9)), .int (zi (f 10)), .int (zi (f 11)), .int (zi (f 12)), .int (zi (f 13)), .int (zi (f 14)), .ref (ad 8), .ref (ad 9), .ref (ad 10), .ref (ad 11), .int (zi (f 19)), .int (zi (f 20)), .int (zi (f 21)), .int (zi (f 22)), .int (zi (f 23)), .ref (ad 12), .ref (ad 13), .ref (ad 14), .int (zi (f 27)), .ref (ad 15)]),
  .inl (cs 0, 24, .inl (fun j => zi (f j))),
  .inl (cs 0, 24, .inl (fun j => zi (f j))),
  .inl (cs 1, 4, .inl (fun j => zi (f j))),
  .inl (cs 0, 4, .inl (fun j => zi (f j))),
  .inl (cs 0, 4, .inl (fun j => zi (f j))),
  .inl (cs 0, 4, .inl (fun j => zi (f j))),
  .inl (cs 0, 4, .inl (fun j => zi (f j))),
  .inl (cs 0, 5200, .inl (fun j => zi (f j))),
  .inl (cs 1, 5200, .inl (fun j => zi (f j))),
  .inl (cs 0, 5200, .inl (fun j => zi (f j))),
  .inl (cs 0, 96, .inl (fun j => zi (f j))),
  .inl (cs 0, 24, .inl (fun j => zi (f j))),
  .inl (cs 0, 2600, .inl (fun j => zi (f j))),
  .inl (cs 0, 2600, .inl (fun j => zi (f j))),
  .inl (cs 1, 4, .inl (fun j => zi (f j)))] : List va_E)).getD k (.inr (0, []))
theorem mh_Mo (cs : Nat → ClassId) (ad : Nat → Nat) (f : Nat → Int) : mo_sh cs ad 0 f = .inr (7, [.ref (ad 1), .ref (ad 2), .int (zi (f 2)), .ref (ad 3), .ref (ad 4), .ref (ad 5), .ref (ad 6), .ref (ad 7), .int (zi (f 8)), .int (zi (f 9)), .int (zi (f 10)), .int (zi (f 11)), .int (zi (f 12)), .int (zi (f 13)), .int (zi (f 14)), .ref (ad 8), .ref (ad 9), .ref (ad 10), .ref (ad 11), .int (zi (f 19)), .int (zi (f 20)), .int (zi (f 21)), .int (zi (f 22)), .int (zi (f 23)), .ref (ad 12), .ref (ad 13), .ref (ad 14), .int (zi (f 27)), .ref (ad 15)]) := rfl
theorem mh_pitches (cs : Nat → ClassId) (ad : Nat → Nat) (f : Nat → Int) : mo_sh cs ad 1 f = .inl (cs 0, 24, .inl (fun j => zi (f j))) := rfl
theorem mh_lengths (cs : Nat → ClassId) (ad : Nat → Nat) (f : Nat → Int) : mo_sh cs ad 2 f = .inl (cs 0, 24, .inl (fun j => zi (f j))) := rfl
theorem mh_on (cs : Nat → ClassId) (ad : Nat → Nat) (f : Nat → Int) : mo_sh cs ad 3 f = .inl (cs 1, 4, .inl (fun j => zi (f j))) := rfl
theorem mh_delays (cs : Nat → ClassId) (ad : Nat → Nat) (f : Nat → Int) : mo_sh cs ad 4 f = .inl (cs 0, 4, .inl (fun j => zi (f j))) := rfl
theorem mh_intervals (cs : Nat → ClassId) (ad : Nat → Nat) (f : Nat → Int) : mo_sh cs ad 5 f = .inl (cs 0, 4, .inl (fun j => zi (f j))) := rfl
theorem mh_modes (cs : Nat → ClassId) (ad : Nat → Nat) (f : Nat → Int) : mo_sh cs ad 6 f = .inl (cs 0, 4, .inl (fun j => zi (f j))) := rfl
theorem mh_factors (cs : Nat → ClassId) (ad : Nat → Nat) (f : Nat → Int) : mo_sh cs ad 7 f = .inl (cs 0, 4, .inl (fun j => zi (f j))) := rfl
theorem mh_pitchAt (cs : Nat → ClassId) (ad : Nat → Nat) (f : Nat → Int) : mo_sh cs ad 8 f = .inl (cs 0, 5200, .inl (fun j => zi (f j))) := rfl
theorem mh_struck (cs : Nat → ClassId) (ad : Nat → Nat) (f : Nat → Int) : mo_sh cs ad 9 f = .inl (cs 1, 5200, .inl (fun j => zi (f j))) := rfl
theorem mh_noteAt (cs : Nat → ClassId) (ad : Nat → Nat) (f : Nat → Int) : mo_sh cs ad 10 f = .inl (cs 0, 5200, .inl (fun j => zi (f j))) := rfl
theorem mh_line (cs : Nat → ClassId) (ad : Nat → Nat) (f : Nat → Int) : mo_sh cs ad 11 f = .inl (cs 0, 96, .inl (fun j => zi (f j))) := rfl
theorem mh_opens (cs : Nat → ClassId) (ad : Nat → Nat) (f : Nat → Int) : mo_sh cs ad 12 f = .inl (cs 0, 24, .inl (fun j => zi (f j))) := rfl
theorem mh_shiftDelays (cs : Nat → ClassId) (ad : Nat → Nat) (f : Nat → Int) : mo_sh cs ad 13 f = .inl (cs 0, 2600, .inl (fun j => zi (f j))) := rfl
theorem mh_shiftIntervals (cs : Nat → ClassId) (ad : Nat → Nat) (f : Nat → Int) : mo_sh cs ad 14 f = .inl (cs 0, 2600, .inl (fun j => zi (f j))) := rfl
theorem mh_were (cs : Nat → ClassId) (ad : Nat → Nat) (f : Nat → Int) : mo_sh cs ad 15 f = .inl (cs 1, 4, .inl (fun j => zi (f j))) := rfl
abbrev mo_tys (cs : Nat → ClassId) : List (ClassId × FieldType) := [(cs 0, .int), (cs 1, .boolean)]
abbrev mo_C (l : Launch) (D : va_G) (cs : Nat → ClassId) (ad : Nat → Nat) (y : MethodName) (ws : List Cond) (rm : Room) (As : List Value) (I : Wo) (P : Option Value → Wo → Prop) : Prop := mk_C l y ws rm D cmcl (mo_tys cs) (mo_sh cs ad) 16 16 ad [] As I P

-- CanonMakerModel.note(II)I
theorem d_Mo_note_0 : decode prog_9_method_2_code 0 = .ok (.iload_n 1, 1) := by decide +kernel
theorem d_Mo_note_1 : decode prog_9_method_2_code 1 = .ok (.bipush (-2), 2) := by decide +kernel
theorem d_Mo_note_3 : decode prog_9_method_2_code 3 = .ok (.if_icmp .lt 20, 3) := by decide +kernel
theorem d_Mo_note_6 : decode prog_9_method_2_code 6 = .ok (.iload_n 1, 1) := by decide +kernel
theorem d_Mo_note_7 : decode prog_9_method_2_code 7 = .ok (.bipush 127, 2) := by decide +kernel
theorem d_Mo_note_9 : decode prog_9_method_2_code 9 = .ok (.if_icmp .gt 14, 3) := by decide +kernel
theorem d_Mo_note_12 : decode prog_9_method_2_code 12 = .ok (.iload_n 2, 1) := by decide +kernel
theorem d_Mo_note_13 : decode prog_9_method_2_code 13 = .ok (.iconst 1, 1) := by decide +kernel
theorem d_Mo_note_14 : decode prog_9_method_2_code 14 = .ok (.if_icmp .lt 9, 3) := by decide +kernel
theorem d_Mo_note_17 : decode prog_9_method_2_code 17 = .ok (.iload_n 2, 1) := by decide +kernel
theorem d_Mo_note_18 : decode prog_9_method_2_code 18 = .ok (.bipush 16, 2) := by decide +kernel
theorem d_Mo_note_20 : decode prog_9_method_2_code 20 = .ok (.if_icmp .le 6, 3) := by decide +kernel
theorem d_Mo_note_23 : decode prog_9_method_2_code 23 = .ok (.bipush (-2), 2) := by decide +kernel
theorem d_Mo_note_25 : decode prog_9_method_2_code 25 = .ok (.ireturn, 1) := by decide +kernel
theorem d_Mo_note_26 : decode prog_9_method_2_code 26 = .ok (.aload_n 0, 1) := by decide +kernel
theorem d_Mo_note_27 : decode prog_9_method_2_code 27 = .ok (.getfield 66, 3) := by decide +kernel
theorem d_Mo_note_30 : decode prog_9_method_2_code 30 = .ok (.bipush 24, 2) := by decide +kernel
theorem d_Mo_note_32 : decode prog_9_method_2_code 32 = .ok (.if_icmp .ne 6, 3) := by decide +kernel
theorem d_Mo_note_35 : decode prog_9_method_2_code 35 = .ok (.bipush (-4), 2) := by decide +kernel
theorem d_Mo_note_37 : decode prog_9_method_2_code 37 = .ok (.ireturn, 1) := by decide +kernel
theorem d_Mo_note_38 : decode prog_9_method_2_code 38 = .ok (.aload_n 0, 1) := by decide +kernel
theorem d_Mo_note_39 : decode prog_9_method_2_code 39 = .ok (.getfield 7, 3) := by decide +kernel
theorem d_Mo_note_42 : decode prog_9_method_2_code 42 = .ok (.aload_n 0, 1) := by decide +kernel
theorem d_Mo_note_43 : decode prog_9_method_2_code 43 = .ok (.getfield 66, 3) := by decide +kernel
theorem d_Mo_note_46 : decode prog_9_method_2_code 46 = .ok (.iload_n 1, 1) := by decide +kernel
theorem d_Mo_note_47 : decode prog_9_method_2_code 47 = .ok (.iastore, 1) := by decide +kernel
theorem d_Mo_note_48 : decode prog_9_method_2_code 48 = .ok (.aload_n 0, 1) := by decide +kernel
theorem d_Mo_note_49 : decode prog_9_method_2_code 49 = .ok (.getfield 13, 3) := by decide +kernel
theorem d_Mo_note_52 : decode prog_9_method_2_code 52 = .ok (.aload_n 0, 1) := by decide +kernel
theorem d_Mo_note_53 : decode prog_9_method_2_code 53 = .ok (.getfield 66, 3) := by decide +kernel
theorem d_Mo_note_56 : decode prog_9_method_2_code 56 = .ok (.iload_n 2, 1) := by decide +kernel
theorem d_Mo_note_57 : decode prog_9_method_2_code 57 = .ok (.iastore, 1) := by decide +kernel
theorem d_Mo_note_58 : decode prog_9_method_2_code 58 = .ok (.aload_n 0, 1) := by decide +kernel
theorem d_Mo_note_59 : decode prog_9_method_2_code 59 = .ok (.dup, 1) := by decide +kernel
theorem d_Mo_note_60 : decode prog_9_method_2_code 60 = .ok (.getfield 66, 3) := by decide +kernel
theorem d_Mo_note_63 : decode prog_9_method_2_code 63 = .ok (.iconst 1, 1) := by decide +kernel
theorem d_Mo_note_64 : decode prog_9_method_2_code 64 = .ok (.iadd, 1) := by decide +kernel
theorem d_Mo_note_65 : decode prog_9_method_2_code 65 = .ok (.putfield 66, 3) := by decide +kernel
theorem d_Mo_note_68 : decode prog_9_method_2_code 68 = .ok (.aload_n 0, 1) := by decide +kernel
theorem d_Mo_note_69 : decode prog_9_method_2_code 69 = .ok (.getfield 66, 3) := by decide +kernel
theorem d_Mo_note_72 : decode prog_9_method_2_code 72 = .ok (.iconst 1, 1) := by decide +kernel
theorem d_Mo_note_73 : decode prog_9_method_2_code 73 = .ok (.isub, 1) := by decide +kernel
theorem d_Mo_note_74 : decode prog_9_method_2_code 74 = .ok (.ireturn, 1) := by decide +kernel
abbrev rm_Mo_note : Room := { frames := 0, cells := 0, slots := 0, locals := 0 }
set_option maxHeartbeats 4000000 in
set_option maxRecDepth 100000 in
theorem c_Mo_note (l : Launch) (D : va_G) (cs : Nat → ClassId) (ad : Nat → Nat) (hi : mo_inj ad) (c I : Wo) (h : moR c I) (a : Int) (h_a : -2147483648 ≤ a ∧ a < 2147483648) (b : Int) (h_b : -2147483648 ≤ b ∧ b < 2147483648) : mo_C l D cs ad y_Mo_note ws_Mo_note rm_Mo_note [.ref (ad 0), .int (zi a), .int (zi b)] I (mk_pi (fun r J => r = an_note c a b ∧ moR (nw_note c a b) J)) := by
  refine mk_meti (own := "CanonMakerModel") (Ts := wA) hi (Nat.le_refl _) (by decide) rfl (fun w h => List.mem_cons_of_mem _ h) rfl (Nat.le_of_ble_eq_true rfl) [(0, .ref (ad 0)), (1, .int (zi a)), (2, .int (zi b))] rfl ?_
  intro p_ e_ s_ m_ as_ bl_ me_ co_ Q_ X hret
  obtain ⟨⟨⟨hn, hN⟩, ⟨hlo, hsc, hbt, hru, hrd, hst⟩, ⟨hV, hV0⟩, ⟨hfc, hF⟩⟩, ⟨i12, iN⟩, ⟨⟨i50, i51, i52, i53, i54⟩, i07, i09⟩, iV, ⟨i010, iF⟩⟩ := id h
  refine mk_iloadn (nx := 1) X 1 d_Mo_note_0 rfl rfl ?_
  refine mk_bipush (nx := 3) X d_Mo_note_1 (by decide) rfl ?_
  refine mk_icmp_lt (tgt := 23) (nx := 6) X d_Mo_note_3 (by omega) (by omega) (by decide) rfl (fun c3 => ?_) (fun c3 => ?_)
  · skip
    refine mk_bipush (nx := 25) X d_Mo_note_23 (by decide) rfl ?_
    exact hret _ _ _ _ d_Mo_note_25 (by exact ⟨by rw [an_note, if_pos (by omega)], by rw [nw_note, if_pos (by omega)]; exact h⟩)
  · skip
    refine mk_iloadn (nx := 7) X 1 d_Mo_note_6 rfl rfl ?_
    refine mk_bipush (nx := 9) X d_Mo_note_7 (by decide) rfl ?_
    refine mk_icmp_gt (tgt := 23) (nx := 12) X d_Mo_note_9 (by omega) (by omega) (by decide) rfl (fun c9 => ?_) (fun c9 => ?_)
    · skip
      refine mk_bipush (nx := 25) X d_Mo_note_23 (by decide) rfl ?_
      exact hret _ _ _ _ d_Mo_note_25 (by exact ⟨by rw [an_note, if_pos (by omega)], by rw [nw_note, if_pos (by omega)]; exact h⟩)
    · skip
      refine mk_iloadn (nx := 13) X 2 d_Mo_note_12 rfl rfl ?_
      refine mk_iconst (nx := 14) X d_Mo_note_13 rfl ?_
      refine mk_icmp_lt (tgt := 23) (nx := 17) X d_Mo_note_14 (by omega) (by omega) (by decide) rfl (fun c14 => ?_) (fun c14 => ?_)
      · skip
        refine mk_bipush (nx := 25) X d_Mo_note_23 (by decide) rfl ?_
        exact hret _ _ _ _ d_Mo_note_25 (by exact ⟨by rw [an_note, if_pos (by omega)], by rw [nw_note, if_pos (by omega)]; exact h⟩)
      · skip
        refine mk_iloadn (nx := 18) X 2 d_Mo_note_17 rfl rfl ?_
        refine mk_bipush (nx := 20) X d_Mo_note_18 (by decide) rfl ?_
        refine mk_icmp_le (tgt := 26) (nx := 23) X d_Mo_note_20 (by omega) (by omega) (by decide) rfl (fun c20 => ?_) (fun c20 => ?_)
        · skip
          refine mk_aloadn (nx := 27) X 0 d_Mo_note_26 rfl rfl ?_
          refine mk_get (nx := 30) (v := .int (zi (I 0 2))) X 0 (by decide) (mh_Mo cs ad _) rfl in_Mo 2 (by decide) wd_597 rfl rfl d_Mo_note_27 rfl ?_
          refine mk_bipush (nx := 32) X d_Mo_note_30 (by decide) rfl ?_
          refine mk_icmp_ne (tgt := 38) (nx := 35) X d_Mo_note_32 (by omega) (by omega) (by decide) rfl (fun c32 => ?_) (fun c32 => ?_)
          · skip
            refine mk_aloadn (nx := 39) X 0 d_Mo_note_38 rfl rfl ?_
            refine mk_get (nx := 42) (v := .ref (ad 1)) X 0 (by decide) (mh_Mo cs ad _) rfl in_Mo 0 (by decide) wd_595 rfl rfl d_Mo_note_39 rfl ?_
            refine mk_aloadn (nx := 43) X 0 d_Mo_note_42 rfl rfl ?_
            refine mk_get (nx := 46) (v := .int (zi (I 0 2))) X 0 (by decide) (mh_Mo cs ad _) rfl in_Mo 2 (by decide) wd_597 rfl rfl d_Mo_note_43 rfl ?_
            refine mk_iloadn (nx := 47) X 1 d_Mo_note_46 rfl rfl ?_
            refine mk_iast (nx := 48) (j := (I 0 2).toNat) X 1 0 (by decide) (mh_pitches cs ad) rfl (by omega) (by omega) (by decide) rfl d_Mo_note_47 rfl ?_
            obtain ⟨J1, hJ1⟩ : ∃ z, z = up2 I 1 ((I 0 2).toNat) a := ⟨_, rfl⟩
            refine mk_same hJ1.symm ?_
            have hJ1s : J1 1 ((I 0 2).toNat) = a := hJ1 ▸ up2_ss I 1 ((I 0 2).toNat) a
            have hJ1o : ∀ a b, (a ≠ 1 ∨ b ≠ ((I 0 2).toNat)) → J1 a b = I a b := hJ1 ▸ up2_o I 1 ((I 0 2).toNat) a
            refine mk_aloadn (nx := 49) X 0 d_Mo_note_48 rfl rfl ?_
            refine mk_get (nx := 52) (v := .ref (ad 2)) X 0 (by decide) (mh_Mo cs ad _) rfl in_Mo 1 (by decide) wd_596 rfl rfl d_Mo_note_49 rfl ?_
            refine mk_aloadn (nx := 53) X 0 d_Mo_note_52 rfl rfl ?_
            refine mk_get (nx := 56) (v := .int (zi (J1 0 2))) X 0 (by decide) (mh_Mo cs ad _) rfl in_Mo 2 (by decide) wd_597 rfl rfl d_Mo_note_53 rfl ?_
            rw [show J1 0 2 = I 0 2 from hJ1o 0 2 (Or.inl (by decide))]
            refine mk_iloadn (nx := 57) X 2 d_Mo_note_56 rfl rfl ?_
            refine mk_iast (nx := 58) (j := (I 0 2).toNat) X 2 0 (by decide) (mh_lengths cs ad) rfl (by omega) (by omega) (by decide) rfl d_Mo_note_57 rfl ?_
            obtain ⟨J2, hJ2⟩ : ∃ z, z = up2 J1 2 ((I 0 2).toNat) b := ⟨_, rfl⟩
            refine mk_same hJ2.symm ?_
            have hJ2s : J2 2 ((I 0 2).toNat) = b := hJ2 ▸ up2_ss J1 2 ((I 0 2).toNat) b
            have hJ2o : ∀ a b, (a ≠ 2 ∨ b ≠ ((I 0 2).toNat)) → J2 a b = J1 a b := hJ2 ▸ up2_o J1 2 ((I 0 2).toNat) b
            refine mk_aloadn (nx := 59) X 0 d_Mo_note_58 rfl rfl ?_
            refine mk_dup (nx := 60) X d_Mo_note_59 rfl rfl ?_
            refine mk_get (nx := 63) (v := .int (zi (J2 0 2))) X 0 (by decide) (mh_Mo cs ad _) rfl in_Mo 2 (by decide) wd_597 rfl rfl d_Mo_note_60 rfl ?_
            rw [show J2 0 2 = J1 0 2 from hJ2o 0 2 (Or.inl (by decide))]
            rw [show J1 0 2 = I 0 2 from hJ1o 0 2 (Or.inl (by decide))]
            refine mk_iconst (nx := 64) X d_Mo_note_63 rfl ?_
            refine mk_iadd (nx := 65) X d_Mo_note_64 rfl ?_
            refine mk_putf (nx := 68) (ty := .int) X t_Mo t_Mo_ok n_Mo 0 (by decide) (mh_Mo cs ad _) rfl in_Mo 2 (by decide) wd_597 rfl rfl (by decide +kernel) rfl rfl (Nat.le_of_ble_eq_true rfl) ((mh_Mo cs ad _).trans rfl) d_Mo_note_65 rfl ?_
            obtain ⟨J3, hJ3⟩ : ∃ z, z = up2 J2 0 2 ((I 0 2) + 1) := ⟨_, rfl⟩
            refine mk_same hJ3.symm ?_
            have hJ3s : J3 0 2 = (I 0 2) + 1 := hJ3 ▸ up2_ss J2 0 2 ((I 0 2) + 1)
            have hJ3o : ∀ a b, (a ≠ 0 ∨ b ≠ 2) → J3 a b = J2 a b := hJ3 ▸ up2_o J2 0 2 ((I 0 2) + 1)
            refine mk_aloadn (nx := 69) X 0 d_Mo_note_68 rfl rfl ?_
            refine mk_get (nx := 72) (v := .int (zi (J3 0 2))) X 0 (by decide) (mh_Mo cs ad _) rfl in_Mo 2 (by decide) wd_597 rfl rfl d_Mo_note_69 rfl ?_
            rw [hJ3s]
            refine mk_iconst (nx := 73) X d_Mo_note_72 rfl ?_
            refine mk_isub (nx := 74) X d_Mo_note_73 rfl ?_
            exact hret _ _ _ _ d_Mo_note_74 (by exact ⟨by rw [an_note, if_neg (by omega), if_neg (by omega)]; omega, by rw [nw_note, if_neg (by omega), if_neg (by omega), hJ3, hJ2, hJ1]; rw [i12]; exact mo_s_note h (by omega) (by omega) (by omega) (by omega)⟩)
          · skip
            refine mk_bipush (nx := 37) X d_Mo_note_35 (by decide) rfl ?_
            exact hret _ _ _ _ d_Mo_note_37 (by exact ⟨by rw [an_note, if_neg (by omega), if_pos (by omega)], by rw [nw_note, if_neg (by omega), if_pos (by omega)]; exact h⟩)
        · skip
          refine mk_bipush (nx := 25) X d_Mo_note_23 (by decide) rfl ?_
          exact hret _ _ _ _ d_Mo_note_25 (by exact ⟨by rw [an_note, if_pos (by omega)], by rw [nw_note, if_pos (by omega)]; exact h⟩)

-- CanonMakerModel.pitch(II)I
theorem d_Mo_pitch_0 : decode prog_9_method_3_code 0 = .ok (.iload_n 1, 1) := by decide +kernel
theorem d_Mo_pitch_1 : decode prog_9_method_3_code 1 = .ok (.ifCond .lt 11, 3) := by decide +kernel
theorem d_Mo_pitch_4 : decode prog_9_method_3_code 4 = .ok (.iload_n 1, 1) := by decide +kernel
theorem d_Mo_pitch_5 : decode prog_9_method_3_code 5 = .ok (.aload_n 0, 1) := by decide +kernel
theorem d_Mo_pitch_6 : decode prog_9_method_3_code 6 = .ok (.getfield 66, 3) := by decide +kernel
theorem d_Mo_pitch_9 : decode prog_9_method_3_code 9 = .ok (.if_icmp .lt 5, 3) := by decide +kernel
theorem d_Mo_pitch_12 : decode prog_9_method_3_code 12 = .ok (.iconst (-1), 1) := by decide +kernel
theorem d_Mo_pitch_13 : decode prog_9_method_3_code 13 = .ok (.ireturn, 1) := by decide +kernel
theorem d_Mo_pitch_14 : decode prog_9_method_3_code 14 = .ok (.iload_n 2, 1) := by decide +kernel
theorem d_Mo_pitch_15 : decode prog_9_method_3_code 15 = .ok (.bipush (-2), 2) := by decide +kernel
theorem d_Mo_pitch_17 : decode prog_9_method_3_code 17 = .ok (.if_icmp .lt 9, 3) := by decide +kernel
theorem d_Mo_pitch_20 : decode prog_9_method_3_code 20 = .ok (.iload_n 2, 1) := by decide +kernel
theorem d_Mo_pitch_21 : decode prog_9_method_3_code 21 = .ok (.bipush 127, 2) := by decide +kernel
theorem d_Mo_pitch_23 : decode prog_9_method_3_code 23 = .ok (.if_icmp .le 6, 3) := by decide +kernel
theorem d_Mo_pitch_26 : decode prog_9_method_3_code 26 = .ok (.bipush (-2), 2) := by decide +kernel
theorem d_Mo_pitch_28 : decode prog_9_method_3_code 28 = .ok (.ireturn, 1) := by decide +kernel
theorem d_Mo_pitch_29 : decode prog_9_method_3_code 29 = .ok (.aload_n 0, 1) := by decide +kernel
theorem d_Mo_pitch_30 : decode prog_9_method_3_code 30 = .ok (.getfield 7, 3) := by decide +kernel
theorem d_Mo_pitch_33 : decode prog_9_method_3_code 33 = .ok (.iload_n 1, 1) := by decide +kernel
theorem d_Mo_pitch_34 : decode prog_9_method_3_code 34 = .ok (.iaload, 1) := by decide +kernel
theorem d_Mo_pitch_35 : decode prog_9_method_3_code 35 = .ok (.istore_n 3, 1) := by decide +kernel
theorem d_Mo_pitch_36 : decode prog_9_method_3_code 36 = .ok (.aload_n 0, 1) := by decide +kernel
theorem d_Mo_pitch_37 : decode prog_9_method_3_code 37 = .ok (.getfield 7, 3) := by decide +kernel
theorem d_Mo_pitch_40 : decode prog_9_method_3_code 40 = .ok (.iload_n 1, 1) := by decide +kernel
theorem d_Mo_pitch_41 : decode prog_9_method_3_code 41 = .ok (.iload_n 2, 1) := by decide +kernel
theorem d_Mo_pitch_42 : decode prog_9_method_3_code 42 = .ok (.iastore, 1) := by decide +kernel
theorem d_Mo_pitch_43 : decode prog_9_method_3_code 43 = .ok (.iload_n 3, 1) := by decide +kernel
theorem d_Mo_pitch_44 : decode prog_9_method_3_code 44 = .ok (.ireturn, 1) := by decide +kernel
abbrev rm_Mo_pitch : Room := { frames := 0, cells := 0, slots := 0, locals := 0 }
set_option maxHeartbeats 4000000 in
set_option maxRecDepth 100000 in
theorem c_Mo_pitch (l : Launch) (D : va_G) (cs : Nat → ClassId) (ad : Nat → Nat) (hi : mo_inj ad) (c I : Wo) (h : moR c I) (k : Int) (h_k : -2147483648 ≤ k ∧ k < 2147483648) (a : Int) (h_a : -2147483648 ≤ a ∧ a < 2147483648) : mo_C l D cs ad y_Mo_pitch ws_Mo_pitch rm_Mo_pitch [.ref (ad 0), .int (zi k), .int (zi a)] I (mk_pi (fun r J => r = an_pitch c k a ∧ moR (nw_pitch c k a) J)) := by
  refine mk_meti (own := "CanonMakerModel") (Ts := wA) hi (Nat.le_refl _) (by decide) rfl (fun w h => List.mem_cons_of_mem _ h) rfl (Nat.le_of_ble_eq_true rfl) [(0, .ref (ad 0)), (1, .int (zi k)), (2, .int (zi a))] rfl ?_
  intro p_ e_ s_ m_ as_ bl_ me_ co_ Q_ X hret
  obtain ⟨⟨⟨hn, hN⟩, ⟨hlo, hsc, hbt, hru, hrd, hst⟩, ⟨hV, hV0⟩, ⟨hfc, hF⟩⟩, ⟨i12, iN⟩, ⟨⟨i50, i51, i52, i53, i54⟩, i07, i09⟩, iV, ⟨i010, iF⟩⟩ := id h
  refine mk_iloadn (nx := 1) X 1 d_Mo_pitch_0 rfl rfl ?_
  refine mk_if_lt (tgt := 12) (nx := 4) X d_Mo_pitch_1 (by omega) (by decide) rfl (fun c1 => ?_) (fun c1 => ?_)
  · skip
    refine mk_iconst (nx := 13) X d_Mo_pitch_12 rfl ?_
    exact hret _ _ _ _ d_Mo_pitch_13 (by exact ⟨by rw [an_pitch, if_pos (by omega)], by rw [nw_pitch, if_pos (by omega)]; exact h⟩)
  · skip
    refine mk_iloadn (nx := 5) X 1 d_Mo_pitch_4 rfl rfl ?_
    refine mk_aloadn (nx := 6) X 0 d_Mo_pitch_5 rfl rfl ?_
    refine mk_get (nx := 9) (v := .int (zi (I 0 2))) X 0 (by decide) (mh_Mo cs ad _) rfl in_Mo 2 (by decide) wd_597 rfl rfl d_Mo_pitch_6 rfl ?_
    refine mk_icmp_lt (tgt := 14) (nx := 12) X d_Mo_pitch_9 (by omega) (by omega) (by decide) rfl (fun c9 => ?_) (fun c9 => ?_)
    · skip
      refine mk_iloadn (nx := 15) X 2 d_Mo_pitch_14 rfl rfl ?_
      refine mk_bipush (nx := 17) X d_Mo_pitch_15 (by decide) rfl ?_
      refine mk_icmp_lt (tgt := 26) (nx := 20) X d_Mo_pitch_17 (by omega) (by omega) (by decide) rfl (fun c17 => ?_) (fun c17 => ?_)
      · skip
        refine mk_bipush (nx := 28) X d_Mo_pitch_26 (by decide) rfl ?_
        exact hret _ _ _ _ d_Mo_pitch_28 (by exact ⟨by rw [an_pitch, if_neg (by omega), if_pos (by omega)], by rw [nw_pitch, if_neg (by omega), if_pos (by omega)]; exact h⟩)
      · skip
        refine mk_iloadn (nx := 21) X 2 d_Mo_pitch_20 rfl rfl ?_
        refine mk_bipush (nx := 23) X d_Mo_pitch_21 (by decide) rfl ?_
        refine mk_icmp_le (tgt := 29) (nx := 26) X d_Mo_pitch_23 (by omega) (by omega) (by decide) rfl (fun c23 => ?_) (fun c23 => ?_)
        · skip
          refine mk_aloadn (nx := 30) X 0 d_Mo_pitch_29 rfl rfl ?_
          refine mk_get (nx := 33) (v := .ref (ad 1)) X 0 (by decide) (mh_Mo cs ad _) rfl in_Mo 0 (by decide) wd_595 rfl rfl d_Mo_pitch_30 rfl ?_
          refine mk_iloadn (nx := 34) X 1 d_Mo_pitch_33 rfl rfl ?_
          refine mk_iald (nx := 35) (j := k.toNat) X 1 0 (by decide) (mh_pitches cs ad _) rfl (by omega) (by omega) (by decide) rfl d_Mo_pitch_34 rfl ?_
          refine mk_istoren (nx := 36) X [(3, .int (zi (I 1 k.toNat))), (0, .ref (ad 0)), (1, .int (zi k)), (2, .int (zi a))] d_Mo_pitch_35 (by decide) rfl rfl ?_
          refine mk_aloadn (nx := 37) X 1 d_Mo_pitch_36 rfl rfl ?_
          refine mk_get (nx := 40) (v := .ref (ad 1)) X 0 (by decide) (mh_Mo cs ad _) rfl in_Mo 0 (by decide) wd_595 rfl rfl d_Mo_pitch_37 rfl ?_
          refine mk_iloadn (nx := 41) X 2 d_Mo_pitch_40 rfl rfl ?_
          refine mk_iloadn (nx := 42) X 3 d_Mo_pitch_41 rfl rfl ?_
          refine mk_iast (nx := 43) (j := k.toNat) X 1 0 (by decide) (mh_pitches cs ad) rfl (by omega) (by omega) (by decide) rfl d_Mo_pitch_42 rfl ?_
          obtain ⟨J1, hJ1⟩ : ∃ z, z = up2 I 1 k.toNat a := ⟨_, rfl⟩
          refine mk_same hJ1.symm ?_
          have hJ1s : J1 1 k.toNat = a := hJ1 ▸ up2_ss I 1 k.toNat a
          have hJ1o : ∀ a b, (a ≠ 1 ∨ b ≠ k.toNat) → J1 a b = I a b := hJ1 ▸ up2_o I 1 k.toNat a
          refine mk_iloadn (nx := 44) X 0 d_Mo_pitch_43 rfl rfl ?_
          exact hret _ _ _ _ d_Mo_pitch_44 (by exact ⟨by rw [an_pitch, if_neg (by omega), if_neg (by omega)]; exact (iN k.toNat (by omega)).1, by rw [nw_pitch, if_neg (by omega), if_neg (by omega), hJ1]; exact mo_s_pitch h (by omega) (by omega)⟩)
        · skip
          refine mk_bipush (nx := 28) X d_Mo_pitch_26 (by decide) rfl ?_
          exact hret _ _ _ _ d_Mo_pitch_28 (by exact ⟨by rw [an_pitch, if_neg (by omega), if_pos (by omega)], by rw [nw_pitch, if_neg (by omega), if_pos (by omega)]; exact h⟩)
    · skip
      refine mk_iconst (nx := 13) X d_Mo_pitch_12 rfl ?_
      exact hret _ _ _ _ d_Mo_pitch_13 (by exact ⟨by rw [an_pitch, if_pos (by omega)], by rw [nw_pitch, if_pos (by omega)]; exact h⟩)

-- CanonMakerModel.told(II)I
theorem d_Mo_told_0 : decode prog_9_method_4_code 0 = .ok (.iload_n 1, 1) := by decide +kernel
theorem d_Mo_told_1 : decode prog_9_method_4_code 1 = .ok (.ifCond .lt 11, 3) := by decide +kernel
theorem d_Mo_told_4 : decode prog_9_method_4_code 4 = .ok (.iload_n 1, 1) := by decide +kernel
theorem d_Mo_told_5 : decode prog_9_method_4_code 5 = .ok (.aload_n 0, 1) := by decide +kernel
theorem d_Mo_told_6 : decode prog_9_method_4_code 6 = .ok (.getfield 66, 3) := by decide +kernel
theorem d_Mo_told_9 : decode prog_9_method_4_code 9 = .ok (.if_icmp .lt 7, 3) := by decide +kernel
theorem d_Mo_told_12 : decode prog_9_method_4_code 12 = .ok (.iconst (-1), 1) := by decide +kernel
theorem d_Mo_told_13 : decode prog_9_method_4_code 13 = .ok (.goto 32, 3) := by decide +kernel
theorem d_Mo_told_16 : decode prog_9_method_4_code 16 = .ok (.iload_n 2, 1) := by decide +kernel
theorem d_Mo_told_17 : decode prog_9_method_4_code 17 = .ok (.ifCond .ne 12, 3) := by decide +kernel
theorem d_Mo_told_20 : decode prog_9_method_4_code 20 = .ok (.aload_n 0, 1) := by decide +kernel
theorem d_Mo_told_21 : decode prog_9_method_4_code 21 = .ok (.getfield 7, 3) := by decide +kernel
theorem d_Mo_told_24 : decode prog_9_method_4_code 24 = .ok (.iload_n 1, 1) := by decide +kernel
theorem d_Mo_told_25 : decode prog_9_method_4_code 25 = .ok (.iaload, 1) := by decide +kernel
theorem d_Mo_told_26 : decode prog_9_method_4_code 26 = .ok (.goto 19, 3) := by decide +kernel
theorem d_Mo_told_29 : decode prog_9_method_4_code 29 = .ok (.iload_n 2, 1) := by decide +kernel
theorem d_Mo_told_30 : decode prog_9_method_4_code 30 = .ok (.iconst 1, 1) := by decide +kernel
theorem d_Mo_told_31 : decode prog_9_method_4_code 31 = .ok (.if_icmp .ne 12, 3) := by decide +kernel
theorem d_Mo_told_34 : decode prog_9_method_4_code 34 = .ok (.aload_n 0, 1) := by decide +kernel
theorem d_Mo_told_35 : decode prog_9_method_4_code 35 = .ok (.getfield 13, 3) := by decide +kernel
theorem d_Mo_told_38 : decode prog_9_method_4_code 38 = .ok (.iload_n 1, 1) := by decide +kernel
theorem d_Mo_told_39 : decode prog_9_method_4_code 39 = .ok (.iaload, 1) := by decide +kernel
theorem d_Mo_told_40 : decode prog_9_method_4_code 40 = .ok (.goto 5, 3) := by decide +kernel
theorem d_Mo_told_43 : decode prog_9_method_4_code 43 = .ok (.bipush (-2), 2) := by decide +kernel
theorem d_Mo_told_45 : decode prog_9_method_4_code 45 = .ok (.ireturn, 1) := by decide +kernel
abbrev rm_Mo_told : Room := { frames := 0, cells := 0, slots := 0, locals := 0 }
set_option maxHeartbeats 4000000 in
set_option maxRecDepth 100000 in
theorem c_Mo_told (l : Launch) (D : va_G) (cs : Nat → ClassId) (ad : Nat → Nat) (hi : mo_inj ad) (c I : Wo) (h : moR c I) (k : Int) (h_k : -2147483648 ≤ k ∧ k < 2147483648) (w : Int) (h_w : -2147483648 ≤ w ∧ w < 2147483648) : mo_C l D cs ad y_Mo_told ws_Mo_told rm_Mo_told [.ref (ad 0), .int (zi k), .int (zi w)] I (mk_pi (fun r J => r = an_told c k w ∧ moR c J)) := by
  refine mk_meti (own := "CanonMakerModel") (Ts := wA) hi (Nat.le_refl _) (by decide) rfl (fun w h => List.mem_cons_of_mem _ h) rfl (Nat.le_of_ble_eq_true rfl) [(0, .ref (ad 0)), (1, .int (zi k)), (2, .int (zi w))] rfl ?_
  intro p_ e_ s_ m_ as_ bl_ me_ co_ Q_ X hret
  obtain ⟨⟨⟨hn, hN⟩, ⟨hlo, hsc, hbt, hru, hrd, hst⟩, ⟨hV, hV0⟩, ⟨hfc, hF⟩⟩, ⟨i12, iN⟩, ⟨⟨i50, i51, i52, i53, i54⟩, i07, i09⟩, iV, ⟨i010, iF⟩⟩ := id h
  refine mk_iloadn (nx := 1) X 1 d_Mo_told_0 rfl rfl ?_
  refine mk_if_lt (tgt := 12) (nx := 4) X d_Mo_told_1 (by omega) (by decide) rfl (fun c1 => ?_) (fun c1 => ?_)
  · skip
    refine mk_iconst (nx := 13) X d_Mo_told_12 rfl ?_
    refine mk_goto (tgt := 45) X d_Mo_told_13 (by decide) ?_
    exact hret _ _ _ _ d_Mo_told_45 (by first | exact ⟨by rw [an_told, if_pos (by omega)], h⟩ | exact ⟨by rw [an_told, if_neg (by omega), if_pos (by omega)]; exact (iN k.toNat (by omega)).1, h⟩ | exact ⟨by rw [an_told, if_neg (by omega), if_neg (by omega), if_pos (by omega)]; exact (iN k.toNat (by omega)).2, h⟩ | exact ⟨by rw [an_told, if_neg (by omega), if_neg (by omega), if_neg (by omega)], h⟩)
  · skip
    refine mk_iloadn (nx := 5) X 1 d_Mo_told_4 rfl rfl ?_
    refine mk_aloadn (nx := 6) X 0 d_Mo_told_5 rfl rfl ?_
    refine mk_get (nx := 9) (v := .int (zi (I 0 2))) X 0 (by decide) (mh_Mo cs ad _) rfl in_Mo 2 (by decide) wd_597 rfl rfl d_Mo_told_6 rfl ?_
    refine mk_icmp_lt (tgt := 16) (nx := 12) X d_Mo_told_9 (by omega) (by omega) (by decide) rfl (fun c9 => ?_) (fun c9 => ?_)
    · skip
      refine mk_iloadn (nx := 17) X 2 d_Mo_told_16 rfl rfl ?_
      refine mk_if_ne (tgt := 29) (nx := 20) X d_Mo_told_17 (by omega) (by decide) rfl (fun c17 => ?_) (fun c17 => ?_)
      · skip
        refine mk_iloadn (nx := 30) X 2 d_Mo_told_29 rfl rfl ?_
        refine mk_iconst (nx := 31) X d_Mo_told_30 rfl ?_
        refine mk_icmp_ne (tgt := 43) (nx := 34) X d_Mo_told_31 (by omega) (by omega) (by decide) rfl (fun c31 => ?_) (fun c31 => ?_)
        · skip
          refine mk_bipush (nx := 45) X d_Mo_told_43 (by decide) rfl ?_
          exact hret _ _ _ _ d_Mo_told_45 (by first | exact ⟨by rw [an_told, if_pos (by omega)], h⟩ | exact ⟨by rw [an_told, if_neg (by omega), if_pos (by omega)]; exact (iN k.toNat (by omega)).1, h⟩ | exact ⟨by rw [an_told, if_neg (by omega), if_neg (by omega), if_pos (by omega)]; exact (iN k.toNat (by omega)).2, h⟩ | exact ⟨by rw [an_told, if_neg (by omega), if_neg (by omega), if_neg (by omega)], h⟩)
        · skip
          refine mk_aloadn (nx := 35) X 0 d_Mo_told_34 rfl rfl ?_
          refine mk_get (nx := 38) (v := .ref (ad 2)) X 0 (by decide) (mh_Mo cs ad _) rfl in_Mo 1 (by decide) wd_596 rfl rfl d_Mo_told_35 rfl ?_
          refine mk_iloadn (nx := 39) X 1 d_Mo_told_38 rfl rfl ?_
          refine mk_iald (nx := 40) (j := k.toNat) X 2 0 (by decide) (mh_lengths cs ad _) rfl (by omega) (by omega) (by decide) rfl d_Mo_told_39 rfl ?_
          refine mk_goto (tgt := 45) X d_Mo_told_40 (by decide) ?_
          exact hret _ _ _ _ d_Mo_told_45 (by first | exact ⟨by rw [an_told, if_pos (by omega)], h⟩ | exact ⟨by rw [an_told, if_neg (by omega), if_pos (by omega)]; exact (iN k.toNat (by omega)).1, h⟩ | exact ⟨by rw [an_told, if_neg (by omega), if_neg (by omega), if_pos (by omega)]; exact (iN k.toNat (by omega)).2, h⟩ | exact ⟨by rw [an_told, if_neg (by omega), if_neg (by omega), if_neg (by omega)], h⟩)
      · skip
        refine mk_aloadn (nx := 21) X 0 d_Mo_told_20 rfl rfl ?_
        refine mk_get (nx := 24) (v := .ref (ad 1)) X 0 (by decide) (mh_Mo cs ad _) rfl in_Mo 0 (by decide) wd_595 rfl rfl d_Mo_told_21 rfl ?_
        refine mk_iloadn (nx := 25) X 1 d_Mo_told_24 rfl rfl ?_
        refine mk_iald (nx := 26) (j := k.toNat) X 1 0 (by decide) (mh_pitches cs ad _) rfl (by omega) (by omega) (by decide) rfl d_Mo_told_25 rfl ?_
        refine mk_goto (tgt := 45) X d_Mo_told_26 (by decide) ?_
        exact hret _ _ _ _ d_Mo_told_45 (by first | exact ⟨by rw [an_told, if_pos (by omega)], h⟩ | exact ⟨by rw [an_told, if_neg (by omega), if_pos (by omega)]; exact (iN k.toNat (by omega)).1, h⟩ | exact ⟨by rw [an_told, if_neg (by omega), if_neg (by omega), if_pos (by omega)]; exact (iN k.toNat (by omega)).2, h⟩ | exact ⟨by rw [an_told, if_neg (by omega), if_neg (by omega), if_neg (by omega)], h⟩)
    · skip
      refine mk_iconst (nx := 13) X d_Mo_told_12 rfl ?_
      refine mk_goto (tgt := 45) X d_Mo_told_13 (by decide) ?_
      exact hret _ _ _ _ d_Mo_told_45 (by first | exact ⟨by rw [an_told, if_pos (by omega)], h⟩ | exact ⟨by rw [an_told, if_neg (by omega), if_pos (by omega)]; exact (iN k.toNat (by omega)).1, h⟩ | exact ⟨by rw [an_told, if_neg (by omega), if_neg (by omega), if_pos (by omega)]; exact (iN k.toNat (by omega)).2, h⟩ | exact ⟨by rw [an_told, if_neg (by omega), if_neg (by omega), if_neg (by omega)], h⟩)

-- CanonMakerModel.cut(I)I
theorem d_Mo_cut_0 : decode prog_9_method_5_code 0 = .ok (.iload_n 1, 1) := by decide +kernel
theorem d_Mo_cut_1 : decode prog_9_method_5_code 1 = .ok (.ifCond .lt 11, 3) := by decide +kernel
theorem d_Mo_cut_4 : decode prog_9_method_5_code 4 = .ok (.iload_n 1, 1) := by decide +kernel
theorem d_Mo_cut_5 : decode prog_9_method_5_code 5 = .ok (.aload_n 0, 1) := by decide +kernel
theorem d_Mo_cut_6 : decode prog_9_method_5_code 6 = .ok (.getfield 66, 3) := by decide +kernel
theorem d_Mo_cut_9 : decode prog_9_method_5_code 9 = .ok (.if_icmp .le 6, 3) := by decide +kernel
theorem d_Mo_cut_12 : decode prog_9_method_5_code 12 = .ok (.bipush (-2), 2) := by decide +kernel
theorem d_Mo_cut_14 : decode prog_9_method_5_code 14 = .ok (.ireturn, 1) := by decide +kernel
theorem d_Mo_cut_15 : decode prog_9_method_5_code 15 = .ok (.aload_n 0, 1) := by decide +kernel
theorem d_Mo_cut_16 : decode prog_9_method_5_code 16 = .ok (.getfield 66, 3) := by decide +kernel
theorem d_Mo_cut_19 : decode prog_9_method_5_code 19 = .ok (.istore_n 2, 1) := by decide +kernel
theorem d_Mo_cut_20 : decode prog_9_method_5_code 20 = .ok (.aload_n 0, 1) := by decide +kernel
theorem d_Mo_cut_21 : decode prog_9_method_5_code 21 = .ok (.iload_n 1, 1) := by decide +kernel
theorem d_Mo_cut_22 : decode prog_9_method_5_code 22 = .ok (.putfield 66, 3) := by decide +kernel
theorem d_Mo_cut_25 : decode prog_9_method_5_code 25 = .ok (.iload_n 2, 1) := by decide +kernel
theorem d_Mo_cut_26 : decode prog_9_method_5_code 26 = .ok (.ireturn, 1) := by decide +kernel
abbrev rm_Mo_cut : Room := { frames := 0, cells := 0, slots := 0, locals := 0 }
set_option maxHeartbeats 4000000 in
set_option maxRecDepth 100000 in
theorem c_Mo_cut (l : Launch) (D : va_G) (cs : Nat → ClassId) (ad : Nat → Nat) (hi : mo_inj ad) (c I : Wo) (h : moR c I) (n : Int) (h_n : -2147483648 ≤ n ∧ n < 2147483648) : mo_C l D cs ad y_Mo_cut ws_Mo_cut rm_Mo_cut [.ref (ad 0), .int (zi n)] I (mk_pi (fun r J => r = an_cut c n ∧ moR (nw_cut c n) J)) := by
  refine mk_meti (own := "CanonMakerModel") (Ts := wA) hi (Nat.le_refl _) (by decide) rfl (fun w h => List.mem_cons_of_mem _ h) rfl (Nat.le_of_ble_eq_true rfl) [(0, .ref (ad 0)), (1, .int (zi n))] rfl ?_
  intro p_ e_ s_ m_ as_ bl_ me_ co_ Q_ X hret
  obtain ⟨⟨⟨hn, hN⟩, ⟨hlo, hsc, hbt, hru, hrd, hst⟩, ⟨hV, hV0⟩, ⟨hfc, hF⟩⟩, ⟨i12, iN⟩, ⟨⟨i50, i51, i52, i53, i54⟩, i07, i09⟩, iV, ⟨i010, iF⟩⟩ := id h
  refine mk_iloadn (nx := 1) X 1 d_Mo_cut_0 rfl rfl ?_
  refine mk_if_lt (tgt := 12) (nx := 4) X d_Mo_cut_1 (by omega) (by decide) rfl (fun c1 => ?_) (fun c1 => ?_)
  · skip
    refine mk_bipush (nx := 14) X d_Mo_cut_12 (by decide) rfl ?_
    exact hret _ _ _ _ d_Mo_cut_14 (by exact ⟨by rw [an_cut, if_pos (by omega)], by rw [nw_cut, if_pos (by omega)]; exact h⟩)
  · skip
    refine mk_iloadn (nx := 5) X 1 d_Mo_cut_4 rfl rfl ?_
    refine mk_aloadn (nx := 6) X 0 d_Mo_cut_5 rfl rfl ?_
    refine mk_get (nx := 9) (v := .int (zi (I 0 2))) X 0 (by decide) (mh_Mo cs ad _) rfl in_Mo 2 (by decide) wd_597 rfl rfl d_Mo_cut_6 rfl ?_
    refine mk_icmp_le (tgt := 15) (nx := 12) X d_Mo_cut_9 (by omega) (by omega) (by decide) rfl (fun c9 => ?_) (fun c9 => ?_)
    · skip
      refine mk_aloadn (nx := 16) X 0 d_Mo_cut_15 rfl rfl ?_
      refine mk_get (nx := 19) (v := .int (zi (I 0 2))) X 0 (by decide) (mh_Mo cs ad _) rfl in_Mo 2 (by decide) wd_597 rfl rfl d_Mo_cut_16 rfl ?_
      refine mk_istoren (nx := 20) X [(2, .int (zi (I 0 2))), (0, .ref (ad 0)), (1, .int (zi n))] d_Mo_cut_19 (by decide) rfl rfl ?_
      refine mk_aloadn (nx := 21) X 1 d_Mo_cut_20 rfl rfl ?_
      refine mk_iloadn (nx := 22) X 2 d_Mo_cut_21 rfl rfl ?_
      refine mk_putf (nx := 25) (ty := .int) X t_Mo t_Mo_ok n_Mo 0 (by decide) (mh_Mo cs ad _) rfl in_Mo 2 (by decide) wd_597 rfl rfl (by decide +kernel) rfl rfl (Nat.le_of_ble_eq_true rfl) ((mh_Mo cs ad _).trans rfl) d_Mo_cut_22 rfl ?_
      obtain ⟨J1, hJ1⟩ : ∃ z, z = up2 I 0 2 n := ⟨_, rfl⟩
      refine mk_same hJ1.symm ?_
      have hJ1s : J1 0 2 = n := hJ1 ▸ up2_ss I 0 2 n
      have hJ1o : ∀ a b, (a ≠ 0 ∨ b ≠ 2) → J1 a b = I a b := hJ1 ▸ up2_o I 0 2 n
      refine mk_iloadn (nx := 26) X 0 d_Mo_cut_25 rfl rfl ?_
      exact hret _ _ _ _ d_Mo_cut_26 (by exact ⟨by rw [an_cut, if_neg (by omega)]; omega, by rw [nw_cut, if_neg (by omega), hJ1]; exact mo_s_cut h (by omega)⟩)
    · skip
      refine mk_bipush (nx := 14) X d_Mo_cut_12 (by decide) rfl ?_
      exact hret _ _ _ _ d_Mo_cut_14 (by exact ⟨by rw [an_cut, if_pos (by omega)], by rw [nw_cut, if_pos (by omega)]; exact h⟩)

-- CanonMakerModel.size()I
theorem d_Mo_size_0 : decode prog_9_method_6_code 0 = .ok (.iconst 0, 1) := by decide +kernel
theorem d_Mo_size_1 : decode prog_9_method_6_code 1 = .ok (.istore_n 1, 1) := by decide +kernel
theorem d_Mo_size_2 : decode prog_9_method_6_code 2 = .ok (.iconst 0, 1) := by decide +kernel
theorem d_Mo_size_3 : decode prog_9_method_6_code 3 = .ok (.istore_n 2, 1) := by decide +kernel
theorem d_Mo_size_4 : decode prog_9_method_6_code 4 = .ok (.iload_n 2, 1) := by decide +kernel
theorem d_Mo_size_5 : decode prog_9_method_6_code 5 = .ok (.aload_n 0, 1) := by decide +kernel
theorem d_Mo_size_6 : decode prog_9_method_6_code 6 = .ok (.getfield 66, 3) := by decide +kernel
theorem d_Mo_size_9 : decode prog_9_method_6_code 9 = .ok (.if_icmp .ge 18, 3) := by decide +kernel
theorem d_Mo_size_12 : decode prog_9_method_6_code 12 = .ok (.iload_n 1, 1) := by decide +kernel
theorem d_Mo_size_13 : decode prog_9_method_6_code 13 = .ok (.aload_n 0, 1) := by decide +kernel
theorem d_Mo_size_14 : decode prog_9_method_6_code 14 = .ok (.getfield 13, 3) := by decide +kernel
theorem d_Mo_size_17 : decode prog_9_method_6_code 17 = .ok (.iload_n 2, 1) := by decide +kernel
theorem d_Mo_size_18 : decode prog_9_method_6_code 18 = .ok (.iaload, 1) := by decide +kernel
theorem d_Mo_size_19 : decode prog_9_method_6_code 19 = .ok (.iadd, 1) := by decide +kernel
theorem d_Mo_size_20 : decode prog_9_method_6_code 20 = .ok (.istore_n 1, 1) := by decide +kernel
theorem d_Mo_size_21 : decode prog_9_method_6_code 21 = .ok (.iinc 2 1, 3) := by decide +kernel
theorem d_Mo_size_24 : decode prog_9_method_6_code 24 = .ok (.goto (-20), 3) := by decide +kernel
theorem d_Mo_size_27 : decode prog_9_method_6_code 27 = .ok (.iload_n 1, 1) := by decide +kernel
theorem d_Mo_size_28 : decode prog_9_method_6_code 28 = .ok (.ireturn, 1) := by decide +kernel
abbrev rm_Mo_size : Room := { frames := 0, cells := 0, slots := 0, locals := 0 }
set_option maxHeartbeats 4000000 in
set_option maxRecDepth 100000 in
theorem c_Mo_size (l : Launch) (D : va_G) (cs : Nat → ClassId) (ad : Nat → Nat) (hi : mo_inj ad) (c I : Wo) (h : moR c I) : mo_C l D cs ad y_Mo_size ws_Mo_size rm_Mo_size [.ref (ad 0)] I (mk_pi (fun r J => I = J ∧ r = an_size c)) := by
  refine mk_meti (own := "CanonMakerModel") (Ts := wA) hi (Nat.le_refl _) (by decide) rfl (fun w h => List.mem_cons_of_mem _ h) rfl (Nat.le_of_ble_eq_true rfl) [(0, .ref (ad 0))] rfl ?_
  intro p_ e_ s_ m_ as_ bl_ me_ co_ Q_ X hret
  obtain ⟨⟨⟨hn, hN⟩, ⟨hlo, hsc, hbt, hru, hrd, hst⟩, ⟨hV, hV0⟩, ⟨hfc, hF⟩⟩, ⟨i12, iN⟩, ⟨⟨i50, i51, i52, i53, i54⟩, i07, i09⟩, iV, ⟨i010, iF⟩⟩ := id h
  have L4 : ∀ nf : Nat, ∀ (k : Nat), ((k : Int) ≤ c 0 0) → 24 - k < nf → mk_A p_ l e_ rm_Mo_size s_ m_ as_ bl_ me_ co_ Q_ 3 D cmcl (mo_sh cs ad) 16 16 ad I [(0, .ref (ad 0)), (1, .int (zi (usum (c 2) k))), (2, .int (zi (k : Int)))] 4 [] := by
    intro nf
    induction nf with
    | zero => intro k hk hn; exact absurd hn (Nat.not_lt_zero _)
    | succ nf ih4 =>
      intro k hk hn4
      have hb := usum_b (f := c 2) (n := k) (fun j hj => (hN j (by omega)).2)
      refine mk_iloadn (nx := 5) X 2 d_Mo_size_4 rfl rfl ?_
      refine mk_aloadn (nx := 6) X 0 d_Mo_size_5 rfl rfl ?_
      refine mk_get (nx := 9) (v := .int (zi (I 0 2))) X 0 (by decide) (mh_Mo cs ad _) rfl in_Mo 2 (by decide) wd_597 rfl rfl d_Mo_size_6 rfl ?_
      refine mk_icmp_ge (tgt := 27) (nx := 12) X d_Mo_size_9 (by omega) (by omega) (by decide) rfl (fun c9 => ?_) (fun c9 => ?_)
      · skip
        refine mk_iloadn (nx := 28) X 1 d_Mo_size_27 rfl rfl ?_
        exact hret _ _ _ _ d_Mo_size_28 (by exact ⟨rfl, by rw [show k = (c 0 0).toNat by omega]; rfl⟩)
      · skip
        refine mk_iloadn (nx := 13) X 1 d_Mo_size_12 rfl rfl ?_
        refine mk_aloadn (nx := 14) X 0 d_Mo_size_13 rfl rfl ?_
        refine mk_get (nx := 17) (v := .ref (ad 2)) X 0 (by decide) (mh_Mo cs ad _) rfl in_Mo 1 (by decide) wd_596 rfl rfl d_Mo_size_14 rfl ?_
        refine mk_iloadn (nx := 18) X 2 d_Mo_size_17 rfl rfl ?_
        refine mk_iald (nx := 19) (j := k) X 2 0 (by decide) (mh_lengths cs ad _) rfl (by omega) (by omega) (by decide) rfl d_Mo_size_18 rfl ?_
        rw [show I 2 k = c 2 k from (iN k (by omega)).2]
        refine mk_iadd (nx := 20) X d_Mo_size_19 rfl ?_
        refine mk_istoren (nx := 21) X [(1, .int (zi ((usum (c 2) k) + (c 2 k)))), (0, .ref (ad 0)), (2, .int (zi (k : Int)))] d_Mo_size_20 (by decide) rfl rfl ?_
        refine mk_iinc (nx := 24) X 2 [(2, .int (zi ((k : Int) + 1))), (1, .int (zi ((usum (c 2) k) + (c 2 k)))), (0, .ref (ad 0))] d_Mo_size_21 rfl (by decide) rfl rfl ?_
        refine mk_goto (tgt := 4) X d_Mo_size_24 (by decide) ?_
        refine mk_lv [2, 1, 0] rfl ?_
        exact ih4 (k + 1) (by omega) (by omega)
  refine mk_iconst (nx := 1) X d_Mo_size_0 rfl ?_
  refine mk_istoren (nx := 2) X [(1, .int (zi 0)), (0, .ref (ad 0))] d_Mo_size_1 (by decide) rfl rfl ?_
  refine mk_iconst (nx := 3) X d_Mo_size_2 rfl ?_
  refine mk_istoren (nx := 4) X [(2, .int (zi 0)), (1, .int (zi 0)), (0, .ref (ad 0))] d_Mo_size_3 (by decide) rfl rfl ?_
  refine mk_lv [2, 1, 0] rfl ?_
  exact L4 _ 0 (by omega) (Nat.lt_succ_self _)

-- CanonMakerModel.voice(IIIII)I
theorem d_Mo_voice_0 : decode prog_9_method_7_code 0 = .ok (.iload_n 1, 1) := by decide +kernel
theorem d_Mo_voice_1 : decode prog_9_method_7_code 1 = .ok (.iconst 1, 1) := by decide +kernel
theorem d_Mo_voice_2 : decode prog_9_method_7_code 2 = .ok (.if_icmp .lt 8, 3) := by decide +kernel
theorem d_Mo_voice_5 : decode prog_9_method_7_code 5 = .ok (.iload_n 1, 1) := by decide +kernel
theorem d_Mo_voice_6 : decode prog_9_method_7_code 6 = .ok (.iconst 3, 1) := by decide +kernel
theorem d_Mo_voice_7 : decode prog_9_method_7_code 7 = .ok (.if_icmp .le 5, 3) := by decide +kernel
theorem d_Mo_voice_10 : decode prog_9_method_7_code 10 = .ok (.iconst (-1), 1) := by decide +kernel
theorem d_Mo_voice_11 : decode prog_9_method_7_code 11 = .ok (.ireturn, 1) := by decide +kernel
theorem d_Mo_voice_12 : decode prog_9_method_7_code 12 = .ok (.iload_n 2, 1) := by decide +kernel
theorem d_Mo_voice_13 : decode prog_9_method_7_code 13 = .ok (.ifCond .lt 44, 3) := by decide +kernel
theorem d_Mo_voice_16 : decode prog_9_method_7_code 16 = .ok (.iload_n 2, 1) := by decide +kernel
theorem d_Mo_voice_17 : decode prog_9_method_7_code 17 = .ok (.bipush 100, 2) := by decide +kernel
theorem d_Mo_voice_19 : decode prog_9_method_7_code 19 = .ok (.if_icmp .gt 38, 3) := by decide +kernel
theorem d_Mo_voice_22 : decode prog_9_method_7_code 22 = .ok (.iload_n 3, 1) := by decide +kernel
theorem d_Mo_voice_23 : decode prog_9_method_7_code 23 = .ok (.bipush (-24), 2) := by decide +kernel
theorem d_Mo_voice_25 : decode prog_9_method_7_code 25 = .ok (.if_icmp .lt 32, 3) := by decide +kernel
theorem d_Mo_voice_28 : decode prog_9_method_7_code 28 = .ok (.iload_n 3, 1) := by decide +kernel
theorem d_Mo_voice_29 : decode prog_9_method_7_code 29 = .ok (.bipush 24, 2) := by decide +kernel
theorem d_Mo_voice_31 : decode prog_9_method_7_code 31 = .ok (.if_icmp .gt 26, 3) := by decide +kernel
theorem d_Mo_voice_34 : decode prog_9_method_7_code 34 = .ok (.iload 4, 2) := by decide +kernel
theorem d_Mo_voice_36 : decode prog_9_method_7_code 36 = .ok (.ifCond .lt 21, 3) := by decide +kernel
theorem d_Mo_voice_39 : decode prog_9_method_7_code 39 = .ok (.iload 4, 2) := by decide +kernel
theorem d_Mo_voice_41 : decode prog_9_method_7_code 41 = .ok (.iconst 3, 1) := by decide +kernel
theorem d_Mo_voice_42 : decode prog_9_method_7_code 42 = .ok (.if_icmp .gt 15, 3) := by decide +kernel
theorem d_Mo_voice_45 : decode prog_9_method_7_code 45 = .ok (.iload 5, 2) := by decide +kernel
theorem d_Mo_voice_47 : decode prog_9_method_7_code 47 = .ok (.iconst 1, 1) := by decide +kernel
theorem d_Mo_voice_48 : decode prog_9_method_7_code 48 = .ok (.if_icmp .lt 9, 3) := by decide +kernel
theorem d_Mo_voice_51 : decode prog_9_method_7_code 51 = .ok (.iload 5, 2) := by decide +kernel
theorem d_Mo_voice_53 : decode prog_9_method_7_code 53 = .ok (.iconst 3, 1) := by decide +kernel
theorem d_Mo_voice_54 : decode prog_9_method_7_code 54 = .ok (.if_icmp .le 6, 3) := by decide +kernel
theorem d_Mo_voice_57 : decode prog_9_method_7_code 57 = .ok (.bipush (-2), 2) := by decide +kernel
theorem d_Mo_voice_59 : decode prog_9_method_7_code 59 = .ok (.ireturn, 1) := by decide +kernel
theorem d_Mo_voice_60 : decode prog_9_method_7_code 60 = .ok (.aload_n 0, 1) := by decide +kernel
theorem d_Mo_voice_61 : decode prog_9_method_7_code 61 = .ok (.getfield 16, 3) := by decide +kernel
theorem d_Mo_voice_64 : decode prog_9_method_7_code 64 = .ok (.iload_n 1, 1) := by decide +kernel
theorem d_Mo_voice_65 : decode prog_9_method_7_code 65 = .ok (.iconst 1, 1) := by decide +kernel
theorem d_Mo_voice_66 : decode prog_9_method_7_code 66 = .ok (.bastore, 1) := by decide +kernel
theorem d_Mo_voice_67 : decode prog_9_method_7_code 67 = .ok (.aload_n 0, 1) := by decide +kernel
theorem d_Mo_voice_68 : decode prog_9_method_7_code 68 = .ok (.getfield 20, 3) := by decide +kernel
theorem d_Mo_voice_71 : decode prog_9_method_7_code 71 = .ok (.iload_n 1, 1) := by decide +kernel
theorem d_Mo_voice_72 : decode prog_9_method_7_code 72 = .ok (.iload_n 2, 1) := by decide +kernel
theorem d_Mo_voice_73 : decode prog_9_method_7_code 73 = .ok (.iastore, 1) := by decide +kernel
theorem d_Mo_voice_74 : decode prog_9_method_7_code 74 = .ok (.aload_n 0, 1) := by decide +kernel
theorem d_Mo_voice_75 : decode prog_9_method_7_code 75 = .ok (.getfield 23, 3) := by decide +kernel
theorem d_Mo_voice_78 : decode prog_9_method_7_code 78 = .ok (.iload_n 1, 1) := by decide +kernel
theorem d_Mo_voice_79 : decode prog_9_method_7_code 79 = .ok (.iload_n 3, 1) := by decide +kernel
theorem d_Mo_voice_80 : decode prog_9_method_7_code 80 = .ok (.iastore, 1) := by decide +kernel
theorem d_Mo_voice_81 : decode prog_9_method_7_code 81 = .ok (.aload_n 0, 1) := by decide +kernel
theorem d_Mo_voice_82 : decode prog_9_method_7_code 82 = .ok (.getfield 26, 3) := by decide +kernel
theorem d_Mo_voice_85 : decode prog_9_method_7_code 85 = .ok (.iload_n 1, 1) := by decide +kernel
theorem d_Mo_voice_86 : decode prog_9_method_7_code 86 = .ok (.iload 4, 2) := by decide +kernel
theorem d_Mo_voice_88 : decode prog_9_method_7_code 88 = .ok (.iastore, 1) := by decide +kernel
theorem d_Mo_voice_89 : decode prog_9_method_7_code 89 = .ok (.aload_n 0, 1) := by decide +kernel
theorem d_Mo_voice_90 : decode prog_9_method_7_code 90 = .ok (.getfield 29, 3) := by decide +kernel
theorem d_Mo_voice_93 : decode prog_9_method_7_code 93 = .ok (.iload_n 1, 1) := by decide +kernel
theorem d_Mo_voice_94 : decode prog_9_method_7_code 94 = .ok (.iload 5, 2) := by decide +kernel
theorem d_Mo_voice_96 : decode prog_9_method_7_code 96 = .ok (.iastore, 1) := by decide +kernel
theorem d_Mo_voice_97 : decode prog_9_method_7_code 97 = .ok (.iconst 1, 1) := by decide +kernel
theorem d_Mo_voice_98 : decode prog_9_method_7_code 98 = .ok (.ireturn, 1) := by decide +kernel
abbrev rm_Mo_voice : Room := { frames := 0, cells := 0, slots := 0, locals := 0 }
set_option maxHeartbeats 4000000 in
set_option maxRecDepth 100000 in
theorem c_Mo_voice (l : Launch) (D : va_G) (cs : Nat → ClassId) (ad : Nat → Nat) (hi : mo_inj ad) (c I : Wo) (h : moR c I) (v : Int) (h_v : -2147483648 ≤ v ∧ v < 2147483648) (d : Int) (h_d : -2147483648 ≤ d ∧ d < 2147483648) (i : Int) (h_i : -2147483648 ≤ i ∧ i < 2147483648) (m : Int) (h_m : -2147483648 ≤ m ∧ m < 2147483648) (f : Int) (h_f : -2147483648 ≤ f ∧ f < 2147483648) : mo_C l D cs ad y_Mo_voice ws_Mo_voice rm_Mo_voice [.ref (ad 0), .int (zi v), .int (zi d), .int (zi i), .int (zi m), .int (zi f)] I (mk_pi (fun r J => r = an_voice v d i m f ∧ moR (nw_voice c v d i m f) J)) := by
  refine mk_meti (own := "CanonMakerModel") (Ts := wA) hi (Nat.le_refl _) (by decide) rfl (fun w h => List.mem_cons_of_mem _ h) rfl (Nat.le_of_ble_eq_true rfl) [(0, .ref (ad 0)), (1, .int (zi v)), (2, .int (zi d)), (3, .int (zi i)), (4, .int (zi m)), (5, .int (zi f))] rfl ?_
  intro p_ e_ s_ m_ as_ bl_ me_ co_ Q_ X hret
  obtain ⟨⟨⟨hn, hN⟩, ⟨hlo, hsc, hbt, hru, hrd, hst⟩, ⟨hV, hV0⟩, ⟨hfc, hF⟩⟩, ⟨i12, iN⟩, ⟨⟨i50, i51, i52, i53, i54⟩, i07, i09⟩, iV, ⟨i010, iF⟩⟩ := id h
  refine mk_iloadn (nx := 1) X 1 d_Mo_voice_0 rfl rfl ?_
  refine mk_iconst (nx := 2) X d_Mo_voice_1 rfl ?_
  refine mk_icmp_lt (tgt := 10) (nx := 5) X d_Mo_voice_2 (by omega) (by omega) (by decide) rfl (fun c2 => ?_) (fun c2 => ?_)
  · skip
    refine mk_iconst (nx := 11) X d_Mo_voice_10 rfl ?_
    exact hret _ _ _ _ d_Mo_voice_11 (by exact ⟨by rw [an_voice, if_pos (by omega)], by rw [nw_voice, if_pos (by omega)]; exact h⟩)
  · skip
    refine mk_iloadn (nx := 6) X 1 d_Mo_voice_5 rfl rfl ?_
    refine mk_iconst (nx := 7) X d_Mo_voice_6 rfl ?_
    refine mk_icmp_le (tgt := 12) (nx := 10) X d_Mo_voice_7 (by omega) (by omega) (by decide) rfl (fun c7 => ?_) (fun c7 => ?_)
    · skip
      refine mk_iloadn (nx := 13) X 2 d_Mo_voice_12 rfl rfl ?_
      refine mk_if_lt (tgt := 57) (nx := 16) X d_Mo_voice_13 (by omega) (by decide) rfl (fun c13 => ?_) (fun c13 => ?_)
      · skip
        refine mk_bipush (nx := 59) X d_Mo_voice_57 (by decide) rfl ?_
        exact hret _ _ _ _ d_Mo_voice_59 (by exact ⟨by rw [an_voice, if_neg (by omega), if_pos (by omega)], by rw [nw_voice, if_neg (by omega), if_pos (by omega)]; exact h⟩)
      · skip
        refine mk_iloadn (nx := 17) X 2 d_Mo_voice_16 rfl rfl ?_
        refine mk_bipush (nx := 19) X d_Mo_voice_17 (by decide) rfl ?_
        refine mk_icmp_gt (tgt := 57) (nx := 22) X d_Mo_voice_19 (by omega) (by omega) (by decide) rfl (fun c19 => ?_) (fun c19 => ?_)
        · skip
          refine mk_bipush (nx := 59) X d_Mo_voice_57 (by decide) rfl ?_
          exact hret _ _ _ _ d_Mo_voice_59 (by exact ⟨by rw [an_voice, if_neg (by omega), if_pos (by omega)], by rw [nw_voice, if_neg (by omega), if_pos (by omega)]; exact h⟩)
        · skip
          refine mk_iloadn (nx := 23) X 3 d_Mo_voice_22 rfl rfl ?_
          refine mk_bipush (nx := 25) X d_Mo_voice_23 (by decide) rfl ?_
          refine mk_icmp_lt (tgt := 57) (nx := 28) X d_Mo_voice_25 (by omega) (by omega) (by decide) rfl (fun c25 => ?_) (fun c25 => ?_)
          · skip
            refine mk_bipush (nx := 59) X d_Mo_voice_57 (by decide) rfl ?_
            exact hret _ _ _ _ d_Mo_voice_59 (by exact ⟨by rw [an_voice, if_neg (by omega), if_pos (by omega)], by rw [nw_voice, if_neg (by omega), if_pos (by omega)]; exact h⟩)
          · skip
            refine mk_iloadn (nx := 29) X 3 d_Mo_voice_28 rfl rfl ?_
            refine mk_bipush (nx := 31) X d_Mo_voice_29 (by decide) rfl ?_
            refine mk_icmp_gt (tgt := 57) (nx := 34) X d_Mo_voice_31 (by omega) (by omega) (by decide) rfl (fun c31 => ?_) (fun c31 => ?_)
            · skip
              refine mk_bipush (nx := 59) X d_Mo_voice_57 (by decide) rfl ?_
              exact hret _ _ _ _ d_Mo_voice_59 (by exact ⟨by rw [an_voice, if_neg (by omega), if_pos (by omega)], by rw [nw_voice, if_neg (by omega), if_pos (by omega)]; exact h⟩)
            · skip
              refine mk_iload (nx := 36) X 4 d_Mo_voice_34 rfl rfl ?_
              refine mk_if_lt (tgt := 57) (nx := 39) X d_Mo_voice_36 (by omega) (by decide) rfl (fun c36 => ?_) (fun c36 => ?_)
              · skip
                refine mk_bipush (nx := 59) X d_Mo_voice_57 (by decide) rfl ?_
                exact hret _ _ _ _ d_Mo_voice_59 (by exact ⟨by rw [an_voice, if_neg (by omega), if_pos (by omega)], by rw [nw_voice, if_neg (by omega), if_pos (by omega)]; exact h⟩)
              · skip
                refine mk_iload (nx := 41) X 4 d_Mo_voice_39 rfl rfl ?_
                refine mk_iconst (nx := 42) X d_Mo_voice_41 rfl ?_
                refine mk_icmp_gt (tgt := 57) (nx := 45) X d_Mo_voice_42 (by omega) (by omega) (by decide) rfl (fun c42 => ?_) (fun c42 => ?_)
                · skip
                  refine mk_bipush (nx := 59) X d_Mo_voice_57 (by decide) rfl ?_
                  exact hret _ _ _ _ d_Mo_voice_59 (by exact ⟨by rw [an_voice, if_neg (by omega), if_pos (by omega)], by rw [nw_voice, if_neg (by omega), if_pos (by omega)]; exact h⟩)
                · skip
                  refine mk_iload (nx := 47) X 5 d_Mo_voice_45 rfl rfl ?_
                  refine mk_iconst (nx := 48) X d_Mo_voice_47 rfl ?_
                  refine mk_icmp_lt (tgt := 57) (nx := 51) X d_Mo_voice_48 (by omega) (by omega) (by decide) rfl (fun c48 => ?_) (fun c48 => ?_)
                  · skip
                    refine mk_bipush (nx := 59) X d_Mo_voice_57 (by decide) rfl ?_
                    exact hret _ _ _ _ d_Mo_voice_59 (by exact ⟨by rw [an_voice, if_neg (by omega), if_pos (by omega)], by rw [nw_voice, if_neg (by omega), if_pos (by omega)]; exact h⟩)
                  · skip
                    refine mk_iload (nx := 53) X 5 d_Mo_voice_51 rfl rfl ?_
                    refine mk_iconst (nx := 54) X d_Mo_voice_53 rfl ?_
                    refine mk_icmp_le (tgt := 60) (nx := 57) X d_Mo_voice_54 (by omega) (by omega) (by decide) rfl (fun c54 => ?_) (fun c54 => ?_)
                    · skip
                      refine mk_aloadn (nx := 61) X 0 d_Mo_voice_60 rfl rfl ?_
                      refine mk_get (nx := 64) (v := .ref (ad 3)) X 0 (by decide) (mh_Mo cs ad _) rfl in_Mo 3 (by decide) wd_598 rfl rfl d_Mo_voice_61 rfl ?_
                      refine mk_iloadn (nx := 65) X 1 d_Mo_voice_64 rfl rfl ?_
                      refine mk_iconst (nx := 66) X d_Mo_voice_65 rfl ?_
                      refine mk_zast (nx := 67) (j := v.toNat) X 3 1 (by decide) (mh_on cs ad) rfl (by omega) (by omega) (by decide) (by omega) rfl d_Mo_voice_66 rfl ?_
                      obtain ⟨J1, hJ1⟩ : ∃ z, z = up2 I 3 v.toNat 1 := ⟨_, rfl⟩
                      refine mk_same hJ1.symm ?_
                      have hJ1s : J1 3 v.toNat = 1 := hJ1 ▸ up2_ss I 3 v.toNat 1
                      have hJ1o : ∀ a b, (a ≠ 3 ∨ b ≠ v.toNat) → J1 a b = I a b := hJ1 ▸ up2_o I 3 v.toNat 1
                      refine mk_aloadn (nx := 68) X 0 d_Mo_voice_67 rfl rfl ?_
                      refine mk_get (nx := 71) (v := .ref (ad 4)) X 0 (by decide) (mh_Mo cs ad _) rfl in_Mo 4 (by decide) wd_599 rfl rfl d_Mo_voice_68 rfl ?_
                      refine mk_iloadn (nx := 72) X 1 d_Mo_voice_71 rfl rfl ?_
                      refine mk_iloadn (nx := 73) X 2 d_Mo_voice_72 rfl rfl ?_
                      refine mk_iast (nx := 74) (j := v.toNat) X 4 0 (by decide) (mh_delays cs ad) rfl (by omega) (by omega) (by decide) rfl d_Mo_voice_73 rfl ?_
                      obtain ⟨J2, hJ2⟩ : ∃ z, z = up2 J1 4 v.toNat d := ⟨_, rfl⟩
                      refine mk_same hJ2.symm ?_
                      have hJ2s : J2 4 v.toNat = d := hJ2 ▸ up2_ss J1 4 v.toNat d
                      have hJ2o : ∀ a b, (a ≠ 4 ∨ b ≠ v.toNat) → J2 a b = J1 a b := hJ2 ▸ up2_o J1 4 v.toNat d
                      refine mk_aloadn (nx := 75) X 0 d_Mo_voice_74 rfl rfl ?_
                      refine mk_get (nx := 78) (v := .ref (ad 5)) X 0 (by decide) (mh_Mo cs ad _) rfl in_Mo 5 (by decide) wd_600 rfl rfl d_Mo_voice_75 rfl ?_
                      refine mk_iloadn (nx := 79) X 1 d_Mo_voice_78 rfl rfl ?_
                      refine mk_iloadn (nx := 80) X 3 d_Mo_voice_79 rfl rfl ?_
                      refine mk_iast (nx := 81) (j := v.toNat) X 5 0 (by decide) (mh_intervals cs ad) rfl (by omega) (by omega) (by decide) rfl d_Mo_voice_80 rfl ?_
                      obtain ⟨J3, hJ3⟩ : ∃ z, z = up2 J2 5 v.toNat i := ⟨_, rfl⟩
                      refine mk_same hJ3.symm ?_
                      have hJ3s : J3 5 v.toNat = i := hJ3 ▸ up2_ss J2 5 v.toNat i
                      have hJ3o : ∀ a b, (a ≠ 5 ∨ b ≠ v.toNat) → J3 a b = J2 a b := hJ3 ▸ up2_o J2 5 v.toNat i
                      refine mk_aloadn (nx := 82) X 0 d_Mo_voice_81 rfl rfl ?_
                      refine mk_get (nx := 85) (v := .ref (ad 6)) X 0 (by decide) (mh_Mo cs ad _) rfl in_Mo 6 (by decide) wd_601 rfl rfl d_Mo_voice_82 rfl ?_
                      refine mk_iloadn (nx := 86) X 1 d_Mo_voice_85 rfl rfl ?_
                      refine mk_iload (nx := 88) X 4 d_Mo_voice_86 rfl rfl ?_
                      refine mk_iast (nx := 89) (j := v.toNat) X 6 0 (by decide) (mh_modes cs ad) rfl (by omega) (by omega) (by decide) rfl d_Mo_voice_88 rfl ?_
                      obtain ⟨J4, hJ4⟩ : ∃ z, z = up2 J3 6 v.toNat m := ⟨_, rfl⟩
                      refine mk_same hJ4.symm ?_
                      have hJ4s : J4 6 v.toNat = m := hJ4 ▸ up2_ss J3 6 v.toNat m
                      have hJ4o : ∀ a b, (a ≠ 6 ∨ b ≠ v.toNat) → J4 a b = J3 a b := hJ4 ▸ up2_o J3 6 v.toNat m
                      refine mk_aloadn (nx := 90) X 0 d_Mo_voice_89 rfl rfl ?_
                      refine mk_get (nx := 93) (v := .ref (ad 7)) X 0 (by decide) (mh_Mo cs ad _) rfl in_Mo 7 (by decide) wd_602 rfl rfl d_Mo_voice_90 rfl ?_
                      refine mk_iloadn (nx := 94) X 1 d_Mo_voice_93 rfl rfl ?_
                      refine mk_iload (nx := 96) X 5 d_Mo_voice_94 rfl rfl ?_
                      refine mk_iast (nx := 97) (j := v.toNat) X 7 0 (by decide) (mh_factors cs ad) rfl (by omega) (by omega) (by decide) rfl d_Mo_voice_96 rfl ?_
                      obtain ⟨J5, hJ5⟩ : ∃ z, z = up2 J4 7 v.toNat f := ⟨_, rfl⟩
                      refine mk_same hJ5.symm ?_
                      have hJ5s : J5 7 v.toNat = f := hJ5 ▸ up2_ss J4 7 v.toNat f
                      have hJ5o : ∀ a b, (a ≠ 7 ∨ b ≠ v.toNat) → J5 a b = J4 a b := hJ5 ▸ up2_o J4 7 v.toNat f
                      refine mk_iconst (nx := 98) X d_Mo_voice_97 rfl ?_
                      exact hret _ _ _ _ d_Mo_voice_98 (by exact ⟨by rw [an_voice, if_neg (by omega), if_neg (by omega)]; try rfl, by rw [nw_voice, if_neg (by omega), if_neg (by omega), hJ5, hJ4, hJ3, hJ2, hJ1]; exact mo_s_voice h (by omega) (by omega) (by omega) (by omega) (by omega)⟩)
                    · skip
                      refine mk_bipush (nx := 59) X d_Mo_voice_57 (by decide) rfl ?_
                      exact hret _ _ _ _ d_Mo_voice_59 (by exact ⟨by rw [an_voice, if_neg (by omega), if_pos (by omega)], by rw [nw_voice, if_neg (by omega), if_pos (by omega)]; exact h⟩)
    · skip
      refine mk_iconst (nx := 11) X d_Mo_voice_10 rfl ?_
      exact hret _ _ _ _ d_Mo_voice_11 (by exact ⟨by rw [an_voice, if_pos (by omega)], by rw [nw_voice, if_pos (by omega)]; exact h⟩)

-- CanonMakerModel.off(I)I
theorem d_Mo_off_0 : decode prog_9_method_8_code 0 = .ok (.iload_n 1, 1) := by decide +kernel
theorem d_Mo_off_1 : decode prog_9_method_8_code 1 = .ok (.iconst 1, 1) := by decide +kernel
theorem d_Mo_off_2 : decode prog_9_method_8_code 2 = .ok (.if_icmp .lt 8, 3) := by decide +kernel
theorem d_Mo_off_5 : decode prog_9_method_8_code 5 = .ok (.iload_n 1, 1) := by decide +kernel
theorem d_Mo_off_6 : decode prog_9_method_8_code 6 = .ok (.iconst 3, 1) := by decide +kernel
theorem d_Mo_off_7 : decode prog_9_method_8_code 7 = .ok (.if_icmp .le 5, 3) := by decide +kernel
theorem d_Mo_off_10 : decode prog_9_method_8_code 10 = .ok (.iconst (-1), 1) := by decide +kernel
theorem d_Mo_off_11 : decode prog_9_method_8_code 11 = .ok (.ireturn, 1) := by decide +kernel
theorem d_Mo_off_12 : decode prog_9_method_8_code 12 = .ok (.aload_n 0, 1) := by decide +kernel
theorem d_Mo_off_13 : decode prog_9_method_8_code 13 = .ok (.getfield 16, 3) := by decide +kernel
theorem d_Mo_off_16 : decode prog_9_method_8_code 16 = .ok (.iload_n 1, 1) := by decide +kernel
theorem d_Mo_off_17 : decode prog_9_method_8_code 17 = .ok (.baload, 1) := by decide +kernel
theorem d_Mo_off_18 : decode prog_9_method_8_code 18 = .ok (.ifCond .eq 7, 3) := by decide +kernel
theorem d_Mo_off_21 : decode prog_9_method_8_code 21 = .ok (.iconst 1, 1) := by decide +kernel
theorem d_Mo_off_22 : decode prog_9_method_8_code 22 = .ok (.goto 4, 3) := by decide +kernel
theorem d_Mo_off_25 : decode prog_9_method_8_code 25 = .ok (.iconst 0, 1) := by decide +kernel
theorem d_Mo_off_26 : decode prog_9_method_8_code 26 = .ok (.istore_n 2, 1) := by decide +kernel
theorem d_Mo_off_27 : decode prog_9_method_8_code 27 = .ok (.aload_n 0, 1) := by decide +kernel
theorem d_Mo_off_28 : decode prog_9_method_8_code 28 = .ok (.getfield 16, 3) := by decide +kernel
theorem d_Mo_off_31 : decode prog_9_method_8_code 31 = .ok (.iload_n 1, 1) := by decide +kernel
theorem d_Mo_off_32 : decode prog_9_method_8_code 32 = .ok (.iconst 0, 1) := by decide +kernel
theorem d_Mo_off_33 : decode prog_9_method_8_code 33 = .ok (.bastore, 1) := by decide +kernel
theorem d_Mo_off_34 : decode prog_9_method_8_code 34 = .ok (.iload_n 2, 1) := by decide +kernel
theorem d_Mo_off_35 : decode prog_9_method_8_code 35 = .ok (.ireturn, 1) := by decide +kernel
abbrev rm_Mo_off : Room := { frames := 0, cells := 0, slots := 0, locals := 0 }
set_option maxHeartbeats 4000000 in
set_option maxRecDepth 100000 in
theorem c_Mo_off (l : Launch) (D : va_G) (cs : Nat → ClassId) (ad : Nat → Nat) (hi : mo_inj ad) (c I : Wo) (h : moR c I) (v : Int) (h_v : -2147483648 ≤ v ∧ v < 2147483648) : mo_C l D cs ad y_Mo_off ws_Mo_off rm_Mo_off [.ref (ad 0), .int (zi v)] I (mk_pi (fun r J => r = an_off c v ∧ moR (nw_off c v) J)) := by
  refine mk_meti (own := "CanonMakerModel") (Ts := wA) hi (Nat.le_refl _) (by decide) rfl (fun w h => List.mem_cons_of_mem _ h) rfl (Nat.le_of_ble_eq_true rfl) [(0, .ref (ad 0)), (1, .int (zi v))] rfl ?_
  intro p_ e_ s_ m_ as_ bl_ me_ co_ Q_ X hret
  obtain ⟨⟨⟨hn, hN⟩, ⟨hlo, hsc, hbt, hru, hrd, hst⟩, ⟨hV, hV0⟩, ⟨hfc, hF⟩⟩, ⟨i12, iN⟩, ⟨⟨i50, i51, i52, i53, i54⟩, i07, i09⟩, iV, ⟨i010, iF⟩⟩ := id h
  refine mk_iloadn (nx := 1) X 1 d_Mo_off_0 rfl rfl ?_
  refine mk_iconst (nx := 2) X d_Mo_off_1 rfl ?_
  refine mk_icmp_lt (tgt := 10) (nx := 5) X d_Mo_off_2 (by omega) (by omega) (by decide) rfl (fun c2 => ?_) (fun c2 => ?_)
  · skip
    refine mk_iconst (nx := 11) X d_Mo_off_10 rfl ?_
    exact hret _ _ _ _ d_Mo_off_11 (by exact ⟨by rw [an_off, if_pos (by omega)], by rw [nw_off, if_pos (by omega)]; exact h⟩)
  · skip
    refine mk_iloadn (nx := 6) X 1 d_Mo_off_5 rfl rfl ?_
    refine mk_iconst (nx := 7) X d_Mo_off_6 rfl ?_
    refine mk_icmp_le (tgt := 12) (nx := 10) X d_Mo_off_7 (by omega) (by omega) (by decide) rfl (fun c7 => ?_) (fun c7 => ?_)
    · skip
      have hv4 := iV v.toNat (by omega)
      have hv5 := hV v.toNat (by omega)
      refine mk_aloadn (nx := 13) X 0 d_Mo_off_12 rfl rfl ?_
      refine mk_get (nx := 16) (v := .ref (ad 3)) X 0 (by decide) (mh_Mo cs ad _) rfl in_Mo 3 (by decide) wd_598 rfl rfl d_Mo_off_13 rfl ?_
      refine mk_iloadn (nx := 17) X 1 d_Mo_off_16 rfl rfl ?_
      refine mk_zald (nx := 18) (j := v.toNat) X 3 1 (by decide) (mh_on cs ad _) rfl (by omega) (by omega) (by decide) rfl d_Mo_off_17 rfl ?_
      refine mk_if_eq (tgt := 25) (nx := 21) X d_Mo_off_18 (by omega) (by decide) rfl (fun c18 => ?_) (fun c18 => ?_)
      · skip
        refine mk_iconst (nx := 26) X d_Mo_off_25 rfl ?_
        refine mk_istoren (nx := 27) X [(2, .int (zi 0)), (0, .ref (ad 0)), (1, .int (zi v))] d_Mo_off_26 (by decide) rfl rfl ?_
        refine mk_aloadn (nx := 28) X 1 d_Mo_off_27 rfl rfl ?_
        refine mk_get (nx := 31) (v := .ref (ad 3)) X 0 (by decide) (mh_Mo cs ad _) rfl in_Mo 3 (by decide) wd_598 rfl rfl d_Mo_off_28 rfl ?_
        refine mk_iloadn (nx := 32) X 2 d_Mo_off_31 rfl rfl ?_
        refine mk_iconst (nx := 33) X d_Mo_off_32 rfl ?_
        refine mk_zast (nx := 34) (j := v.toNat) X 3 1 (by decide) (mh_on cs ad) rfl (by omega) (by omega) (by decide) (by omega) rfl d_Mo_off_33 rfl ?_
        obtain ⟨J1, hJ1⟩ : ∃ z, z = up2 I 3 v.toNat 0 := ⟨_, rfl⟩
        refine mk_same hJ1.symm ?_
        have hJ1s : J1 3 v.toNat = 0 := hJ1 ▸ up2_ss I 3 v.toNat 0
        have hJ1o : ∀ a b, (a ≠ 3 ∨ b ≠ v.toNat) → J1 a b = I a b := hJ1 ▸ up2_o I 3 v.toNat 0
        refine mk_iloadn (nx := 35) X 0 d_Mo_off_34 rfl rfl ?_
        exact hret _ _ _ _ d_Mo_off_35 (by exact ⟨by rw [an_off, if_neg (by omega)]; omega, by rw [nw_off, if_neg (by omega), hJ1]; exact mo_s_off h (by omega)⟩)
      · skip
        refine mk_iconst (nx := 22) X d_Mo_off_21 rfl ?_
        refine mk_goto (tgt := 26) X d_Mo_off_22 (by decide) ?_
        refine mk_istoren (nx := 27) X [(2, .int (zi 1)), (0, .ref (ad 0)), (1, .int (zi v))] d_Mo_off_26 (by decide) rfl rfl ?_
        refine mk_aloadn (nx := 28) X 1 d_Mo_off_27 rfl rfl ?_
        refine mk_get (nx := 31) (v := .ref (ad 3)) X 0 (by decide) (mh_Mo cs ad _) rfl in_Mo 3 (by decide) wd_598 rfl rfl d_Mo_off_28 rfl ?_
        refine mk_iloadn (nx := 32) X 2 d_Mo_off_31 rfl rfl ?_
        refine mk_iconst (nx := 33) X d_Mo_off_32 rfl ?_
        refine mk_zast (nx := 34) (j := v.toNat) X 3 1 (by decide) (mh_on cs ad) rfl (by omega) (by omega) (by decide) (by omega) rfl d_Mo_off_33 rfl ?_
        obtain ⟨J2, hJ2⟩ : ∃ z, z = up2 I 3 v.toNat 0 := ⟨_, rfl⟩
        refine mk_same hJ2.symm ?_
        have hJ2s : J2 3 v.toNat = 0 := hJ2 ▸ up2_ss I 3 v.toNat 0
        have hJ2o : ∀ a b, (a ≠ 3 ∨ b ≠ v.toNat) → J2 a b = I a b := hJ2 ▸ up2_o I 3 v.toNat 0
        refine mk_iloadn (nx := 35) X 0 d_Mo_off_34 rfl rfl ?_
        exact hret _ _ _ _ d_Mo_off_35 (by exact ⟨by rw [an_off, if_neg (by omega)]; omega, by rw [nw_off, if_neg (by omega), hJ2]; exact mo_s_off h (by omega)⟩)
    · skip
      refine mk_iconst (nx := 11) X d_Mo_off_10 rfl ?_
      exact hret _ _ _ _ d_Mo_off_11 (by exact ⟨by rw [an_off, if_pos (by omega)], by rw [nw_off, if_pos (by omega)]; exact h⟩)

-- CanonMakerModel.span(II)I
theorem d_Mo_span_0 : decode prog_9_method_9_code 0 = .ok (.iload_n 1, 1) := by decide +kernel
theorem d_Mo_span_1 : decode prog_9_method_9_code 1 = .ok (.ifCond .lt 14, 3) := by decide +kernel
theorem d_Mo_span_4 : decode prog_9_method_9_code 4 = .ok (.iload_n 2, 1) := by decide +kernel
theorem d_Mo_span_5 : decode prog_9_method_9_code 5 = .ok (.bipush 127, 2) := by decide +kernel
theorem d_Mo_span_7 : decode prog_9_method_9_code 7 = .ok (.if_icmp .gt 8, 3) := by decide +kernel
theorem d_Mo_span_10 : decode prog_9_method_9_code 10 = .ok (.iload_n 1, 1) := by decide +kernel
theorem d_Mo_span_11 : decode prog_9_method_9_code 11 = .ok (.iload_n 2, 1) := by decide +kernel
theorem d_Mo_span_12 : decode prog_9_method_9_code 12 = .ok (.if_icmp .le 6, 3) := by decide +kernel
theorem d_Mo_span_15 : decode prog_9_method_9_code 15 = .ok (.bipush (-2), 2) := by decide +kernel
theorem d_Mo_span_17 : decode prog_9_method_9_code 17 = .ok (.ireturn, 1) := by decide +kernel
theorem d_Mo_span_18 : decode prog_9_method_9_code 18 = .ok (.aload_n 0, 1) := by decide +kernel
theorem d_Mo_span_19 : decode prog_9_method_9_code 19 = .ok (.iload_n 1, 1) := by decide +kernel
theorem d_Mo_span_20 : decode prog_9_method_9_code 20 = .ok (.putfield 69, 3) := by decide +kernel
theorem d_Mo_span_23 : decode prog_9_method_9_code 23 = .ok (.aload_n 0, 1) := by decide +kernel
theorem d_Mo_span_24 : decode prog_9_method_9_code 24 = .ok (.iload_n 2, 1) := by decide +kernel
theorem d_Mo_span_25 : decode prog_9_method_9_code 25 = .ok (.putfield 32, 3) := by decide +kernel
theorem d_Mo_span_28 : decode prog_9_method_9_code 28 = .ok (.iconst 1, 1) := by decide +kernel
theorem d_Mo_span_29 : decode prog_9_method_9_code 29 = .ok (.ireturn, 1) := by decide +kernel
abbrev rm_Mo_span : Room := { frames := 0, cells := 0, slots := 0, locals := 0 }
set_option maxHeartbeats 4000000 in
set_option maxRecDepth 100000 in
theorem c_Mo_span (l : Launch) (D : va_G) (cs : Nat → ClassId) (ad : Nat → Nat) (hi : mo_inj ad) (c I : Wo) (h : moR c I) (a : Int) (h_a : -2147483648 ≤ a ∧ a < 2147483648) (b : Int) (h_b : -2147483648 ≤ b ∧ b < 2147483648) : mo_C l D cs ad y_Mo_span ws_Mo_span rm_Mo_span [.ref (ad 0), .int (zi a), .int (zi b)] I (mk_pi (fun r J => r = an_span a b ∧ moR (nw_span c a b) J)) := by
  refine mk_meti (own := "CanonMakerModel") (Ts := wA) hi (Nat.le_refl _) (by decide) rfl (fun w h => List.mem_cons_of_mem _ h) rfl (Nat.le_of_ble_eq_true rfl) [(0, .ref (ad 0)), (1, .int (zi a)), (2, .int (zi b))] rfl ?_
  intro p_ e_ s_ m_ as_ bl_ me_ co_ Q_ X hret
  obtain ⟨⟨⟨hn, hN⟩, ⟨hlo, hsc, hbt, hru, hrd, hst⟩, ⟨hV, hV0⟩, ⟨hfc, hF⟩⟩, ⟨i12, iN⟩, ⟨⟨i50, i51, i52, i53, i54⟩, i07, i09⟩, iV, ⟨i010, iF⟩⟩ := id h
  refine mk_iloadn (nx := 1) X 1 d_Mo_span_0 rfl rfl ?_
  refine mk_if_lt (tgt := 15) (nx := 4) X d_Mo_span_1 (by omega) (by decide) rfl (fun c1 => ?_) (fun c1 => ?_)
  · skip
    refine mk_bipush (nx := 17) X d_Mo_span_15 (by decide) rfl ?_
    exact hret _ _ _ _ d_Mo_span_17 (by exact ⟨by rw [an_span, if_pos (by omega)], by rw [nw_span, if_pos (by omega)]; exact h⟩)
  · skip
    refine mk_iloadn (nx := 5) X 2 d_Mo_span_4 rfl rfl ?_
    refine mk_bipush (nx := 7) X d_Mo_span_5 (by decide) rfl ?_
    refine mk_icmp_gt (tgt := 15) (nx := 10) X d_Mo_span_7 (by omega) (by omega) (by decide) rfl (fun c7 => ?_) (fun c7 => ?_)
    · skip
      refine mk_bipush (nx := 17) X d_Mo_span_15 (by decide) rfl ?_
      exact hret _ _ _ _ d_Mo_span_17 (by exact ⟨by rw [an_span, if_pos (by omega)], by rw [nw_span, if_pos (by omega)]; exact h⟩)
    · skip
      refine mk_iloadn (nx := 11) X 1 d_Mo_span_10 rfl rfl ?_
      refine mk_iloadn (nx := 12) X 2 d_Mo_span_11 rfl rfl ?_
      refine mk_icmp_le (tgt := 18) (nx := 15) X d_Mo_span_12 (by omega) (by omega) (by decide) rfl (fun c12 => ?_) (fun c12 => ?_)
      · skip
        refine mk_aloadn (nx := 19) X 0 d_Mo_span_18 rfl rfl ?_
        refine mk_iloadn (nx := 20) X 1 d_Mo_span_19 rfl rfl ?_
        refine mk_putf (nx := 23) (ty := .int) X t_Mo t_Mo_ok n_Mo 0 (by decide) (mh_Mo cs ad _) rfl in_Mo 8 (by decide) wd_603 rfl rfl (by decide +kernel) rfl rfl (Nat.le_of_ble_eq_true rfl) ((mh_Mo cs ad _).trans rfl) d_Mo_span_20 rfl ?_
        obtain ⟨J1, hJ1⟩ : ∃ z, z = up2 I 0 8 a := ⟨_, rfl⟩
        refine mk_same hJ1.symm ?_
        have hJ1s : J1 0 8 = a := hJ1 ▸ up2_ss I 0 8 a
        have hJ1o : ∀ a b, (a ≠ 0 ∨ b ≠ 8) → J1 a b = I a b := hJ1 ▸ up2_o I 0 8 a
        refine mk_aloadn (nx := 24) X 0 d_Mo_span_23 rfl rfl ?_
        refine mk_iloadn (nx := 25) X 2 d_Mo_span_24 rfl rfl ?_
        refine mk_putf (nx := 28) (ty := .int) X t_Mo t_Mo_ok n_Mo 0 (by decide) (mh_Mo cs ad _) rfl in_Mo 9 (by decide) wd_604 rfl rfl (by decide +kernel) rfl rfl (Nat.le_of_ble_eq_true rfl) ((mh_Mo cs ad _).trans rfl) d_Mo_span_25 rfl ?_
        obtain ⟨J2, hJ2⟩ : ∃ z, z = up2 J1 0 9 b := ⟨_, rfl⟩
        refine mk_same hJ2.symm ?_
        have hJ2s : J2 0 9 = b := hJ2 ▸ up2_ss J1 0 9 b
        have hJ2o : ∀ a b, (a ≠ 0 ∨ b ≠ 9) → J2 a b = J1 a b := hJ2 ▸ up2_o J1 0 9 b
        refine mk_iconst (nx := 29) X d_Mo_span_28 rfl ?_
        exact hret _ _ _ _ d_Mo_span_29 (by exact ⟨by rw [an_span, if_neg (by omega)]; try rfl, by rw [nw_span, if_neg (by omega), hJ2, hJ1]; exact mo_s_span h (by omega)⟩)
      · skip
        refine mk_bipush (nx := 17) X d_Mo_span_15 (by decide) rfl ?_
        exact hret _ _ _ _ d_Mo_span_17 (by exact ⟨by rw [an_span, if_pos (by omega)], by rw [nw_span, if_pos (by omega)]; exact h⟩)

-- CanonMakerModel.scale(I)I
theorem d_Mo_scale_0 : decode prog_9_method_10_code 0 = .ok (.iload_n 1, 1) := by decide +kernel
theorem d_Mo_scale_1 : decode prog_9_method_10_code 1 = .ok (.ifCond .lt 10, 3) := by decide +kernel
theorem d_Mo_scale_4 : decode prog_9_method_10_code 4 = .ok (.iload_n 1, 1) := by decide +kernel
theorem d_Mo_scale_5 : decode prog_9_method_10_code 5 = .ok (.sipush 4095, 3) := by decide +kernel
theorem d_Mo_scale_8 : decode prog_9_method_10_code 8 = .ok (.if_icmp .le 6, 3) := by decide +kernel
theorem d_Mo_scale_11 : decode prog_9_method_10_code 11 = .ok (.bipush (-2), 2) := by decide +kernel
theorem d_Mo_scale_13 : decode prog_9_method_10_code 13 = .ok (.ireturn, 1) := by decide +kernel
theorem d_Mo_scale_14 : decode prog_9_method_10_code 14 = .ok (.aload_n 0, 1) := by decide +kernel
theorem d_Mo_scale_15 : decode prog_9_method_10_code 15 = .ok (.getfield 36, 3) := by decide +kernel
theorem d_Mo_scale_18 : decode prog_9_method_10_code 18 = .ok (.istore_n 2, 1) := by decide +kernel
theorem d_Mo_scale_19 : decode prog_9_method_10_code 19 = .ok (.aload_n 0, 1) := by decide +kernel
theorem d_Mo_scale_20 : decode prog_9_method_10_code 20 = .ok (.iload_n 1, 1) := by decide +kernel
theorem d_Mo_scale_21 : decode prog_9_method_10_code 21 = .ok (.putfield 36, 3) := by decide +kernel
theorem d_Mo_scale_24 : decode prog_9_method_10_code 24 = .ok (.iload_n 2, 1) := by decide +kernel
theorem d_Mo_scale_25 : decode prog_9_method_10_code 25 = .ok (.ireturn, 1) := by decide +kernel
abbrev rm_Mo_scale : Room := { frames := 0, cells := 0, slots := 0, locals := 0 }
set_option maxHeartbeats 4000000 in
set_option maxRecDepth 100000 in
theorem c_Mo_scale (l : Launch) (D : va_G) (cs : Nat → ClassId) (ad : Nat → Nat) (hi : mo_inj ad) (c I : Wo) (h : moR c I) (a : Int) (h_a : -2147483648 ≤ a ∧ a < 2147483648) : mo_C l D cs ad y_Mo_scale ws_Mo_scale rm_Mo_scale [.ref (ad 0), .int (zi a)] I (mk_pi (fun r J => r = an_scale c a ∧ moR (nw_scale c a) J)) := by
  refine mk_meti (own := "CanonMakerModel") (Ts := wA) hi (Nat.le_refl _) (by decide) rfl (fun w h => List.mem_cons_of_mem _ h) rfl (Nat.le_of_ble_eq_true rfl) [(0, .ref (ad 0)), (1, .int (zi a))] rfl ?_
  intro p_ e_ s_ m_ as_ bl_ me_ co_ Q_ X hret
  obtain ⟨⟨⟨hn, hN⟩, ⟨hlo, hsc, hbt, hru, hrd, hst⟩, ⟨hV, hV0⟩, ⟨hfc, hF⟩⟩, ⟨i12, iN⟩, ⟨⟨i50, i51, i52, i53, i54⟩, i07, i09⟩, iV, ⟨i010, iF⟩⟩ := id h
  refine mk_iloadn (nx := 1) X 1 d_Mo_scale_0 rfl rfl ?_
  refine mk_if_lt (tgt := 11) (nx := 4) X d_Mo_scale_1 (by omega) (by decide) rfl (fun c1 => ?_) (fun c1 => ?_)
  · skip
    refine mk_bipush (nx := 13) X d_Mo_scale_11 (by decide) rfl ?_
    exact hret _ _ _ _ d_Mo_scale_13 (by exact ⟨by rw [an_scale, if_pos (by omega)], by rw [nw_scale, if_pos (by omega)]; exact h⟩)
  · skip
    refine mk_iloadn (nx := 5) X 1 d_Mo_scale_4 rfl rfl ?_
    refine mk_sipush (nx := 8) X d_Mo_scale_5 (by decide) rfl ?_
    refine mk_icmp_le (tgt := 14) (nx := 11) X d_Mo_scale_8 (by omega) (by omega) (by decide) rfl (fun c8 => ?_) (fun c8 => ?_)
    · skip
      refine mk_aloadn (nx := 15) X 0 d_Mo_scale_14 rfl rfl ?_
      refine mk_get (nx := 18) (v := .int (zi (I 0 10))) X 0 (by decide) (mh_Mo cs ad _) rfl in_Mo 10 (by decide) wd_605 rfl rfl d_Mo_scale_15 rfl ?_
      refine mk_istoren (nx := 19) X [(2, .int (zi (I 0 10))), (0, .ref (ad 0)), (1, .int (zi a))] d_Mo_scale_18 (by decide) rfl rfl ?_
      refine mk_aloadn (nx := 20) X 1 d_Mo_scale_19 rfl rfl ?_
      refine mk_iloadn (nx := 21) X 2 d_Mo_scale_20 rfl rfl ?_
      refine mk_putf (nx := 24) (ty := .int) X t_Mo t_Mo_ok n_Mo 0 (by decide) (mh_Mo cs ad _) rfl in_Mo 10 (by decide) wd_605 rfl rfl (by decide +kernel) rfl rfl (Nat.le_of_ble_eq_true rfl) ((mh_Mo cs ad _).trans rfl) d_Mo_scale_21 rfl ?_
      obtain ⟨J1, hJ1⟩ : ∃ z, z = up2 I 0 10 a := ⟨_, rfl⟩
      refine mk_same hJ1.symm ?_
      have hJ1s : J1 0 10 = a := hJ1 ▸ up2_ss I 0 10 a
      have hJ1o : ∀ a b, (a ≠ 0 ∨ b ≠ 10) → J1 a b = I a b := hJ1 ▸ up2_o I 0 10 a
      refine mk_iloadn (nx := 25) X 0 d_Mo_scale_24 rfl rfl ?_
      exact hret _ _ _ _ d_Mo_scale_25 (by exact ⟨by rw [an_scale, if_neg (by omega)]; omega, by rw [nw_scale, if_neg (by omega), hJ1]; exact mo_s_scale h (by omega)⟩)
    · skip
      refine mk_bipush (nx := 13) X d_Mo_scale_11 (by decide) rfl ?_
      exact hret _ _ _ _ d_Mo_scale_13 (by exact ⟨by rw [an_scale, if_pos (by omega)], by rw [nw_scale, if_pos (by omega)]; exact h⟩)

-- CanonMakerModel.beat(I)I
theorem d_Mo_beat_0 : decode prog_9_method_11_code 0 = .ok (.iload_n 1, 1) := by decide +kernel
theorem d_Mo_beat_1 : decode prog_9_method_11_code 1 = .ok (.iconst 1, 1) := by decide +kernel
theorem d_Mo_beat_2 : decode prog_9_method_11_code 2 = .ok (.if_icmp .lt 9, 3) := by decide +kernel
theorem d_Mo_beat_5 : decode prog_9_method_11_code 5 = .ok (.iload_n 1, 1) := by decide +kernel
theorem d_Mo_beat_6 : decode prog_9_method_11_code 6 = .ok (.bipush 64, 2) := by decide +kernel
theorem d_Mo_beat_8 : decode prog_9_method_11_code 8 = .ok (.if_icmp .le 6, 3) := by decide +kernel
theorem d_Mo_beat_11 : decode prog_9_method_11_code 11 = .ok (.bipush (-2), 2) := by decide +kernel
theorem d_Mo_beat_13 : decode prog_9_method_11_code 13 = .ok (.ireturn, 1) := by decide +kernel
theorem d_Mo_beat_14 : decode prog_9_method_11_code 14 = .ok (.aload_n 0, 1) := by decide +kernel
theorem d_Mo_beat_15 : decode prog_9_method_11_code 15 = .ok (.getfield 39, 3) := by decide +kernel
theorem d_Mo_beat_18 : decode prog_9_method_11_code 18 = .ok (.istore_n 2, 1) := by decide +kernel
theorem d_Mo_beat_19 : decode prog_9_method_11_code 19 = .ok (.aload_n 0, 1) := by decide +kernel
theorem d_Mo_beat_20 : decode prog_9_method_11_code 20 = .ok (.iload_n 1, 1) := by decide +kernel
theorem d_Mo_beat_21 : decode prog_9_method_11_code 21 = .ok (.putfield 39, 3) := by decide +kernel
theorem d_Mo_beat_24 : decode prog_9_method_11_code 24 = .ok (.iload_n 2, 1) := by decide +kernel
theorem d_Mo_beat_25 : decode prog_9_method_11_code 25 = .ok (.ireturn, 1) := by decide +kernel
abbrev rm_Mo_beat : Room := { frames := 0, cells := 0, slots := 0, locals := 0 }
set_option maxHeartbeats 4000000 in
set_option maxRecDepth 100000 in
theorem c_Mo_beat (l : Launch) (D : va_G) (cs : Nat → ClassId) (ad : Nat → Nat) (hi : mo_inj ad) (c I : Wo) (h : moR c I) (a : Int) (h_a : -2147483648 ≤ a ∧ a < 2147483648) : mo_C l D cs ad y_Mo_beat ws_Mo_beat rm_Mo_beat [.ref (ad 0), .int (zi a)] I (mk_pi (fun r J => r = an_beat c a ∧ moR (nw_beat c a) J)) := by
  refine mk_meti (own := "CanonMakerModel") (Ts := wA) hi (Nat.le_refl _) (by decide) rfl (fun w h => List.mem_cons_of_mem _ h) rfl (Nat.le_of_ble_eq_true rfl) [(0, .ref (ad 0)), (1, .int (zi a))] rfl ?_
  intro p_ e_ s_ m_ as_ bl_ me_ co_ Q_ X hret
  obtain ⟨⟨⟨hn, hN⟩, ⟨hlo, hsc, hbt, hru, hrd, hst⟩, ⟨hV, hV0⟩, ⟨hfc, hF⟩⟩, ⟨i12, iN⟩, ⟨⟨i50, i51, i52, i53, i54⟩, i07, i09⟩, iV, ⟨i010, iF⟩⟩ := id h
  refine mk_iloadn (nx := 1) X 1 d_Mo_beat_0 rfl rfl ?_
  refine mk_iconst (nx := 2) X d_Mo_beat_1 rfl ?_
  refine mk_icmp_lt (tgt := 11) (nx := 5) X d_Mo_beat_2 (by omega) (by omega) (by decide) rfl (fun c2 => ?_) (fun c2 => ?_)
  · skip
    refine mk_bipush (nx := 13) X d_Mo_beat_11 (by decide) rfl ?_
    exact hret _ _ _ _ d_Mo_beat_13 (by exact ⟨by rw [an_beat, if_pos (by omega)], by rw [nw_beat, if_pos (by omega)]; exact h⟩)
  · skip
    refine mk_iloadn (nx := 6) X 1 d_Mo_beat_5 rfl rfl ?_
    refine mk_bipush (nx := 8) X d_Mo_beat_6 (by decide) rfl ?_
    refine mk_icmp_le (tgt := 14) (nx := 11) X d_Mo_beat_8 (by omega) (by omega) (by decide) rfl (fun c8 => ?_) (fun c8 => ?_)
    · skip
      refine mk_aloadn (nx := 15) X 0 d_Mo_beat_14 rfl rfl ?_
      refine mk_get (nx := 18) (v := .int (zi (I 0 11))) X 0 (by decide) (mh_Mo cs ad _) rfl in_Mo 11 (by decide) wd_606 rfl rfl d_Mo_beat_15 rfl ?_
      refine mk_istoren (nx := 19) X [(2, .int (zi (I 0 11))), (0, .ref (ad 0)), (1, .int (zi a))] d_Mo_beat_18 (by decide) rfl rfl ?_
      refine mk_aloadn (nx := 20) X 1 d_Mo_beat_19 rfl rfl ?_
      refine mk_iloadn (nx := 21) X 2 d_Mo_beat_20 rfl rfl ?_
      refine mk_putf (nx := 24) (ty := .int) X t_Mo t_Mo_ok n_Mo 0 (by decide) (mh_Mo cs ad _) rfl in_Mo 11 (by decide) wd_606 rfl rfl (by decide +kernel) rfl rfl (Nat.le_of_ble_eq_true rfl) ((mh_Mo cs ad _).trans rfl) d_Mo_beat_21 rfl ?_
      obtain ⟨J1, hJ1⟩ : ∃ z, z = up2 I 0 11 a := ⟨_, rfl⟩
      refine mk_same hJ1.symm ?_
      have hJ1s : J1 0 11 = a := hJ1 ▸ up2_ss I 0 11 a
      have hJ1o : ∀ a b, (a ≠ 0 ∨ b ≠ 11) → J1 a b = I a b := hJ1 ▸ up2_o I 0 11 a
      refine mk_iloadn (nx := 25) X 0 d_Mo_beat_24 rfl rfl ?_
      exact hret _ _ _ _ d_Mo_beat_25 (by exact ⟨by rw [an_beat, if_neg (by omega)]; omega, by rw [nw_beat, if_neg (by omega), hJ1]; exact mo_s_beat h (by omega)⟩)
    · skip
      refine mk_bipush (nx := 13) X d_Mo_beat_11 (by decide) rfl ?_
      exact hret _ _ _ _ d_Mo_beat_13 (by exact ⟨by rw [an_beat, if_pos (by omega)], by rw [nw_beat, if_pos (by omega)]; exact h⟩)

-- CanonMakerModel.rules(I)I
theorem d_Mo_rules_0 : decode prog_9_method_13_code 0 = .ok (.iload_n 1, 1) := by decide +kernel
theorem d_Mo_rules_1 : decode prog_9_method_13_code 1 = .ok (.ifCond .lt 10, 3) := by decide +kernel
theorem d_Mo_rules_4 : decode prog_9_method_13_code 4 = .ok (.iload_n 1, 1) := by decide +kernel
theorem d_Mo_rules_5 : decode prog_9_method_13_code 5 = .ok (.sipush 255, 3) := by decide +kernel
theorem d_Mo_rules_8 : decode prog_9_method_13_code 8 = .ok (.if_icmp .le 6, 3) := by decide +kernel
theorem d_Mo_rules_11 : decode prog_9_method_13_code 11 = .ok (.bipush (-2), 2) := by decide +kernel
theorem d_Mo_rules_13 : decode prog_9_method_13_code 13 = .ok (.ireturn, 1) := by decide +kernel
theorem d_Mo_rules_14 : decode prog_9_method_13_code 14 = .ok (.aload_n 0, 1) := by decide +kernel
theorem d_Mo_rules_15 : decode prog_9_method_13_code 15 = .ok (.getfield 75, 3) := by decide +kernel
theorem d_Mo_rules_18 : decode prog_9_method_13_code 18 = .ok (.istore_n 2, 1) := by decide +kernel
theorem d_Mo_rules_19 : decode prog_9_method_13_code 19 = .ok (.aload_n 0, 1) := by decide +kernel
theorem d_Mo_rules_20 : decode prog_9_method_13_code 20 = .ok (.iload_n 1, 1) := by decide +kernel
theorem d_Mo_rules_21 : decode prog_9_method_13_code 21 = .ok (.putfield 75, 3) := by decide +kernel
theorem d_Mo_rules_24 : decode prog_9_method_13_code 24 = .ok (.iload_n 2, 1) := by decide +kernel
theorem d_Mo_rules_25 : decode prog_9_method_13_code 25 = .ok (.ireturn, 1) := by decide +kernel
abbrev rm_Mo_rules : Room := { frames := 0, cells := 0, slots := 0, locals := 0 }
set_option maxHeartbeats 4000000 in
set_option maxRecDepth 100000 in
theorem c_Mo_rules (l : Launch) (D : va_G) (cs : Nat → ClassId) (ad : Nat → Nat) (hi : mo_inj ad) (c I : Wo) (h : moR c I) (a : Int) (h_a : -2147483648 ≤ a ∧ a < 2147483648) : mo_C l D cs ad y_Mo_rules ws_Mo_rules rm_Mo_rules [.ref (ad 0), .int (zi a)] I (mk_pi (fun r J => r = an_rules c a ∧ moR (nw_rules c a) J)) := by
  refine mk_meti (own := "CanonMakerModel") (Ts := wA) hi (Nat.le_refl _) (by decide) rfl (fun w h => List.mem_cons_of_mem _ h) rfl (Nat.le_of_ble_eq_true rfl) [(0, .ref (ad 0)), (1, .int (zi a))] rfl ?_
  intro p_ e_ s_ m_ as_ bl_ me_ co_ Q_ X hret
  obtain ⟨⟨⟨hn, hN⟩, ⟨hlo, hsc, hbt, hru, hrd, hst⟩, ⟨hV, hV0⟩, ⟨hfc, hF⟩⟩, ⟨i12, iN⟩, ⟨⟨i50, i51, i52, i53, i54⟩, i07, i09⟩, iV, ⟨i010, iF⟩⟩ := id h
  refine mk_iloadn (nx := 1) X 1 d_Mo_rules_0 rfl rfl ?_
  refine mk_if_lt (tgt := 11) (nx := 4) X d_Mo_rules_1 (by omega) (by decide) rfl (fun c1 => ?_) (fun c1 => ?_)
  · skip
    refine mk_bipush (nx := 13) X d_Mo_rules_11 (by decide) rfl ?_
    exact hret _ _ _ _ d_Mo_rules_13 (by exact ⟨by rw [an_rules, if_pos (by omega)], by rw [nw_rules, if_pos (by omega)]; exact h⟩)
  · skip
    refine mk_iloadn (nx := 5) X 1 d_Mo_rules_4 rfl rfl ?_
    refine mk_sipush (nx := 8) X d_Mo_rules_5 (by decide) rfl ?_
    refine mk_icmp_le (tgt := 14) (nx := 11) X d_Mo_rules_8 (by omega) (by omega) (by decide) rfl (fun c8 => ?_) (fun c8 => ?_)
    · skip
      refine mk_aloadn (nx := 15) X 0 d_Mo_rules_14 rfl rfl ?_
      refine mk_get (nx := 18) (v := .int (zi (I 0 13))) X 0 (by decide) (mh_Mo cs ad _) rfl in_Mo 13 (by decide) wd_608 rfl rfl d_Mo_rules_15 rfl ?_
      refine mk_istoren (nx := 19) X [(2, .int (zi (I 0 13))), (0, .ref (ad 0)), (1, .int (zi a))] d_Mo_rules_18 (by decide) rfl rfl ?_
      refine mk_aloadn (nx := 20) X 1 d_Mo_rules_19 rfl rfl ?_
      refine mk_iloadn (nx := 21) X 2 d_Mo_rules_20 rfl rfl ?_
      refine mk_putf (nx := 24) (ty := .int) X t_Mo t_Mo_ok n_Mo 0 (by decide) (mh_Mo cs ad _) rfl in_Mo 13 (by decide) wd_608 rfl rfl (by decide +kernel) rfl rfl (Nat.le_of_ble_eq_true rfl) ((mh_Mo cs ad _).trans rfl) d_Mo_rules_21 rfl ?_
      obtain ⟨J1, hJ1⟩ : ∃ z, z = up2 I 0 13 a := ⟨_, rfl⟩
      refine mk_same hJ1.symm ?_
      have hJ1s : J1 0 13 = a := hJ1 ▸ up2_ss I 0 13 a
      have hJ1o : ∀ a b, (a ≠ 0 ∨ b ≠ 13) → J1 a b = I a b := hJ1 ▸ up2_o I 0 13 a
      refine mk_iloadn (nx := 25) X 0 d_Mo_rules_24 rfl rfl ?_
      exact hret _ _ _ _ d_Mo_rules_25 (by exact ⟨by rw [an_rules, if_neg (by omega)]; omega, by rw [nw_rules, if_neg (by omega), hJ1]; exact mo_s_rules h (by omega)⟩)
    · skip
      refine mk_bipush (nx := 13) X d_Mo_rules_11 (by decide) rfl ?_
      exact hret _ _ _ _ d_Mo_rules_13 (by exact ⟨by rw [an_rules, if_pos (by omega)], by rw [nw_rules, if_pos (by omega)]; exact h⟩)

-- CanonMakerModel.round(I)I
theorem d_Mo_round_0 : decode prog_9_method_12_code 0 = .ok (.iload_n 1, 1) := by decide +kernel
theorem d_Mo_round_1 : decode prog_9_method_12_code 1 = .ok (.ifCond .lt 10, 3) := by decide +kernel
theorem d_Mo_round_4 : decode prog_9_method_12_code 4 = .ok (.iload_n 1, 1) := by decide +kernel
theorem d_Mo_round_5 : decode prog_9_method_12_code 5 = .ok (.sipush 400, 3) := by decide +kernel
theorem d_Mo_round_8 : decode prog_9_method_12_code 8 = .ok (.if_icmp .le 6, 3) := by decide +kernel
theorem d_Mo_round_11 : decode prog_9_method_12_code 11 = .ok (.bipush (-2), 2) := by decide +kernel
theorem d_Mo_round_13 : decode prog_9_method_12_code 13 = .ok (.ireturn, 1) := by decide +kernel
theorem d_Mo_round_14 : decode prog_9_method_12_code 14 = .ok (.aload_n 0, 1) := by decide +kernel
theorem d_Mo_round_15 : decode prog_9_method_12_code 15 = .ok (.getfield 72, 3) := by decide +kernel
theorem d_Mo_round_18 : decode prog_9_method_12_code 18 = .ok (.istore_n 2, 1) := by decide +kernel
theorem d_Mo_round_19 : decode prog_9_method_12_code 19 = .ok (.aload_n 0, 1) := by decide +kernel
theorem d_Mo_round_20 : decode prog_9_method_12_code 20 = .ok (.iload_n 1, 1) := by decide +kernel
theorem d_Mo_round_21 : decode prog_9_method_12_code 21 = .ok (.putfield 72, 3) := by decide +kernel
theorem d_Mo_round_24 : decode prog_9_method_12_code 24 = .ok (.iload_n 2, 1) := by decide +kernel
theorem d_Mo_round_25 : decode prog_9_method_12_code 25 = .ok (.ireturn, 1) := by decide +kernel
abbrev rm_Mo_round : Room := { frames := 0, cells := 0, slots := 0, locals := 0 }
set_option maxHeartbeats 4000000 in
set_option maxRecDepth 100000 in
theorem c_Mo_round (l : Launch) (D : va_G) (cs : Nat → ClassId) (ad : Nat → Nat) (hi : mo_inj ad) (c I : Wo) (h : moR c I) (a : Int) (h_a : -2147483648 ≤ a ∧ a < 2147483648) : mo_C l D cs ad y_Mo_round ws_Mo_round rm_Mo_round [.ref (ad 0), .int (zi a)] I (mk_pi (fun r J => r = an_round c a ∧ moR (nw_round c a) J)) := by
  refine mk_meti (own := "CanonMakerModel") (Ts := wA) hi (Nat.le_refl _) (by decide) rfl (fun w h => List.mem_cons_of_mem _ h) rfl (Nat.le_of_ble_eq_true rfl) [(0, .ref (ad 0)), (1, .int (zi a))] rfl ?_
  intro p_ e_ s_ m_ as_ bl_ me_ co_ Q_ X hret
  obtain ⟨⟨⟨hn, hN⟩, ⟨hlo, hsc, hbt, hru, hrd, hst⟩, ⟨hV, hV0⟩, ⟨hfc, hF⟩⟩, ⟨i12, iN⟩, ⟨⟨i50, i51, i52, i53, i54⟩, i07, i09⟩, iV, ⟨i010, iF⟩⟩ := id h
  refine mk_iloadn (nx := 1) X 1 d_Mo_round_0 rfl rfl ?_
  refine mk_if_lt (tgt := 11) (nx := 4) X d_Mo_round_1 (by omega) (by decide) rfl (fun c1 => ?_) (fun c1 => ?_)
  · skip
    refine mk_bipush (nx := 13) X d_Mo_round_11 (by decide) rfl ?_
    exact hret _ _ _ _ d_Mo_round_13 (by exact ⟨by rw [an_round, if_pos (by omega)], by rw [nw_round, if_pos (by omega)]; exact h⟩)
  · skip
    refine mk_iloadn (nx := 5) X 1 d_Mo_round_4 rfl rfl ?_
    refine mk_sipush (nx := 8) X d_Mo_round_5 (by decide) rfl ?_
    refine mk_icmp_le (tgt := 14) (nx := 11) X d_Mo_round_8 (by omega) (by omega) (by decide) rfl (fun c8 => ?_) (fun c8 => ?_)
    · skip
      refine mk_aloadn (nx := 15) X 0 d_Mo_round_14 rfl rfl ?_
      refine mk_get (nx := 18) (v := .int (zi (I 0 12))) X 0 (by decide) (mh_Mo cs ad _) rfl in_Mo 12 (by decide) wd_607 rfl rfl d_Mo_round_15 rfl ?_
      refine mk_istoren (nx := 19) X [(2, .int (zi (I 0 12))), (0, .ref (ad 0)), (1, .int (zi a))] d_Mo_round_18 (by decide) rfl rfl ?_
      refine mk_aloadn (nx := 20) X 1 d_Mo_round_19 rfl rfl ?_
      refine mk_iloadn (nx := 21) X 2 d_Mo_round_20 rfl rfl ?_
      refine mk_putf (nx := 24) (ty := .int) X t_Mo t_Mo_ok n_Mo 0 (by decide) (mh_Mo cs ad _) rfl in_Mo 12 (by decide) wd_607 rfl rfl (by decide +kernel) rfl rfl (Nat.le_of_ble_eq_true rfl) ((mh_Mo cs ad _).trans rfl) d_Mo_round_21 rfl ?_
      obtain ⟨J1, hJ1⟩ : ∃ z, z = up2 I 0 12 a := ⟨_, rfl⟩
      refine mk_same hJ1.symm ?_
      have hJ1s : J1 0 12 = a := hJ1 ▸ up2_ss I 0 12 a
      have hJ1o : ∀ a b, (a ≠ 0 ∨ b ≠ 12) → J1 a b = I a b := hJ1 ▸ up2_o I 0 12 a
      refine mk_iloadn (nx := 25) X 0 d_Mo_round_24 rfl rfl ?_
      exact hret _ _ _ _ d_Mo_round_25 (by exact ⟨by rw [an_round, if_neg (by omega)]; omega, by rw [nw_round, if_neg (by omega), hJ1]; exact mo_s_round h (by omega)⟩)
    · skip
      refine mk_bipush (nx := 13) X d_Mo_round_11 (by decide) rfl ?_
      exact hret _ _ _ _ d_Mo_round_13 (by exact ⟨by rw [an_round, if_pos (by omega)], by rw [nw_round, if_pos (by omega)]; exact h⟩)

-- CanonMakerModel.steps()I
theorem d_Mo_steps_0 : decode prog_9_method_35_code 0 = .ok (.aload_n 0, 1) := by decide +kernel
theorem d_Mo_steps_1 : decode prog_9_method_35_code 1 = .ok (.getfield 150, 3) := by decide +kernel
theorem d_Mo_steps_4 : decode prog_9_method_35_code 4 = .ok (.ireturn, 1) := by decide +kernel
abbrev rm_Mo_steps : Room := { frames := 0, cells := 0, slots := 0, locals := 0 }
set_option maxHeartbeats 4000000 in
set_option maxRecDepth 100000 in
theorem c_Mo_steps (l : Launch) (D : va_G) (cs : Nat → ClassId) (ad : Nat → Nat) (hi : mo_inj ad) (c I : Wo) (h : moR c I)  : mo_C l D cs ad y_Mo_steps ws_Mo_steps rm_Mo_steps [.ref (ad 0)] I (mk_pi (fun r J => r = c 0 7 ∧ moR c J)) := by
  refine mk_meti (own := "CanonMakerModel") (Ts := wA) hi (Nat.le_refl _) (by decide) rfl (fun w h => List.mem_cons_of_mem _ h) rfl (Nat.le_of_ble_eq_true rfl) [(0, .ref (ad 0))] rfl ?_
  intro p_ e_ s_ m_ as_ bl_ me_ co_ Q_ X hret
  obtain ⟨⟨⟨hn, hN⟩, ⟨hlo, hsc, hbt, hru, hrd, hst⟩, ⟨hV, hV0⟩, ⟨hfc, hF⟩⟩, ⟨i12, iN⟩, ⟨⟨i50, i51, i52, i53, i54⟩, i07, i09⟩, iV, ⟨i010, iF⟩⟩ := id h
  refine mk_aloadn (nx := 1) X 0 d_Mo_steps_0 rfl rfl ?_
  refine mk_get (nx := 4) (v := .int (zi (I 0 14))) X 0 (by decide) (mh_Mo cs ad _) rfl in_Mo 14 (by decide) wd_609 rfl rfl d_Mo_steps_1 rfl ?_
  exact hret _ _ _ _ d_Mo_steps_4 (by exact ⟨by omega, h⟩)

-- CanonMakerModel.shift(II)I
theorem d_Mo_shift_0 : decode prog_9_method_37_code 0 = .ok (.iload_n 1, 1) := by decide +kernel
theorem d_Mo_shift_1 : decode prog_9_method_37_code 1 = .ok (.ifCond .lt 11, 3) := by decide +kernel
theorem d_Mo_shift_4 : decode prog_9_method_37_code 4 = .ok (.iload_n 1, 1) := by decide +kernel
theorem d_Mo_shift_5 : decode prog_9_method_37_code 5 = .ok (.aload_n 0, 1) := by decide +kernel
theorem d_Mo_shift_6 : decode prog_9_method_37_code 6 = .ok (.getfield 156, 3) := by decide +kernel
theorem d_Mo_shift_9 : decode prog_9_method_37_code 9 = .ok (.if_icmp .lt 7, 3) := by decide +kernel
theorem d_Mo_shift_12 : decode prog_9_method_37_code 12 = .ok (.iconst (-1), 1) := by decide +kernel
theorem d_Mo_shift_13 : decode prog_9_method_37_code 13 = .ok (.goto 32, 3) := by decide +kernel
theorem d_Mo_shift_16 : decode prog_9_method_37_code 16 = .ok (.iload_n 2, 1) := by decide +kernel
theorem d_Mo_shift_17 : decode prog_9_method_37_code 17 = .ok (.ifCond .ne 12, 3) := by decide +kernel
theorem d_Mo_shift_20 : decode prog_9_method_37_code 20 = .ok (.aload_n 0, 1) := by decide +kernel
theorem d_Mo_shift_21 : decode prog_9_method_37_code 21 = .ok (.getfield 57, 3) := by decide +kernel
theorem d_Mo_shift_24 : decode prog_9_method_37_code 24 = .ok (.iload_n 1, 1) := by decide +kernel
theorem d_Mo_shift_25 : decode prog_9_method_37_code 25 = .ok (.iaload, 1) := by decide +kernel
theorem d_Mo_shift_26 : decode prog_9_method_37_code 26 = .ok (.goto 19, 3) := by decide +kernel
theorem d_Mo_shift_29 : decode prog_9_method_37_code 29 = .ok (.iload_n 2, 1) := by decide +kernel
theorem d_Mo_shift_30 : decode prog_9_method_37_code 30 = .ok (.iconst 1, 1) := by decide +kernel
theorem d_Mo_shift_31 : decode prog_9_method_37_code 31 = .ok (.if_icmp .ne 12, 3) := by decide +kernel
theorem d_Mo_shift_34 : decode prog_9_method_37_code 34 = .ok (.aload_n 0, 1) := by decide +kernel
theorem d_Mo_shift_35 : decode prog_9_method_37_code 35 = .ok (.getfield 60, 3) := by decide +kernel
theorem d_Mo_shift_38 : decode prog_9_method_37_code 38 = .ok (.iload_n 1, 1) := by decide +kernel
theorem d_Mo_shift_39 : decode prog_9_method_37_code 39 = .ok (.iaload, 1) := by decide +kernel
theorem d_Mo_shift_40 : decode prog_9_method_37_code 40 = .ok (.goto 5, 3) := by decide +kernel
theorem d_Mo_shift_43 : decode prog_9_method_37_code 43 = .ok (.bipush (-2), 2) := by decide +kernel
theorem d_Mo_shift_45 : decode prog_9_method_37_code 45 = .ok (.ireturn, 1) := by decide +kernel
abbrev rm_Mo_shift : Room := { frames := 0, cells := 0, slots := 0, locals := 0 }
set_option maxHeartbeats 4000000 in
set_option maxRecDepth 100000 in
theorem c_Mo_shift (l : Launch) (D : va_G) (cs : Nat → ClassId) (ad : Nat → Nat) (hi : mo_inj ad) (c I : Wo) (h : moR c I) (k : Int) (h_k : -2147483648 ≤ k ∧ k < 2147483648) (w : Int) (h_w : -2147483648 ≤ w ∧ w < 2147483648) : mo_C l D cs ad y_Mo_shift ws_Mo_shift rm_Mo_shift [.ref (ad 0), .int (zi k), .int (zi w)] I (mk_pi (fun r J => r = an_shift c k w ∧ moR c J)) := by
  refine mk_meti (own := "CanonMakerModel") (Ts := wA) hi (Nat.le_refl _) (by decide) rfl (fun w h => List.mem_cons_of_mem _ h) rfl (Nat.le_of_ble_eq_true rfl) [(0, .ref (ad 0)), (1, .int (zi k)), (2, .int (zi w))] rfl ?_
  intro p_ e_ s_ m_ as_ bl_ me_ co_ Q_ X hret
  obtain ⟨⟨⟨hn, hN⟩, ⟨hlo, hsc, hbt, hru, hrd, hst⟩, ⟨hV, hV0⟩, ⟨hfc, hF⟩⟩, ⟨i12, iN⟩, ⟨⟨i50, i51, i52, i53, i54⟩, i07, i09⟩, iV, ⟨i010, iF⟩⟩ := id h
  refine mk_iloadn (nx := 1) X 1 d_Mo_shift_0 rfl rfl ?_
  refine mk_if_lt (tgt := 12) (nx := 4) X d_Mo_shift_1 (by omega) (by decide) rfl (fun c1 => ?_) (fun c1 => ?_)
  · skip
    refine mk_iconst (nx := 13) X d_Mo_shift_12 rfl ?_
    refine mk_goto (tgt := 45) X d_Mo_shift_13 (by decide) ?_
    exact hret _ _ _ _ d_Mo_shift_45 (by first | exact ⟨by rw [an_shift, if_pos (by omega)], h⟩ | exact ⟨by rw [an_shift, if_neg (by omega), if_pos (by omega)]; exact (iF k.toNat (by omega)).1, h⟩ | exact ⟨by rw [an_shift, if_neg (by omega), if_neg (by omega), if_pos (by omega)]; exact (iF k.toNat (by omega)).2, h⟩ | exact ⟨by rw [an_shift, if_neg (by omega), if_neg (by omega), if_neg (by omega)], h⟩)
  · skip
    refine mk_iloadn (nx := 5) X 1 d_Mo_shift_4 rfl rfl ?_
    refine mk_aloadn (nx := 6) X 0 d_Mo_shift_5 rfl rfl ?_
    refine mk_get (nx := 9) (v := .int (zi (I 0 27))) X 0 (by decide) (mh_Mo cs ad _) rfl in_Mo 27 (by decide) wd_622 rfl rfl d_Mo_shift_6 rfl ?_
    refine mk_icmp_lt (tgt := 16) (nx := 12) X d_Mo_shift_9 (by omega) (by omega) (by decide) rfl (fun c9 => ?_) (fun c9 => ?_)
    · skip
      refine mk_iloadn (nx := 17) X 2 d_Mo_shift_16 rfl rfl ?_
      refine mk_if_ne (tgt := 29) (nx := 20) X d_Mo_shift_17 (by omega) (by decide) rfl (fun c17 => ?_) (fun c17 => ?_)
      · skip
        refine mk_iloadn (nx := 30) X 2 d_Mo_shift_29 rfl rfl ?_
        refine mk_iconst (nx := 31) X d_Mo_shift_30 rfl ?_
        refine mk_icmp_ne (tgt := 43) (nx := 34) X d_Mo_shift_31 (by omega) (by omega) (by decide) rfl (fun c31 => ?_) (fun c31 => ?_)
        · skip
          refine mk_bipush (nx := 45) X d_Mo_shift_43 (by decide) rfl ?_
          exact hret _ _ _ _ d_Mo_shift_45 (by first | exact ⟨by rw [an_shift, if_pos (by omega)], h⟩ | exact ⟨by rw [an_shift, if_neg (by omega), if_pos (by omega)]; exact (iF k.toNat (by omega)).1, h⟩ | exact ⟨by rw [an_shift, if_neg (by omega), if_neg (by omega), if_pos (by omega)]; exact (iF k.toNat (by omega)).2, h⟩ | exact ⟨by rw [an_shift, if_neg (by omega), if_neg (by omega), if_neg (by omega)], h⟩)
        · skip
          refine mk_aloadn (nx := 35) X 0 d_Mo_shift_34 rfl rfl ?_
          refine mk_get (nx := 38) (v := .ref (ad 14)) X 0 (by decide) (mh_Mo cs ad _) rfl in_Mo 26 (by decide) wd_621 rfl rfl d_Mo_shift_35 rfl ?_
          refine mk_iloadn (nx := 39) X 1 d_Mo_shift_38 rfl rfl ?_
          refine mk_iald (nx := 40) (j := k.toNat) X 14 0 (by decide) (mh_shiftIntervals cs ad _) rfl (by omega) (by omega) (by decide) rfl d_Mo_shift_39 rfl ?_
          refine mk_goto (tgt := 45) X d_Mo_shift_40 (by decide) ?_
          exact hret _ _ _ _ d_Mo_shift_45 (by first | exact ⟨by rw [an_shift, if_pos (by omega)], h⟩ | exact ⟨by rw [an_shift, if_neg (by omega), if_pos (by omega)]; exact (iF k.toNat (by omega)).1, h⟩ | exact ⟨by rw [an_shift, if_neg (by omega), if_neg (by omega), if_pos (by omega)]; exact (iF k.toNat (by omega)).2, h⟩ | exact ⟨by rw [an_shift, if_neg (by omega), if_neg (by omega), if_neg (by omega)], h⟩)
      · skip
        refine mk_aloadn (nx := 21) X 0 d_Mo_shift_20 rfl rfl ?_
        refine mk_get (nx := 24) (v := .ref (ad 13)) X 0 (by decide) (mh_Mo cs ad _) rfl in_Mo 25 (by decide) wd_620 rfl rfl d_Mo_shift_21 rfl ?_
        refine mk_iloadn (nx := 25) X 1 d_Mo_shift_24 rfl rfl ?_
        refine mk_iald (nx := 26) (j := k.toNat) X 13 0 (by decide) (mh_shiftDelays cs ad _) rfl (by omega) (by omega) (by decide) rfl d_Mo_shift_25 rfl ?_
        refine mk_goto (tgt := 45) X d_Mo_shift_26 (by decide) ?_
        exact hret _ _ _ _ d_Mo_shift_45 (by first | exact ⟨by rw [an_shift, if_pos (by omega)], h⟩ | exact ⟨by rw [an_shift, if_neg (by omega), if_pos (by omega)]; exact (iF k.toNat (by omega)).1, h⟩ | exact ⟨by rw [an_shift, if_neg (by omega), if_neg (by omega), if_pos (by omega)]; exact (iF k.toNat (by omega)).2, h⟩ | exact ⟨by rw [an_shift, if_neg (by omega), if_neg (by omega), if_neg (by omega)], h⟩)
    · skip
      refine mk_iconst (nx := 13) X d_Mo_shift_12 rfl ?_
      refine mk_goto (tgt := 45) X d_Mo_shift_13 (by decide) ?_
      exact hret _ _ _ _ d_Mo_shift_45 (by first | exact ⟨by rw [an_shift, if_pos (by omega)], h⟩ | exact ⟨by rw [an_shift, if_neg (by omega), if_pos (by omega)]; exact (iF k.toNat (by omega)).1, h⟩ | exact ⟨by rw [an_shift, if_neg (by omega), if_neg (by omega), if_pos (by omega)]; exact (iF k.toNat (by omega)).2, h⟩ | exact ⟨by rw [an_shift, if_neg (by omega), if_neg (by omega), if_neg (by omega)], h⟩)

-- CanonMakerModel.lineSize(I)I
theorem d_Mo_lineSize_0 : decode prog_9_method_14_code 0 = .ok (.aload_n 0, 1) := by decide +kernel
theorem d_Mo_lineSize_1 : decode prog_9_method_14_code 1 = .ok (.invokevirtual 78, 3) := by decide +kernel
theorem d_Mo_lineSize_4 : decode prog_9_method_14_code 4 = .ok (.aload_n 0, 1) := by decide +kernel
theorem d_Mo_lineSize_5 : decode prog_9_method_14_code 5 = .ok (.getfield 29, 3) := by decide +kernel
theorem d_Mo_lineSize_8 : decode prog_9_method_14_code 8 = .ok (.iload_n 1, 1) := by decide +kernel
theorem d_Mo_lineSize_9 : decode prog_9_method_14_code 9 = .ok (.iaload, 1) := by decide +kernel
theorem d_Mo_lineSize_10 : decode prog_9_method_14_code 10 = .ok (.imul, 1) := by decide +kernel
theorem d_Mo_lineSize_11 : decode prog_9_method_14_code 11 = .ok (.ireturn, 1) := by decide +kernel
abbrev rm_Mo_lineSize : Room := { frames := 1, cells := 0, slots := 0, locals := 22 }
set_option maxHeartbeats 4000000 in
set_option maxRecDepth 100000 in
theorem c_Mo_lineSize (l : Launch) (D : va_G) (cs : Nat → ClassId) (ad : Nat → Nat) (hi : mo_inj ad) (c I : Wo) (h : moR c I) (v : Nat) (hv : v < 4) : mo_C l D cs ad y_Mo_lineSize ws_Mo_lineSize rm_Mo_lineSize [.ref (ad 0), .int (zi (v : Int))] I (mk_pi (fun r J => I = J ∧ r = an_size c * c (3 + v) 4)) := by
  refine mk_meti (own := "CanonMakerModel") (Ts := wA) hi (Nat.le_refl _) (by decide) rfl (fun w h => List.mem_cons_of_mem _ h) rfl (Nat.le_of_ble_eq_true rfl) [(0, .ref (ad 0)), (1, .int (zi (v : Int)))] rfl ?_
  intro p_ e_ s_ m_ as_ bl_ me_ co_ Q_ X hret
  obtain ⟨⟨⟨hn, hN⟩, ⟨hlo, hsc, hbt, hru, hrd, hst⟩, ⟨hV, hV0⟩, ⟨hfc, hF⟩⟩, ⟨i12, iN⟩, ⟨⟨i50, i51, i52, i53, i54⟩, i07, i09⟩, iV, ⟨i010, iF⟩⟩ := id h
  have hv4 := iV v hv
  refine mk_aloadn (nx := 1) X 0 d_Mo_lineSize_0 rfl rfl ?_
  refine mk_callVi (nx := 4) (n := 0) (As := []) (rest := []) X 0 (by decide) (mh_Mo cs ad _) rfl (c_Mo_size l D cs ad hi c I h) (g_Mo_size wd_743) rfl ⟨rfl, rfl⟩ (by decide +kernel) ⟨by decide, by decide⟩ rfl (Nat.le_of_ble_eq_true rfl) rfl d_Mo_lineSize_1 rfl ?_
  intro r1 J1 hJ1
  obtain ⟨rfl, rfl⟩ := hJ1
  refine mk_aloadn (nx := 5) X 0 d_Mo_lineSize_4 rfl rfl ?_
  refine mk_get (nx := 8) (v := .ref (ad 7)) X 0 (by decide) (mh_Mo cs ad _) rfl in_Mo 7 (by decide) wd_602 rfl rfl d_Mo_lineSize_5 rfl ?_
  refine mk_iloadn (nx := 9) X 1 d_Mo_lineSize_8 rfl rfl ?_
  refine mk_iald (nx := 10) (j := v) X 7 0 (by decide) (mh_factors cs ad _) rfl (by omega) (by omega) (by decide) rfl d_Mo_lineSize_9 rfl ?_
  refine mk_imul (nx := 11) X d_Mo_lineSize_10 rfl ?_
  exact hret _ _ _ _ d_Mo_lineSize_11 (by exact ⟨rfl, by rw [hv4.2.2.2.2]⟩)

-- CanonMakerModel.endOf()I
theorem d_Mo_endOf_0 : decode prog_9_method_17_code 0 = .ok (.iconst 0, 1) := by decide +kernel
theorem d_Mo_endOf_1 : decode prog_9_method_17_code 1 = .ok (.istore_n 1, 1) := by decide +kernel
theorem d_Mo_endOf_2 : decode prog_9_method_17_code 2 = .ok (.iconst 0, 1) := by decide +kernel
theorem d_Mo_endOf_3 : decode prog_9_method_17_code 3 = .ok (.istore_n 2, 1) := by decide +kernel
theorem d_Mo_endOf_4 : decode prog_9_method_17_code 4 = .ok (.iload_n 2, 1) := by decide +kernel
theorem d_Mo_endOf_5 : decode prog_9_method_17_code 5 = .ok (.iconst 4, 1) := by decide +kernel
theorem d_Mo_endOf_6 : decode prog_9_method_17_code 6 = .ok (.if_icmp .ge 42, 3) := by decide +kernel
theorem d_Mo_endOf_9 : decode prog_9_method_17_code 9 = .ok (.aload_n 0, 1) := by decide +kernel
theorem d_Mo_endOf_10 : decode prog_9_method_17_code 10 = .ok (.getfield 20, 3) := by decide +kernel
theorem d_Mo_endOf_13 : decode prog_9_method_17_code 13 = .ok (.iload_n 2, 1) := by decide +kernel
theorem d_Mo_endOf_14 : decode prog_9_method_17_code 14 = .ok (.iaload, 1) := by decide +kernel
theorem d_Mo_endOf_15 : decode prog_9_method_17_code 15 = .ok (.aload_n 0, 1) := by decide +kernel
theorem d_Mo_endOf_16 : decode prog_9_method_17_code 16 = .ok (.iload_n 2, 1) := by decide +kernel
theorem d_Mo_endOf_17 : decode prog_9_method_17_code 17 = .ok (.invokevirtual 89, 3) := by decide +kernel
theorem d_Mo_endOf_20 : decode prog_9_method_17_code 20 = .ok (.iadd, 1) := by decide +kernel
theorem d_Mo_endOf_21 : decode prog_9_method_17_code 21 = .ok (.istore_n 3, 1) := by decide +kernel
theorem d_Mo_endOf_22 : decode prog_9_method_17_code 22 = .ok (.aload_n 0, 1) := by decide +kernel
theorem d_Mo_endOf_23 : decode prog_9_method_17_code 23 = .ok (.getfield 16, 3) := by decide +kernel
theorem d_Mo_endOf_26 : decode prog_9_method_17_code 26 = .ok (.iload_n 2, 1) := by decide +kernel
theorem d_Mo_endOf_27 : decode prog_9_method_17_code 27 = .ok (.baload, 1) := by decide +kernel
theorem d_Mo_endOf_28 : decode prog_9_method_17_code 28 = .ok (.ifCond .eq 12, 3) := by decide +kernel
theorem d_Mo_endOf_31 : decode prog_9_method_17_code 31 = .ok (.iload_n 3, 1) := by decide +kernel
theorem d_Mo_endOf_32 : decode prog_9_method_17_code 32 = .ok (.iload_n 1, 1) := by decide +kernel
theorem d_Mo_endOf_33 : decode prog_9_method_17_code 33 = .ok (.if_icmp .le 7, 3) := by decide +kernel
theorem d_Mo_endOf_36 : decode prog_9_method_17_code 36 = .ok (.iload_n 3, 1) := by decide +kernel
theorem d_Mo_endOf_37 : decode prog_9_method_17_code 37 = .ok (.goto 4, 3) := by decide +kernel
theorem d_Mo_endOf_40 : decode prog_9_method_17_code 40 = .ok (.iload_n 1, 1) := by decide +kernel
theorem d_Mo_endOf_41 : decode prog_9_method_17_code 41 = .ok (.istore_n 1, 1) := by decide +kernel
theorem d_Mo_endOf_42 : decode prog_9_method_17_code 42 = .ok (.iinc 2 1, 3) := by decide +kernel
theorem d_Mo_endOf_45 : decode prog_9_method_17_code 45 = .ok (.goto (-41), 3) := by decide +kernel
theorem d_Mo_endOf_48 : decode prog_9_method_17_code 48 = .ok (.aload_n 0, 1) := by decide +kernel
theorem d_Mo_endOf_49 : decode prog_9_method_17_code 49 = .ok (.getfield 72, 3) := by decide +kernel
theorem d_Mo_endOf_52 : decode prog_9_method_17_code 52 = .ok (.ifCond .le 10, 3) := by decide +kernel
theorem d_Mo_endOf_55 : decode prog_9_method_17_code 55 = .ok (.aload_n 0, 1) := by decide +kernel
theorem d_Mo_endOf_56 : decode prog_9_method_17_code 56 = .ok (.getfield 72, 3) := by decide +kernel
theorem d_Mo_endOf_59 : decode prog_9_method_17_code 59 = .ok (.goto 4, 3) := by decide +kernel
theorem d_Mo_endOf_62 : decode prog_9_method_17_code 62 = .ok (.iload_n 1, 1) := by decide +kernel
theorem d_Mo_endOf_63 : decode prog_9_method_17_code 63 = .ok (.ireturn, 1) := by decide +kernel
abbrev rm_Mo_endOf : Room := { frames := 2, cells := 0, slots := 0, locals := 43 }
set_option maxHeartbeats 4000000 in
set_option maxRecDepth 100000 in
theorem c_Mo_endOf (l : Launch) (D : va_G) (cs : Nat → ClassId) (ad : Nat → Nat) (hi : mo_inj ad) (c I : Wo) (h : moR c I) : mo_C l D cs ad y_Mo_endOf ws_Mo_endOf rm_Mo_endOf [.ref (ad 0)] I (mk_pi (fun r J => I = J ∧ r = an_end c)) := by
  refine mk_meti (own := "CanonMakerModel") (Ts := wA) hi (Nat.le_refl _) (by decide) rfl (fun w h => List.mem_cons_of_mem _ h) rfl (Nat.le_of_ble_eq_true rfl) [(0, .ref (ad 0))] rfl ?_
  intro p_ e_ s_ m_ as_ bl_ me_ co_ Q_ X hret
  obtain ⟨⟨⟨hn, hN⟩, ⟨hlo, hsc, hbt, hru, hrd, hst⟩, ⟨hV, hV0⟩, ⟨hfc, hF⟩⟩, ⟨i12, iN⟩, ⟨⟨i50, i51, i52, i53, i54⟩, i07, i09⟩, iV, ⟨i010, iF⟩⟩ := id h
  have L4 : ∀ nf : Nat, ∀ (v : Nat) (x : Int), (v ≤ 4) → (x = eo c v) → 4 - v < nf → mk_A p_ l e_ rm_Mo_endOf s_ m_ as_ bl_ me_ co_ Q_ 4 D cmcl (mo_sh cs ad) 16 16 ad I [(0, .ref (ad 0)), (1, .int (zi x)), (2, .int (zi (v : Int)))] 4 [] := by
    intro nf
    induction nf with
    | zero => intro v x hv hx hn; exact absurd hn (Nat.not_lt_zero _)
    | succ nf ih4 =>
      intro v x hv hx hn4
      have hb := eo_b h.1.1 h.1.2.2.1 v hv
      refine mk_iloadn (nx := 5) X 2 d_Mo_endOf_4 rfl rfl ?_
      refine mk_iconst (nx := 6) X d_Mo_endOf_5 rfl ?_
      refine mk_icmp_ge (tgt := 48) (nx := 9) X d_Mo_endOf_6 (by omega) (by omega) (by decide) rfl (fun c6 => ?_) (fun c6 => ?_)
      · skip
        refine mk_aloadn (nx := 49) X 0 d_Mo_endOf_48 rfl rfl ?_
        refine mk_get (nx := 52) (v := .int (zi (I 0 12))) X 0 (by decide) (mh_Mo cs ad _) rfl in_Mo 12 (by decide) wd_607 rfl rfl d_Mo_endOf_49 rfl ?_
        refine mk_if_le (tgt := 62) (nx := 55) X d_Mo_endOf_52 (by omega) (by decide) rfl (fun c52 => ?_) (fun c52 => ?_)
        · skip
          refine mk_iloadn (nx := 63) X 1 d_Mo_endOf_62 rfl rfl ?_
          exact hret _ _ _ _ d_Mo_endOf_63 (by first | exact ⟨rfl, by rw [an_end, if_pos (by omega)]; omega⟩ | exact ⟨rfl, by rw [an_end, if_neg (by omega), hx, show v = 4 by omega]⟩)
        · skip
          refine mk_aloadn (nx := 56) X 0 d_Mo_endOf_55 rfl rfl ?_
          refine mk_get (nx := 59) (v := .int (zi (I 0 12))) X 0 (by decide) (mh_Mo cs ad _) rfl in_Mo 12 (by decide) wd_607 rfl rfl d_Mo_endOf_56 rfl ?_
          refine mk_goto (tgt := 63) X d_Mo_endOf_59 (by decide) ?_
          exact hret _ _ _ _ d_Mo_endOf_63 (by first | exact ⟨rfl, by rw [an_end, if_pos (by omega)]; omega⟩ | exact ⟨rfl, by rw [an_end, if_neg (by omega), hx, show v = 4 by omega]⟩)
      · skip
        have hv4 := iV v (by omega)
        have hv5 := hV v (by omega)
        have hsz := an_size_b h.1.1
        have hm := mul_rng hsz hv5.2.2.2.2
        refine mk_aloadn (nx := 10) X 0 d_Mo_endOf_9 rfl rfl ?_
        refine mk_get (nx := 13) (v := .ref (ad 4)) X 0 (by decide) (mh_Mo cs ad _) rfl in_Mo 4 (by decide) wd_599 rfl rfl d_Mo_endOf_10 rfl ?_
        refine mk_iloadn (nx := 14) X 2 d_Mo_endOf_13 rfl rfl ?_
        refine mk_iald (nx := 15) (j := v) X 4 0 (by decide) (mh_delays cs ad _) rfl (by omega) (by omega) (by decide) rfl d_Mo_endOf_14 rfl ?_
        refine mk_aloadn (nx := 16) X 0 d_Mo_endOf_15 rfl rfl ?_
        refine mk_iloadn (nx := 17) X 2 d_Mo_endOf_16 rfl rfl ?_
        refine mk_callVi (nx := 20) (n := 1) (As := [.int (zi (v : Int))]) (rest := [.int (zi (I 4 v))]) X 0 (by decide) (mh_Mo cs ad _) rfl (c_Mo_lineSize l D cs ad hi c I h v (by omega)) (g_Mo_lineSize wd_739) rfl ⟨rfl, rfl⟩ (by decide +kernel) ⟨by decide, by decide⟩ rfl (Nat.le_of_ble_eq_true rfl) rfl d_Mo_endOf_17 rfl ?_
        intro r17 J1 hJ1
        obtain ⟨rfl, rfl⟩ := hJ1
        refine mk_iadd (nx := 21) X d_Mo_endOf_20 rfl ?_
        refine mk_istoren (nx := 22) X [(3, .int (zi ((I 4 v) + (an_size c * c (3 + v) 4)))), (0, .ref (ad 0)), (1, .int (zi x)), (2, .int (zi (v : Int)))] d_Mo_endOf_21 (by decide) rfl rfl ?_
        refine mk_aloadn (nx := 23) X 1 d_Mo_endOf_22 rfl rfl ?_
        refine mk_get (nx := 26) (v := .ref (ad 3)) X 0 (by decide) (mh_Mo cs ad _) rfl in_Mo 3 (by decide) wd_598 rfl rfl d_Mo_endOf_23 rfl ?_
        refine mk_iloadn (nx := 27) X 3 d_Mo_endOf_26 rfl rfl ?_
        refine mk_zald (nx := 28) (j := v) X 3 1 (by decide) (mh_on cs ad _) rfl (by omega) (by omega) (by decide) rfl d_Mo_endOf_27 rfl ?_
        refine mk_if_eq (tgt := 40) (nx := 31) X d_Mo_endOf_28 (by omega) (by decide) rfl (fun c28 => ?_) (fun c28 => ?_)
        · skip
          refine mk_iloadn (nx := 41) X 2 d_Mo_endOf_40 rfl rfl ?_
          refine mk_istoren (nx := 42) X [(1, .int (zi x)), (3, .int (zi ((I 4 v) + (an_size c * c (3 + v) 4)))), (0, .ref (ad 0)), (2, .int (zi (v : Int)))] d_Mo_endOf_41 (by decide) rfl rfl ?_
          refine mk_iinc (nx := 45) X 3 [(2, .int (zi ((v : Int) + 1))), (1, .int (zi x)), (3, .int (zi ((I 4 v) + (an_size c * c (3 + v) 4)))), (0, .ref (ad 0))] d_Mo_endOf_42 rfl (by decide) rfl rfl ?_
          refine mk_goto (tgt := 4) X d_Mo_endOf_45 (by decide) ?_
          refine mk_lv [3, 1, 0] rfl ?_
          exact ih4 (v + 1) x (by omega) (by first | rfl | (rw [eo, if_pos (by omega)]; omega) | (rw [eo]; split <;> omega)) (by omega)
        · skip
          refine mk_iloadn (nx := 32) X 0 d_Mo_endOf_31 rfl rfl ?_
          refine mk_iloadn (nx := 33) X 2 d_Mo_endOf_32 rfl rfl ?_
          refine mk_icmp_le (tgt := 40) (nx := 36) X d_Mo_endOf_33 (by omega) (by omega) (by decide) rfl (fun c33 => ?_) (fun c33 => ?_)
          · skip
            refine mk_iloadn (nx := 41) X 2 d_Mo_endOf_40 rfl rfl ?_
            refine mk_istoren (nx := 42) X [(1, .int (zi x)), (3, .int (zi ((I 4 v) + (an_size c * c (3 + v) 4)))), (0, .ref (ad 0)), (2, .int (zi (v : Int)))] d_Mo_endOf_41 (by decide) rfl rfl ?_
            refine mk_iinc (nx := 45) X 3 [(2, .int (zi ((v : Int) + 1))), (1, .int (zi x)), (3, .int (zi ((I 4 v) + (an_size c * c (3 + v) 4)))), (0, .ref (ad 0))] d_Mo_endOf_42 rfl (by decide) rfl rfl ?_
            refine mk_goto (tgt := 4) X d_Mo_endOf_45 (by decide) ?_
            refine mk_lv [3, 1, 0] rfl ?_
            exact ih4 (v + 1) x (by omega) (by first | rfl | (rw [eo, if_pos (by omega)]; omega) | (rw [eo]; split <;> omega)) (by omega)
          · skip
            refine mk_iloadn (nx := 37) X 0 d_Mo_endOf_36 rfl rfl ?_
            refine mk_goto (tgt := 41) X d_Mo_endOf_37 (by decide) ?_
            refine mk_istoren (nx := 42) X [(1, .int (zi ((I 4 v) + (an_size c * c (3 + v) 4)))), (3, .int (zi ((I 4 v) + (an_size c * c (3 + v) 4)))), (0, .ref (ad 0)), (2, .int (zi (v : Int)))] d_Mo_endOf_41 (by decide) rfl rfl ?_
            refine mk_iinc (nx := 45) X 3 [(2, .int (zi ((v : Int) + 1))), (1, .int (zi ((I 4 v) + (an_size c * c (3 + v) 4)))), (3, .int (zi ((I 4 v) + (an_size c * c (3 + v) 4)))), (0, .ref (ad 0))] d_Mo_endOf_42 rfl (by decide) rfl rfl ?_
            refine mk_goto (tgt := 4) X d_Mo_endOf_45 (by decide) ?_
            refine mk_lv [3, 1, 0] rfl ?_
            exact ih4 (v + 1) ((I 4 v) + (an_size c * c (3 + v) 4)) (by omega) (by first | rfl | (rw [eo, if_pos (by omega)]; omega) | (rw [eo]; split <;> omega)) (by omega)
  refine mk_iconst (nx := 1) X d_Mo_endOf_0 rfl ?_
  refine mk_istoren (nx := 2) X [(1, .int (zi 0)), (0, .ref (ad 0))] d_Mo_endOf_1 (by decide) rfl rfl ?_
  refine mk_iconst (nx := 3) X d_Mo_endOf_2 rfl ?_
  refine mk_istoren (nx := 4) X [(2, .int (zi 0)), (1, .int (zi 0)), (0, .ref (ad 0))] d_Mo_endOf_3 (by decide) rfl rfl ?_
  refine mk_lv [2, 1, 0] rfl ?_
  exact L4 _ 0 0 (by omega) (by first | rfl | (rw [eo, if_pos (by omega)]; omega) | (rw [eo]; split <;> omega)) (Nat.lt_succ_self _)

-- CanonMakerModel.end()I
theorem d_Mo_end_0 : decode prog_9_method_19_code 0 = .ok (.aload_n 0, 1) := by decide +kernel
theorem d_Mo_end_1 : decode prog_9_method_19_code 1 = .ok (.invokevirtual 93, 3) := by decide +kernel
theorem d_Mo_end_4 : decode prog_9_method_19_code 4 = .ok (.ireturn, 1) := by decide +kernel
abbrev rm_Mo_end : Room := { frames := 3, cells := 0, slots := 0, locals := 66 }
set_option maxHeartbeats 4000000 in
set_option maxRecDepth 100000 in
theorem c_Mo_end (l : Launch) (D : va_G) (cs : Nat → ClassId) (ad : Nat → Nat) (hi : mo_inj ad) (c I : Wo) (h : moR c I)  : mo_C l D cs ad y_Mo_end ws_Mo_end rm_Mo_end [.ref (ad 0)] I (mk_pi (fun r J => r = an_end c ∧ moR c J)) := by
  refine mk_meti (own := "CanonMakerModel") (Ts := wA) hi (Nat.le_refl _) (by decide) rfl (fun w h => List.mem_cons_of_mem _ h) rfl (Nat.le_of_ble_eq_true rfl) [(0, .ref (ad 0))] rfl ?_
  intro p_ e_ s_ m_ as_ bl_ me_ co_ Q_ X hret
  obtain ⟨⟨⟨hn, hN⟩, ⟨hlo, hsc, hbt, hru, hrd, hst⟩, ⟨hV, hV0⟩, ⟨hfc, hF⟩⟩, ⟨i12, iN⟩, ⟨⟨i50, i51, i52, i53, i54⟩, i07, i09⟩, iV, ⟨i010, iF⟩⟩ := id h
  refine mk_aloadn (nx := 1) X 0 d_Mo_end_0 rfl rfl ?_
  refine mk_callVi (nx := 4) (n := 0) (As := []) (rest := []) X 0 (by decide) (mh_Mo cs ad _) rfl (c_Mo_endOf l D cs ad hi c I h) (g_Mo_endOf wd_735) rfl ⟨rfl, rfl⟩ (by decide +kernel) ⟨by decide, by decide⟩ rfl (Nat.le_of_ble_eq_true rfl) rfl d_Mo_end_1 rfl ?_
  intro r1 J1 hJ1
  obtain ⟨rfl, rfl⟩ := hJ1
  exact hret _ _ _ _ d_Mo_end_4 (by exact ⟨rfl, h⟩)

-- CanonMakerModel.isLong()Z
theorem d_Mo_isLong_0 : decode prog_9_method_21_code 0 = .ok (.iconst 0, 1) := by decide +kernel
theorem d_Mo_isLong_1 : decode prog_9_method_21_code 1 = .ok (.istore_n 1, 1) := by decide +kernel
theorem d_Mo_isLong_2 : decode prog_9_method_21_code 2 = .ok (.iload_n 1, 1) := by decide +kernel
theorem d_Mo_isLong_3 : decode prog_9_method_21_code 3 = .ok (.iconst 4, 1) := by decide +kernel
theorem d_Mo_isLong_4 : decode prog_9_method_21_code 4 = .ok (.if_icmp .ge 39, 3) := by decide +kernel
theorem d_Mo_isLong_7 : decode prog_9_method_21_code 7 = .ok (.aload_n 0, 1) := by decide +kernel
theorem d_Mo_isLong_8 : decode prog_9_method_21_code 8 = .ok (.getfield 16, 3) := by decide +kernel
theorem d_Mo_isLong_11 : decode prog_9_method_21_code 11 = .ok (.iload_n 1, 1) := by decide +kernel
theorem d_Mo_isLong_12 : decode prog_9_method_21_code 12 = .ok (.baload, 1) := by decide +kernel
theorem d_Mo_isLong_13 : decode prog_9_method_21_code 13 = .ok (.ifCond .eq 24, 3) := by decide +kernel
theorem d_Mo_isLong_16 : decode prog_9_method_21_code 16 = .ok (.aload_n 0, 1) := by decide +kernel
theorem d_Mo_isLong_17 : decode prog_9_method_21_code 17 = .ok (.getfield 72, 3) := by decide +kernel
theorem d_Mo_isLong_20 : decode prog_9_method_21_code 20 = .ok (.ifCond .le 17, 3) := by decide +kernel
theorem d_Mo_isLong_23 : decode prog_9_method_21_code 23 = .ok (.aload_n 0, 1) := by decide +kernel
theorem d_Mo_isLong_24 : decode prog_9_method_21_code 24 = .ok (.iload_n 1, 1) := by decide +kernel
theorem d_Mo_isLong_25 : decode prog_9_method_21_code 25 = .ok (.invokevirtual 89, 3) := by decide +kernel
theorem d_Mo_isLong_28 : decode prog_9_method_21_code 28 = .ok (.aload_n 0, 1) := by decide +kernel
theorem d_Mo_isLong_29 : decode prog_9_method_21_code 29 = .ok (.getfield 72, 3) := by decide +kernel
theorem d_Mo_isLong_32 : decode prog_9_method_21_code 32 = .ok (.if_icmp .le 5, 3) := by decide +kernel
theorem d_Mo_isLong_35 : decode prog_9_method_21_code 35 = .ok (.iconst 1, 1) := by decide +kernel
theorem d_Mo_isLong_36 : decode prog_9_method_21_code 36 = .ok (.ireturn, 1) := by decide +kernel
theorem d_Mo_isLong_37 : decode prog_9_method_21_code 37 = .ok (.iinc 1 1, 3) := by decide +kernel
theorem d_Mo_isLong_40 : decode prog_9_method_21_code 40 = .ok (.goto (-38), 3) := by decide +kernel
theorem d_Mo_isLong_43 : decode prog_9_method_21_code 43 = .ok (.iconst 0, 1) := by decide +kernel
theorem d_Mo_isLong_44 : decode prog_9_method_21_code 44 = .ok (.ireturn, 1) := by decide +kernel
abbrev rm_Mo_isLong : Room := { frames := 2, cells := 0, slots := 0, locals := 43 }
set_option maxHeartbeats 4000000 in
set_option maxRecDepth 100000 in
theorem c_Mo_isLong (l : Launch) (D : va_G) (cs : Nat → ClassId) (ad : Nat → Nat) (hi : mo_inj ad) (c I : Wo) (h : moR c I) : mo_C l D cs ad y_Mo_isLong ws_Mo_isLong rm_Mo_isLong [.ref (ad 0)] I (mk_pi (fun r J => I = J ∧ ((r = 1 ∧ ∃ v, v < 4 ∧ tl c v) ∨ (r = 0 ∧ ∀ v, v < 4 → ¬ tl c v)))) := by
  refine mk_metz (own := "CanonMakerModel") (Ts := wA) hi (Nat.le_refl _) (by decide) rfl (fun w h => List.mem_cons_of_mem _ h) rfl (Nat.le_of_ble_eq_true rfl) [(0, .ref (ad 0))] rfl ?_
  intro p_ e_ s_ m_ as_ bl_ me_ co_ Q_ X hret
  obtain ⟨⟨⟨hn, hN⟩, ⟨hlo, hsc, hbt, hru, hrd, hst⟩, ⟨hV, hV0⟩, ⟨hfc, hF⟩⟩, ⟨i12, iN⟩, ⟨⟨i50, i51, i52, i53, i54⟩, i07, i09⟩, iV, ⟨i010, iF⟩⟩ := id h
  have L2 : ∀ nf : Nat, ∀ (v : Nat), (v ≤ 4) → (∀ u, u < v → ¬ tl c u) → 4 - v < nf → mk_A p_ l e_ rm_Mo_isLong s_ m_ as_ bl_ me_ co_ Q_ 2 D cmcl (mo_sh cs ad) 16 16 ad I [(0, .ref (ad 0)), (1, .int (zi (v : Int)))] 2 [] := by
    intro nf
    induction nf with
    | zero => intro v hv hb hn; exact absurd hn (Nat.not_lt_zero _)
    | succ nf ih2 =>
      intro v hv hb hn2
      refine mk_iloadn (nx := 3) X 1 d_Mo_isLong_2 rfl rfl ?_
      refine mk_iconst (nx := 4) X d_Mo_isLong_3 rfl ?_
      refine mk_icmp_ge (tgt := 43) (nx := 7) X d_Mo_isLong_4 (by omega) (by omega) (by decide) rfl (fun c4 => ?_) (fun c4 => ?_)
      · skip
        refine mk_iconst (nx := 44) X d_Mo_isLong_43 rfl ?_
        exact hret _ _ _ _ d_Mo_isLong_44 (by omega) (by exact ⟨rfl, Or.inr ⟨rfl, fun u hu => hb u (by omega)⟩⟩)
      · skip
        have hv4 := iV v (by omega)
        have hv5 := hV v (by omega)
        have hsz := an_size_b h.1.1
        have hm := mul_rng hsz hv5.2.2.2.2
        refine mk_aloadn (nx := 8) X 0 d_Mo_isLong_7 rfl rfl ?_
        refine mk_get (nx := 11) (v := .ref (ad 3)) X 0 (by decide) (mh_Mo cs ad _) rfl in_Mo 3 (by decide) wd_598 rfl rfl d_Mo_isLong_8 rfl ?_
        refine mk_iloadn (nx := 12) X 1 d_Mo_isLong_11 rfl rfl ?_
        refine mk_zald (nx := 13) (j := v) X 3 1 (by decide) (mh_on cs ad _) rfl (by omega) (by omega) (by decide) rfl d_Mo_isLong_12 rfl ?_
        refine mk_if_eq (tgt := 37) (nx := 16) X d_Mo_isLong_13 (by omega) (by decide) rfl (fun c13 => ?_) (fun c13 => ?_)
        · skip
          refine mk_iinc (nx := 40) X 1 [(1, .int (zi ((v : Int) + 1))), (0, .ref (ad 0))] d_Mo_isLong_37 rfl (by decide) rfl rfl ?_
          refine mk_goto (tgt := 2) X d_Mo_isLong_40 (by decide) ?_
          refine mk_lv [1, 0] rfl ?_
          exact ih2 (v + 1) (by omega) (by first | exact lt_0 | exact lt_s hb (by unfold tl; omega)) (by omega)
        · skip
          refine mk_aloadn (nx := 17) X 0 d_Mo_isLong_16 rfl rfl ?_
          refine mk_get (nx := 20) (v := .int (zi (I 0 12))) X 0 (by decide) (mh_Mo cs ad _) rfl in_Mo 12 (by decide) wd_607 rfl rfl d_Mo_isLong_17 rfl ?_
          refine mk_if_le (tgt := 37) (nx := 23) X d_Mo_isLong_20 (by omega) (by decide) rfl (fun c20 => ?_) (fun c20 => ?_)
          · skip
            refine mk_iinc (nx := 40) X 1 [(1, .int (zi ((v : Int) + 1))), (0, .ref (ad 0))] d_Mo_isLong_37 rfl (by decide) rfl rfl ?_
            refine mk_goto (tgt := 2) X d_Mo_isLong_40 (by decide) ?_
            refine mk_lv [1, 0] rfl ?_
            exact ih2 (v + 1) (by omega) (by first | exact lt_0 | exact lt_s hb (by unfold tl; omega)) (by omega)
          · skip
            refine mk_aloadn (nx := 24) X 0 d_Mo_isLong_23 rfl rfl ?_
            refine mk_iloadn (nx := 25) X 1 d_Mo_isLong_24 rfl rfl ?_
            refine mk_callVi (nx := 28) (n := 1) (As := [.int (zi (v : Int))]) (rest := []) X 0 (by decide) (mh_Mo cs ad _) rfl (c_Mo_lineSize l D cs ad hi c I h v (by omega)) (g_Mo_lineSize wd_739) rfl ⟨rfl, rfl⟩ (by decide +kernel) ⟨by decide, by decide⟩ rfl (Nat.le_of_ble_eq_true rfl) rfl d_Mo_isLong_25 rfl ?_
            intro r25 J1 hJ1
            obtain ⟨rfl, rfl⟩ := hJ1
            refine mk_aloadn (nx := 29) X 0 d_Mo_isLong_28 rfl rfl ?_
            refine mk_get (nx := 32) (v := .int (zi (I 0 12))) X 0 (by decide) (mh_Mo cs ad _) rfl in_Mo 12 (by decide) wd_607 rfl rfl d_Mo_isLong_29 rfl ?_
            refine mk_icmp_le (tgt := 37) (nx := 35) X d_Mo_isLong_32 (by omega) (by omega) (by decide) rfl (fun c32 => ?_) (fun c32 => ?_)
            · skip
              refine mk_iinc (nx := 40) X 1 [(1, .int (zi ((v : Int) + 1))), (0, .ref (ad 0))] d_Mo_isLong_37 rfl (by decide) rfl rfl ?_
              refine mk_goto (tgt := 2) X d_Mo_isLong_40 (by decide) ?_
              refine mk_lv [1, 0] rfl ?_
              exact ih2 (v + 1) (by omega) (by first | exact lt_0 | exact lt_s hb (by unfold tl; omega)) (by omega)
            · skip
              refine mk_iconst (nx := 36) X d_Mo_isLong_35 rfl ?_
              exact hret _ _ _ _ d_Mo_isLong_36 (by omega) (by exact ⟨rfl, Or.inl ⟨rfl, v, by omega, by unfold tl; omega⟩⟩)
  refine mk_iconst (nx := 1) X d_Mo_isLong_0 rfl ?_
  refine mk_istoren (nx := 2) X [(1, .int (zi 0)), (0, .ref (ad 0))] d_Mo_isLong_1 (by decide) rfl rfl ?_
  refine mk_lv [1, 0] rfl ?_
  exact L2 _ 0 (by omega) (by first | exact lt_0 | exact lt_s hb (by unfold tl; omega)) (Nat.lt_succ_self _)
