/-- joinNeighbours' loop -/
def JnI (c I J : Wo) (v p : Nat) : Prop := (∀ a b, ¬ a = 16 + 6 * v → ¬ a = 17 + 6 * v → J a b = I a b) ∧ (∀ q, q < p → J (17 + 6 * v) q = cbeh c v q) ∧ (∀ q, p ≤ q → q < 24 → J (17 + 6 * v) q = -1) ∧ (∀ q, q < cn c → J (16 + 6 * v) q = if pvp (cn c) q < p then cbef c v q else -1)
section JN
variable {c I J J1 J2 : Wo} {v p : Nat}
theorem jnd_t (h1 : p + 1 < cn c ∨ cbg c v (cn c) = c 0 6) (h2 : ¬ c 1 (cnt c v p) = -1) (h3 : ¬ c 1 (cnt c v (nxp (cn c) p)) = -1) : jnd c v p = true := decide_eq_true ⟨h1, h2, h3⟩
theorem jnd_f (h : ¬ ((p + 1 < cn c ∨ cbg c v (cn c) = c 0 6) ∧ ¬ c 1 (cnt c v p) = -1 ∧ ¬ c 1 (cnt c v (nxp (cn c) p)) = -1)) : jnd c v p = false := decide_eq_false h
theorem jn_init (hn : cn c ≤ 24) (h1 : J1 = upr I (16 + 6 * v) (fun j => if j < 24 then -1 else I (16 + 6 * v) j)) (h2 : J2 = upr J1 (17 + 6 * v) (fun j => if j < 24 then -1 else J1 (17 + 6 * v) j)) : JnI c I J2 v 0 := by
  subst h2; subst h1
  refine ⟨fun a b x y => by rw [upr_n y, upr_n x], lt_0, fun q _ hq => by rw [upr_s, if_pos hq], fun q hq => ?_⟩
  rw [upr_n (by omega), upr_s, if_pos (by omega), if_neg (Nat.not_lt_zero _)]
theorem jn_no (hj : jnd c v p = false) (h : JnI c I J v p) (hp : p < cn c) (hn : cn c ≤ 24) : JnI c I J v (p + 1) := by
  obtain ⟨h1, h2, h3, h4⟩ := h
  refine ⟨h1, lt_s h2 ?_, fun q a b => h3 q (by omega) b, fun q hq => ?_⟩
  · rw [h3 p (Nat.le_refl _) (by omega), cbeh, hj]; rfl
  · rw [h4 q hq]
    by_cases e : pvp (cn c) q = p
    · rw [if_neg (by omega), if_pos (by omega), cbef, e, hj]; rfl
    · by_cases e2 : pvp (cn c) q < p
      · rw [if_pos e2, if_pos (by omega)]
      · rw [if_neg e2, if_neg (by omega)]
theorem jn_yes (hj : jnd c v p = true) (h : JnI c I J v p) (hp : p < cn c) (hn : cn c ≤ 24) (e1 : J1 = up2 J (17 + 6 * v) p (nxp (cn c) p : Int)) (e2 : J2 = up2 J1 (16 + 6 * v) (nxp (cn c) p) (p : Int)) : JnI c I J2 v (p + 1) := by
  obtain ⟨h1, h2, h3, h4⟩ := h
  subst e2; subst e1
  refine ⟨fun a b x y => by rw [up2_n x, up2_n y]; exact h1 a b x y, lt_s (fun q hq => ?_) ?_, fun q a b => ?_, fun q hq => ?_⟩
  · rw [up2_n (by omega), up2_s, up1_n (by omega)]; exact h2 q hq
  · rw [up2_n (by omega), up2_s, up1_s, cbeh, if_pos hj]
  · rw [up2_n (by omega), up2_s, up1_n (by omega)]; exact h3 q (by omega) b
  · by_cases e : q = nxp (cn c) p
    · subst e
      rw [up2_s, up1_s, pv_nx hp, if_pos (by omega), cbef, pv_nx hp, if_pos hj]
    · rw [up2_s, up1_n e, up2_n (by omega), h4 q hq]
      have ne : pvp (cn c) q ≠ p := fun z => e (by rw [← z, nx_pv hq])
      by_cases e3 : pvp (cn c) q < p
      · rw [if_pos e3, if_pos (by omega)]
      · rw [if_neg e3, if_neg (by omega)]
theorem jn_end (h : JnI c I J v (cn c)) : LnN c J v := fun q hq => ⟨by rw [h.2.2.2 q hq, if_pos (pv_lt hq)], h.2.1 q hq⟩
end JN
/-- lay's loop: what is written so far -/
def LyI (c I J : Wo) (v p : Nat) : Prop := (∀ a b, (a < 12 + 6 * v ∨ 14 + 6 * v < a) → J a b = I a b) ∧ (J (12 + 6 * v) 5 = c 0 0 ∧ J (12 + 6 * v) 7 = c 0 6 ∧ J (12 + 6 * v) 8 = c (3 + v) 1 ∧ J (12 + 6 * v) 9 = c (3 + v) 2 ∧ J (12 + 6 * v) 10 = c (3 + v) 0 ∧ J (12 + 6 * v) 11 = (if ziand (c (3 + v) 3) 1 = 0 then 0 else 1)) ∧ J (12 + 6 * v) 6 = cbg c v p ∧ ∀ q, q < p → J (13 + 6 * v) q = cnt c v q ∧ J (14 + 6 * v) q = cbg c v q
section LY
variable {c I J J1 J2 J3 : Wo} {v p : Nat}
theorem ly_step (h : LyI c I J v p) (e1 : J1 = up2 J (13 + 6 * v) p (cnt c v p : Int)) (e2 : J2 = up2 J1 (14 + 6 * v) p (cbg c v p)) (e3 : J3 = up2 J2 (12 + 6 * v) 6 (cbg c v (p + 1))) : LyI c I J3 v (p + 1) := by
  obtain ⟨h1, h2, h3, h4⟩ := h
  subst e3; subst e2; subst e1
  refine ⟨fun a b x => by rw [up2_n (by omega), up2_n (by omega), up2_n (by omega)]; exact h1 a b x, ?_, by rw [up2_s, up1_s], fun q hq => ?_⟩
  · simp only [up2_s, up2_n (show 12 + 6 * v ≠ 14 + 6 * v by omega), up2_n (show 12 + 6 * v ≠ 13 + 6 * v by omega)]
    simpa [up1] using h2
  · rw [up2_n (by omega), up2_n (by omega), up2_s, up2_n (by omega), up2_s, up2_n (by omega)]
    by_cases e : q = p
    · subst e; rw [up1_s, up1_s]; exact ⟨rfl, rfl⟩
    · rw [up1_n e, up1_n e]; exact h4 q (by omega)
end LY

-- CanonMaker$Line.joinNeighbours(LCanonMaker$Subject;)V
theorem d_Line_joinNeighbours_0 : decode prog_4_method_3_code 0 = .ok (.aload_n 0, 1) := by decide +kernel
theorem d_Line_joinNeighbours_1 : decode prog_4_method_3_code 1 = .ok (.getfield 21, 3) := by decide +kernel
theorem d_Line_joinNeighbours_4 : decode prog_4_method_3_code 4 = .ok (.iconst (-1), 1) := by decide +kernel
theorem d_Line_joinNeighbours_5 : decode prog_4_method_3_code 5 = .ok (.invokestatic 71, 3) := by decide +kernel
theorem d_Line_joinNeighbours_8 : decode prog_4_method_3_code 8 = .ok (.aload_n 0, 1) := by decide +kernel
theorem d_Line_joinNeighbours_9 : decode prog_4_method_3_code 9 = .ok (.getfield 24, 3) := by decide +kernel
theorem d_Line_joinNeighbours_12 : decode prog_4_method_3_code 12 = .ok (.iconst (-1), 1) := by decide +kernel
theorem d_Line_joinNeighbours_13 : decode prog_4_method_3_code 13 = .ok (.invokestatic 71, 3) := by decide +kernel
theorem d_Line_joinNeighbours_16 : decode prog_4_method_3_code 16 = .ok (.aload_n 0, 1) := by decide +kernel
theorem d_Line_joinNeighbours_17 : decode prog_4_method_3_code 17 = .ok (.getfield 58, 3) := by decide +kernel
theorem d_Line_joinNeighbours_20 : decode prog_4_method_3_code 20 = .ok (.aload_n 0, 1) := by decide +kernel
theorem d_Line_joinNeighbours_21 : decode prog_4_method_3_code 21 = .ok (.getfield 49, 3) := by decide +kernel
theorem d_Line_joinNeighbours_24 : decode prog_4_method_3_code 24 = .ok (.if_icmp .ne 7, 3) := by decide +kernel
theorem d_Line_joinNeighbours_27 : decode prog_4_method_3_code 27 = .ok (.iconst 1, 1) := by decide +kernel
theorem d_Line_joinNeighbours_28 : decode prog_4_method_3_code 28 = .ok (.goto 4, 3) := by decide +kernel
theorem d_Line_joinNeighbours_31 : decode prog_4_method_3_code 31 = .ok (.iconst 0, 1) := by decide +kernel
theorem d_Line_joinNeighbours_32 : decode prog_4_method_3_code 32 = .ok (.istore_n 2, 1) := by decide +kernel
theorem d_Line_joinNeighbours_33 : decode prog_4_method_3_code 33 = .ok (.iconst 0, 1) := by decide +kernel
theorem d_Line_joinNeighbours_34 : decode prog_4_method_3_code 34 = .ok (.istore_n 3, 1) := by decide +kernel
theorem d_Line_joinNeighbours_35 : decode prog_4_method_3_code 35 = .ok (.iload_n 3, 1) := by decide +kernel
theorem d_Line_joinNeighbours_36 : decode prog_4_method_3_code 36 = .ok (.aload_n 0, 1) := by decide +kernel
theorem d_Line_joinNeighbours_37 : decode prog_4_method_3_code 37 = .ok (.getfield 57, 3) := by decide +kernel
theorem d_Line_joinNeighbours_40 : decode prog_4_method_3_code 40 = .ok (.if_icmp .ge 96, 3) := by decide +kernel
theorem d_Line_joinNeighbours_43 : decode prog_4_method_3_code 43 = .ok (.iload_n 3, 1) := by decide +kernel
theorem d_Line_joinNeighbours_44 : decode prog_4_method_3_code 44 = .ok (.iconst 1, 1) := by decide +kernel
theorem d_Line_joinNeighbours_45 : decode prog_4_method_3_code 45 = .ok (.iadd, 1) := by decide +kernel
theorem d_Line_joinNeighbours_46 : decode prog_4_method_3_code 46 = .ok (.aload_n 0, 1) := by decide +kernel
theorem d_Line_joinNeighbours_47 : decode prog_4_method_3_code 47 = .ok (.getfield 57, 3) := by decide +kernel
theorem d_Line_joinNeighbours_50 : decode prog_4_method_3_code 50 = .ok (.if_icmp .ge 9, 3) := by decide +kernel
theorem d_Line_joinNeighbours_53 : decode prog_4_method_3_code 53 = .ok (.iload_n 3, 1) := by decide +kernel
theorem d_Line_joinNeighbours_54 : decode prog_4_method_3_code 54 = .ok (.iconst 1, 1) := by decide +kernel
theorem d_Line_joinNeighbours_55 : decode prog_4_method_3_code 55 = .ok (.iadd, 1) := by decide +kernel
theorem d_Line_joinNeighbours_56 : decode prog_4_method_3_code 56 = .ok (.goto 4, 3) := by decide +kernel
theorem d_Line_joinNeighbours_59 : decode prog_4_method_3_code 59 = .ok (.iconst 0, 1) := by decide +kernel
theorem d_Line_joinNeighbours_60 : decode prog_4_method_3_code 60 = .ok (.istore 4, 2) := by decide +kernel
theorem d_Line_joinNeighbours_62 : decode prog_4_method_3_code 62 = .ok (.iload 4, 2) := by decide +kernel
theorem d_Line_joinNeighbours_64 : decode prog_4_method_3_code 64 = .ok (.ifCond .gt 7, 3) := by decide +kernel
theorem d_Line_joinNeighbours_67 : decode prog_4_method_3_code 67 = .ok (.iload_n 2, 1) := by decide +kernel
theorem d_Line_joinNeighbours_68 : decode prog_4_method_3_code 68 = .ok (.ifCond .eq 7, 3) := by decide +kernel
theorem d_Line_joinNeighbours_71 : decode prog_4_method_3_code 71 = .ok (.iconst 1, 1) := by decide +kernel
theorem d_Line_joinNeighbours_72 : decode prog_4_method_3_code 72 = .ok (.goto 4, 3) := by decide +kernel
theorem d_Line_joinNeighbours_75 : decode prog_4_method_3_code 75 = .ok (.iconst 0, 1) := by decide +kernel
theorem d_Line_joinNeighbours_76 : decode prog_4_method_3_code 76 = .ok (.istore 5, 2) := by decide +kernel
theorem d_Line_joinNeighbours_78 : decode prog_4_method_3_code 78 = .ok (.iload 5, 2) := by decide +kernel
theorem d_Line_joinNeighbours_80 : decode prog_4_method_3_code 80 = .ok (.ifCond .eq 50, 3) := by decide +kernel
theorem d_Line_joinNeighbours_83 : decode prog_4_method_3_code 83 = .ok (.aload_n 1, 1) := by decide +kernel
theorem d_Line_joinNeighbours_84 : decode prog_4_method_3_code 84 = .ok (.getfield 77, 3) := by decide +kernel
theorem d_Line_joinNeighbours_87 : decode prog_4_method_3_code 87 = .ok (.aload_n 0, 1) := by decide +kernel
theorem d_Line_joinNeighbours_88 : decode prog_4_method_3_code 88 = .ok (.getfield 9, 3) := by decide +kernel
theorem d_Line_joinNeighbours_91 : decode prog_4_method_3_code 91 = .ok (.iload_n 3, 1) := by decide +kernel
theorem d_Line_joinNeighbours_92 : decode prog_4_method_3_code 92 = .ok (.iaload, 1) := by decide +kernel
theorem d_Line_joinNeighbours_93 : decode prog_4_method_3_code 93 = .ok (.iaload, 1) := by decide +kernel
theorem d_Line_joinNeighbours_94 : decode prog_4_method_3_code 94 = .ok (.iconst (-1), 1) := by decide +kernel
theorem d_Line_joinNeighbours_95 : decode prog_4_method_3_code 95 = .ok (.if_icmp .eq 35, 3) := by decide +kernel
theorem d_Line_joinNeighbours_98 : decode prog_4_method_3_code 98 = .ok (.aload_n 1, 1) := by decide +kernel
theorem d_Line_joinNeighbours_99 : decode prog_4_method_3_code 99 = .ok (.getfield 77, 3) := by decide +kernel
theorem d_Line_joinNeighbours_102 : decode prog_4_method_3_code 102 = .ok (.aload_n 0, 1) := by decide +kernel
theorem d_Line_joinNeighbours_103 : decode prog_4_method_3_code 103 = .ok (.getfield 9, 3) := by decide +kernel
theorem d_Line_joinNeighbours_106 : decode prog_4_method_3_code 106 = .ok (.iload 4, 2) := by decide +kernel
theorem d_Line_joinNeighbours_108 : decode prog_4_method_3_code 108 = .ok (.iaload, 1) := by decide +kernel
theorem d_Line_joinNeighbours_109 : decode prog_4_method_3_code 109 = .ok (.iaload, 1) := by decide +kernel
theorem d_Line_joinNeighbours_110 : decode prog_4_method_3_code 110 = .ok (.iconst (-1), 1) := by decide +kernel
theorem d_Line_joinNeighbours_111 : decode prog_4_method_3_code 111 = .ok (.if_icmp .eq 19, 3) := by decide +kernel
theorem d_Line_joinNeighbours_114 : decode prog_4_method_3_code 114 = .ok (.aload_n 0, 1) := by decide +kernel
theorem d_Line_joinNeighbours_115 : decode prog_4_method_3_code 115 = .ok (.getfield 24, 3) := by decide +kernel
theorem d_Line_joinNeighbours_118 : decode prog_4_method_3_code 118 = .ok (.iload_n 3, 1) := by decide +kernel
theorem d_Line_joinNeighbours_119 : decode prog_4_method_3_code 119 = .ok (.iload 4, 2) := by decide +kernel
theorem d_Line_joinNeighbours_121 : decode prog_4_method_3_code 121 = .ok (.iastore, 1) := by decide +kernel
theorem d_Line_joinNeighbours_122 : decode prog_4_method_3_code 122 = .ok (.aload_n 0, 1) := by decide +kernel
theorem d_Line_joinNeighbours_123 : decode prog_4_method_3_code 123 = .ok (.getfield 21, 3) := by decide +kernel
theorem d_Line_joinNeighbours_126 : decode prog_4_method_3_code 126 = .ok (.iload 4, 2) := by decide +kernel
theorem d_Line_joinNeighbours_128 : decode prog_4_method_3_code 128 = .ok (.iload_n 3, 1) := by decide +kernel
theorem d_Line_joinNeighbours_129 : decode prog_4_method_3_code 129 = .ok (.iastore, 1) := by decide +kernel
theorem d_Line_joinNeighbours_130 : decode prog_4_method_3_code 130 = .ok (.iinc 3 1, 3) := by decide +kernel
theorem d_Line_joinNeighbours_133 : decode prog_4_method_3_code 133 = .ok (.goto (-98), 3) := by decide +kernel
theorem d_Line_joinNeighbours_136 : decode prog_4_method_3_code 136 = .ok (.return_, 1) := by decide +kernel
abbrev rm_Line_joinNeighbours : Room := { frames := 1, cells := 0, slots := 0, locals := 23 }
set_option maxHeartbeats 4000000 in
set_option maxRecDepth 100000 in
theorem c_Line_joinNeighbours (l : Launch) (D : va_G) (cs : Nat → ClassId) (ad : Nat → Nat) (zt : Nat) (hi : cm_inj ad) (c I : Wo) (hw : wfN c) (hS : wfS c) (hV : wfV c) (hm : cmN c I) (v : Nat) (hv : v < 4) (hF : LnF c I v) (hB : LnB c I v) : cm_C l D cs ad zt y_Line_joinNeighbours ws_Line_joinNeighbours rm_Line_joinNeighbours [.ref (ad (12 + 6 * v)), .ref (ad 1)] I (mk_pv (fun J => LnN c J v ∧ ∀ a b, ¬ a = 16 + 6 * v → ¬ a = 17 + 6 * v → J a b = I a b)) := by
  refine mk_metv (own := "CanonMaker$Line") (Ts := wA) hi (Nat.le_refl _) (by decide) rfl (fun w h => List.mem_cons_of_mem _ h) rfl (Nat.le_of_ble_eq_true rfl) [(0, .ref (ad (12 + 6 * v))), (1, .ref (ad 1))] rfl ?_
  intro p_ e_ s_ m_ as_ bl_ me_ co_ Q_ X hret
  have hn := cn_e hw
  have hv5 := hV.1 v hv
  obtain ⟨hlo, hsc, hbt, hru, hrd, hst⟩ := id hS
  have hu := cbg_b hw hV hv (Nat.le_refl (cn c))
  have L35 : ∀ nf : Nat, ∀ (p : Nat) (cl : Int) (J : Wo), (p ≤ cn c) → ((cl = 1 ∧ cbg c v (cn c) = c 0 6) ∨ (cl = 0 ∧ ¬ cbg c v (cn c) = c 0 6)) → (JnI c I J v p) → 24 - p < nf → mk_A p_ l e_ rm_Line_joinNeighbours s_ m_ as_ bl_ me_ co_ Q_ 6 D cmcl (cm_sh cs ad) 48 48 ad J [(0, .ref (ad (12 + 6 * v))), (1, .ref (ad 1)), (2, .int (zi cl)), (3, .int (zi (p : Int)))] 35 [] := by
    intro nf
    induction nf with
    | zero => intro p cl J hp hcl hI hn; exact absurd hn (Nat.not_lt_zero _)
    | succ nf ih35 =>
      intro p cl J hp hcl hI hn35
      refine mk_iloadn (nx := 36) X 3 d_Line_joinNeighbours_35 rfl rfl ?_
      refine mk_aloadn (nx := 37) X 0 d_Line_joinNeighbours_36 rfl rfl ?_
      refine mk_get (nx := 40) (v := .int (zi (J (12 + 6 * v) 5))) X (12 + 6 * v) (by omega) (sh_Line cs ad (show v < 4 by omega) _) rfl in_Line 5 (by decide) wd_139 rfl rfl d_Line_joinNeighbours_37 rfl ?_
      rw [show J (12 + 6 * v) 5 = c 0 0 from ((hI.1 (12 + 6 * v) 5 (by omega) (by omega)).trans (hF.1))]
      refine mk_icmp_ge (tgt := 136) (nx := 43) X d_Line_joinNeighbours_40 (by omega) (by omega) (by decide) rfl (fun c40 => ?_) (fun c40 => ?_)
      · skip
        exact hret _ _ _ d_Line_joinNeighbours_136 (by exact ⟨jn_end (by rw [← show p = cn c by omega]; exact hI), hI.1⟩)
      · skip
        have hcl1 := cnt_lt (c := c) (v := v) (show p < cn c by omega)
        have hp0 := (hw.2 (cnt c v p) (by omega)).1
        refine mk_iloadn (nx := 44) X 3 d_Line_joinNeighbours_43 rfl rfl ?_
        refine mk_iconst (nx := 45) X d_Line_joinNeighbours_44 rfl ?_
        refine mk_iadd (nx := 46) X d_Line_joinNeighbours_45 rfl ?_
        refine mk_aloadn (nx := 47) X 0 d_Line_joinNeighbours_46 rfl rfl ?_
        refine mk_get (nx := 50) (v := .int (zi (J (12 + 6 * v) 5))) X (12 + 6 * v) (by omega) (sh_Line cs ad (show v < 4 by omega) _) rfl in_Line 5 (by decide) wd_139 rfl rfl d_Line_joinNeighbours_47 rfl ?_
        rw [show J (12 + 6 * v) 5 = c 0 0 from ((hI.1 (12 + 6 * v) 5 (by omega) (by omega)).trans (hF.1))]
        refine mk_icmp_ge (tgt := 59) (nx := 53) X d_Line_joinNeighbours_50 (by omega) (by omega) (by decide) rfl (fun c50 => ?_) (fun c50 => ?_)
        · skip
          refine mk_iconst (nx := 60) X d_Line_joinNeighbours_59 rfl ?_
          refine mk_istore (nx := 62) X [(4, .int (zi 0)), (0, .ref (ad (12 + 6 * v))), (1, .ref (ad 1)), (2, .int (zi cl)), (3, .int (zi (p : Int)))] d_Line_joinNeighbours_60 (by decide) rfl rfl ?_
          refine mk_iload (nx := 64) X 0 d_Line_joinNeighbours_62 rfl rfl ?_
          refine mk_if_gt (tgt := 71) (nx := 67) X d_Line_joinNeighbours_64 (by omega) (by decide) rfl (fun c64 => ?_) (fun c64 => ?_)
          · skip
            refine mk_iconst (nx := 72) X d_Line_joinNeighbours_71 rfl ?_
            refine mk_goto (tgt := 76) X d_Line_joinNeighbours_72 (by decide) ?_
            refine mk_istore (nx := 78) X [(5, .int (zi 1)), (4, .int (zi 0)), (0, .ref (ad (12 + 6 * v))), (1, .ref (ad 1)), (2, .int (zi cl)), (3, .int (zi (p : Int)))] d_Line_joinNeighbours_76 (by decide) rfl rfl ?_
            refine mk_iload (nx := 80) X 0 d_Line_joinNeighbours_78 rfl rfl ?_
            refine mk_if_eq (tgt := 130) (nx := 83) X d_Line_joinNeighbours_80 (by omega) (by decide) rfl (fun c80 => ?_) (fun c80 => ?_)
            · skip
              refine mk_iinc (nx := 133) X 5 [(3, .int (zi ((p : Int) + 1))), (5, .int (zi 1)), (4, .int (zi 0)), (0, .ref (ad (12 + 6 * v))), (1, .ref (ad 1)), (2, .int (zi cl))] d_Line_joinNeighbours_130 rfl (by decide) rfl rfl ?_
              refine mk_goto (tgt := 35) X d_Line_joinNeighbours_133 (by decide) ?_
              refine mk_lv [3, 4, 5, 0] rfl ?_
              exact ih35 (p + 1) cl J (by omega) (by omega) (by first | exact jn_init hn.2 hJA hJB | (exfalso; omega) | exact jn_no (jnd_f (by rw [nxp, if_pos (by omega)]; omega)) hI (by omega) (by omega) | exact jn_no (jnd_f (by rw [nxp, if_neg (by omega)]; omega)) hI (by omega) (by omega) | exact jn_yes (jnd_t (by omega) (by omega) (by rw [nxp, if_pos (by omega)]; omega)) hI (by omega) (by omega) (J1 := J) (by rw [nxp, if_pos (by omega)]; exact hJ) (by rw [nxp, if_pos (by omega)]; exact hJ) | exact jn_yes (jnd_t (by omega) (by omega) (by rw [nxp, if_neg (by omega)]; omega)) hI (by omega) (by omega) (J1 := J) (by rw [nxp, if_neg (by omega)]; exact hJ) (by rw [nxp, if_neg (by omega)]; exact hJ)) (by omega)
            · skip
              refine mk_aloadn (nx := 84) X 3 d_Line_joinNeighbours_83 rfl rfl ?_
              refine mk_get (nx := 87) (v := .ref (ad 2)) X 1 (by decide) (sh_Subject cs ad _) rfl in_Subject 0 (by decide) wd_66 rfl rfl d_Line_joinNeighbours_84 rfl ?_
              refine mk_aloadn (nx := 88) X 2 d_Line_joinNeighbours_87 rfl rfl ?_
              refine mk_get (nx := 91) (v := .ref (ad (13 + 6 * v))) X (12 + 6 * v) (by omega) (sh_Line cs ad (show v < 4 by omega) _) rfl in_Line 0 (by decide) wd_126 rfl rfl d_Line_joinNeighbours_88 rfl ?_
              refine mk_iloadn (nx := 92) X 5 d_Line_joinNeighbours_91 rfl rfl ?_
              refine mk_iald (nx := 93) (j := p) X (13 + 6 * v) 0 (by omega) (sh_Lnotes cs ad (show v < 4 by omega) _) rfl (by omega) (by omega) (by decide) rfl d_Line_joinNeighbours_92 rfl ?_
              rw [show J (13 + 6 * v) p = (cnt c v p : Int) from ((hI.1 (13 + 6 * v) p (by omega) (by omega)).trans ((hB p (by omega)).1))]
              refine mk_iald (nx := 94) (j := (cnt c v p)) X 2 0 (by decide) (sh_Spit cs ad _) rfl (by omega) (by omega) (by decide) rfl d_Line_joinNeighbours_93 rfl ?_
              rw [show J 2 (cnt c v p) = c 1 (cnt c v p) from ((hI.1 (2) (cnt c v p) (by omega) (by omega)).trans ((hm.2 (cnt c v p) (by omega)).1))]
              refine mk_iconst (nx := 95) X d_Line_joinNeighbours_94 rfl ?_
              refine mk_icmp_eq (tgt := 130) (nx := 98) X d_Line_joinNeighbours_95 (by omega) (by omega) (by decide) rfl (fun c95 => ?_) (fun c95 => ?_)
              · skip
                refine mk_iinc (nx := 133) X 5 [(3, .int (zi ((p : Int) + 1))), (5, .int (zi 1)), (4, .int (zi 0)), (0, .ref (ad (12 + 6 * v))), (1, .ref (ad 1)), (2, .int (zi cl))] d_Line_joinNeighbours_130 rfl (by decide) rfl rfl ?_
                refine mk_goto (tgt := 35) X d_Line_joinNeighbours_133 (by decide) ?_
                refine mk_lv [3, 4, 5, 0] rfl ?_
                exact ih35 (p + 1) cl J (by omega) (by omega) (by first | exact jn_init hn.2 hJA hJB | (exfalso; omega) | exact jn_no (jnd_f (by rw [nxp, if_pos (by omega)]; omega)) hI (by omega) (by omega) | exact jn_no (jnd_f (by rw [nxp, if_neg (by omega)]; omega)) hI (by omega) (by omega) | exact jn_yes (jnd_t (by omega) (by omega) (by rw [nxp, if_pos (by omega)]; omega)) hI (by omega) (by omega) (J1 := J) (by rw [nxp, if_pos (by omega)]; exact hJ) (by rw [nxp, if_pos (by omega)]; exact hJ) | exact jn_yes (jnd_t (by omega) (by omega) (by rw [nxp, if_neg (by omega)]; omega)) hI (by omega) (by omega) (J1 := J) (by rw [nxp, if_neg (by omega)]; exact hJ) (by rw [nxp, if_neg (by omega)]; exact hJ)) (by omega)
              · skip
                have hcl2 : ∀ q, q < cn c → cnt c v q < cn c ∧ -2 ≤ c 1 (cnt c v q) ∧ c 1 (cnt c v q) ≤ 127 := fun q hq => ⟨cnt_lt hq, (hw.2 (cnt c v q) (by have := cnt_lt (c := c) (v := v) hq; omega)).1⟩
                have hcl3 := hcl2 0 (by omega)
                have hcl4 : p + 1 < cn c → _ := fun h => hcl2 (p + 1) h
                refine mk_aloadn (nx := 99) X 3 d_Line_joinNeighbours_98 rfl rfl ?_
                refine mk_get (nx := 102) (v := .ref (ad 2)) X 1 (by decide) (sh_Subject cs ad _) rfl in_Subject 0 (by decide) wd_66 rfl rfl d_Line_joinNeighbours_99 rfl ?_
                refine mk_aloadn (nx := 103) X 2 d_Line_joinNeighbours_102 rfl rfl ?_
                refine mk_get (nx := 106) (v := .ref (ad (13 + 6 * v))) X (12 + 6 * v) (by omega) (sh_Line cs ad (show v < 4 by omega) _) rfl in_Line 0 (by decide) wd_126 rfl rfl d_Line_joinNeighbours_103 rfl ?_
                refine mk_iload (nx := 108) X 1 d_Line_joinNeighbours_106 rfl rfl ?_
                refine mk_iald (nx := 109) (j := 0) X (13 + 6 * v) 0 (by omega) (sh_Lnotes cs ad (show v < 4 by omega) _) rfl (by omega) (by omega) (by decide) rfl d_Line_joinNeighbours_108 rfl ?_
                rw [show J (13 + 6 * v) 0 = (cnt c v 0 : Int) from ((hI.1 (13 + 6 * v) 0 (by omega) (by omega)).trans ((hB 0 (by omega)).1))]
                refine mk_iald (nx := 110) (j := (cnt c v 0)) X 2 0 (by decide) (sh_Spit cs ad _) rfl (by omega) (by omega) (by decide) rfl d_Line_joinNeighbours_109 rfl ?_
                rw [show J 2 (cnt c v 0) = c 1 (cnt c v 0) from ((hI.1 (2) (cnt c v 0) (by omega) (by omega)).trans ((hm.2 (cnt c v 0) (by omega)).1))]
                refine mk_iconst (nx := 111) X d_Line_joinNeighbours_110 rfl ?_
                refine mk_icmp_eq (tgt := 130) (nx := 114) X d_Line_joinNeighbours_111 (by omega) (by omega) (by decide) rfl (fun c111 => ?_) (fun c111 => ?_)
                · skip
                  refine mk_iinc (nx := 133) X 5 [(3, .int (zi ((p : Int) + 1))), (5, .int (zi 1)), (4, .int (zi 0)), (0, .ref (ad (12 + 6 * v))), (1, .ref (ad 1)), (2, .int (zi cl))] d_Line_joinNeighbours_130 rfl (by decide) rfl rfl ?_
                  refine mk_goto (tgt := 35) X d_Line_joinNeighbours_133 (by decide) ?_
                  refine mk_lv [3, 4, 5, 0] rfl ?_
                  exact ih35 (p + 1) cl J (by omega) (by omega) (by first | exact jn_init hn.2 hJA hJB | (exfalso; omega) | exact jn_no (jnd_f (by rw [nxp, if_pos (by omega)]; omega)) hI (by omega) (by omega) | exact jn_no (jnd_f (by rw [nxp, if_neg (by omega)]; omega)) hI (by omega) (by omega) | exact jn_yes (jnd_t (by omega) (by omega) (by rw [nxp, if_pos (by omega)]; omega)) hI (by omega) (by omega) (J1 := J) (by rw [nxp, if_pos (by omega)]; exact hJ) (by rw [nxp, if_pos (by omega)]; exact hJ) | exact jn_yes (jnd_t (by omega) (by omega) (by rw [nxp, if_neg (by omega)]; omega)) hI (by omega) (by omega) (J1 := J) (by rw [nxp, if_neg (by omega)]; exact hJ) (by rw [nxp, if_neg (by omega)]; exact hJ)) (by omega)
                · skip
                  refine mk_aloadn (nx := 115) X 2 d_Line_joinNeighbours_114 rfl rfl ?_
                  refine mk_get (nx := 118) (v := .ref (ad (17 + 6 * v))) X (12 + 6 * v) (by omega) (sh_Line cs ad (show v < 4 by omega) _) rfl in_Line 4 (by decide) wd_136 rfl rfl d_Line_joinNeighbours_115 rfl ?_
                  refine mk_iloadn (nx := 119) X 5 d_Line_joinNeighbours_118 rfl rfl ?_
                  refine mk_iload (nx := 121) X 1 d_Line_joinNeighbours_119 rfl rfl ?_
                  refine mk_iast (nx := 122) (j := p) X (17 + 6 * v) 0 (by omega) (sh_Lbehind cs ad (show v < 4 by omega)) rfl (by omega) (by omega) (by decide) rfl d_Line_joinNeighbours_121 rfl ?_
                  obtain ⟨J1, hJ1⟩ : ∃ W_ : Wo, W_ = up2 J (17 + 6 * v) p 0 := ⟨_, rfl⟩
                  refine mk_same hJ1.symm ?_
                  have hJ1s : J1 (17 + 6 * v) p = 0 := hJ1 ▸ up2_ss J (17 + 6 * v) p 0
                  have hJ1o : ∀ a b, (a ≠ (17 + 6 * v) ∨ b ≠ p) → J1 a b = J a b := hJ1 ▸ up2_o J (17 + 6 * v) p 0
                  refine mk_aloadn (nx := 123) X 2 d_Line_joinNeighbours_122 rfl rfl ?_
                  refine mk_get (nx := 126) (v := .ref (ad (16 + 6 * v))) X (12 + 6 * v) (by omega) (sh_Line cs ad (show v < 4 by omega) _) rfl in_Line 3 (by decide) wd_133 rfl rfl d_Line_joinNeighbours_123 rfl ?_
                  refine mk_iload (nx := 128) X 1 d_Line_joinNeighbours_126 rfl rfl ?_
                  refine mk_iloadn (nx := 129) X 5 d_Line_joinNeighbours_128 rfl rfl ?_
                  refine mk_iast (nx := 130) (j := 0) X (16 + 6 * v) 0 (by omega) (sh_Lbefore cs ad (show v < 4 by omega)) rfl (by omega) (by omega) (by decide) rfl d_Line_joinNeighbours_129 rfl ?_
                  obtain ⟨J2, hJ2⟩ : ∃ W_ : Wo, W_ = up2 J1 (16 + 6 * v) 0 (p : Int) := ⟨_, rfl⟩
                  refine mk_same hJ2.symm ?_
                  have hJ2s : J2 (16 + 6 * v) 0 = (p : Int) := hJ2 ▸ up2_ss J1 (16 + 6 * v) 0 (p : Int)
                  have hJ2o : ∀ a b, (a ≠ (16 + 6 * v) ∨ b ≠ 0) → J2 a b = J1 a b := hJ2 ▸ up2_o J1 (16 + 6 * v) 0 (p : Int)
                  refine mk_iinc (nx := 133) X 5 [(3, .int (zi ((p : Int) + 1))), (5, .int (zi 1)), (4, .int (zi 0)), (0, .ref (ad (12 + 6 * v))), (1, .ref (ad 1)), (2, .int (zi cl))] d_Line_joinNeighbours_130 rfl (by decide) rfl rfl ?_
                  refine mk_goto (tgt := 35) X d_Line_joinNeighbours_133 (by decide) ?_
                  refine mk_lv [3, 4, 5, 0] rfl ?_
                  exact ih35 (p + 1) cl J2 (by omega) (by omega) (by first | exact jn_init hn.2 hJA hJB | (exfalso; omega) | exact jn_no (jnd_f (by rw [nxp, if_pos (by omega)]; omega)) hI (by omega) (by omega) | exact jn_no (jnd_f (by rw [nxp, if_neg (by omega)]; omega)) hI (by omega) (by omega) | exact jn_yes (jnd_t (by omega) (by omega) (by rw [nxp, if_pos (by omega)]; omega)) hI (by omega) (by omega) (J1 := J1) (by rw [nxp, if_pos (by omega)]; exact hJ1) (by rw [nxp, if_pos (by omega)]; exact hJ2) | exact jn_yes (jnd_t (by omega) (by omega) (by rw [nxp, if_neg (by omega)]; omega)) hI (by omega) (by omega) (J1 := J1) (by rw [nxp, if_neg (by omega)]; exact hJ1) (by rw [nxp, if_neg (by omega)]; exact hJ2)) (by omega)
          · skip
            refine mk_iloadn (nx := 68) X 3 d_Line_joinNeighbours_67 rfl rfl ?_
            refine mk_if_eq (tgt := 75) (nx := 71) X d_Line_joinNeighbours_68 (by omega) (by decide) rfl (fun c68 => ?_) (fun c68 => ?_)
            · skip
              refine mk_iconst (nx := 76) X d_Line_joinNeighbours_75 rfl ?_
              refine mk_istore (nx := 78) X [(5, .int (zi 0)), (4, .int (zi 0)), (0, .ref (ad (12 + 6 * v))), (1, .ref (ad 1)), (2, .int (zi cl)), (3, .int (zi (p : Int)))] d_Line_joinNeighbours_76 (by decide) rfl rfl ?_
              refine mk_iload (nx := 80) X 0 d_Line_joinNeighbours_78 rfl rfl ?_
              refine mk_if_eq (tgt := 130) (nx := 83) X d_Line_joinNeighbours_80 (by omega) (by decide) rfl (fun c80 => ?_) (fun c80 => ?_)
              · skip
                refine mk_iinc (nx := 133) X 5 [(3, .int (zi ((p : Int) + 1))), (5, .int (zi 0)), (4, .int (zi 0)), (0, .ref (ad (12 + 6 * v))), (1, .ref (ad 1)), (2, .int (zi cl))] d_Line_joinNeighbours_130 rfl (by decide) rfl rfl ?_
                refine mk_goto (tgt := 35) X d_Line_joinNeighbours_133 (by decide) ?_
                refine mk_lv [3, 4, 5, 0] rfl ?_
                exact ih35 (p + 1) cl J (by omega) (by omega) (by first | exact jn_init hn.2 hJA hJB | (exfalso; omega) | exact jn_no (jnd_f (by rw [nxp, if_pos (by omega)]; omega)) hI (by omega) (by omega) | exact jn_no (jnd_f (by rw [nxp, if_neg (by omega)]; omega)) hI (by omega) (by omega) | exact jn_yes (jnd_t (by omega) (by omega) (by rw [nxp, if_pos (by omega)]; omega)) hI (by omega) (by omega) (J1 := J) (by rw [nxp, if_pos (by omega)]; exact hJ) (by rw [nxp, if_pos (by omega)]; exact hJ) | exact jn_yes (jnd_t (by omega) (by omega) (by rw [nxp, if_neg (by omega)]; omega)) hI (by omega) (by omega) (J1 := J) (by rw [nxp, if_neg (by omega)]; exact hJ) (by rw [nxp, if_neg (by omega)]; exact hJ)) (by omega)
              · skip
                refine mk_aloadn (nx := 84) X 3 d_Line_joinNeighbours_83 rfl rfl ?_
                refine mk_get (nx := 87) (v := .ref (ad 2)) X 1 (by decide) (sh_Subject cs ad _) rfl in_Subject 0 (by decide) wd_66 rfl rfl d_Line_joinNeighbours_84 rfl ?_
                refine mk_aloadn (nx := 88) X 2 d_Line_joinNeighbours_87 rfl rfl ?_
                refine mk_get (nx := 91) (v := .ref (ad (13 + 6 * v))) X (12 + 6 * v) (by omega) (sh_Line cs ad (show v < 4 by omega) _) rfl in_Line 0 (by decide) wd_126 rfl rfl d_Line_joinNeighbours_88 rfl ?_
                refine mk_iloadn (nx := 92) X 5 d_Line_joinNeighbours_91 rfl rfl ?_
                refine mk_iald (nx := 93) (j := p) X (13 + 6 * v) 0 (by omega) (sh_Lnotes cs ad (show v < 4 by omega) _) rfl (by omega) (by omega) (by decide) rfl d_Line_joinNeighbours_92 rfl ?_
                rw [show J (13 + 6 * v) p = (cnt c v p : Int) from ((hI.1 (13 + 6 * v) p (by omega) (by omega)).trans ((hB p (by omega)).1))]
                refine mk_iald (nx := 94) (j := (cnt c v p)) X 2 0 (by decide) (sh_Spit cs ad _) rfl (by omega) (by omega) (by decide) rfl d_Line_joinNeighbours_93 rfl ?_
                rw [show J 2 (cnt c v p) = c 1 (cnt c v p) from ((hI.1 (2) (cnt c v p) (by omega) (by omega)).trans ((hm.2 (cnt c v p) (by omega)).1))]
                refine mk_iconst (nx := 95) X d_Line_joinNeighbours_94 rfl ?_
                refine mk_icmp_eq (tgt := 130) (nx := 98) X d_Line_joinNeighbours_95 (by omega) (by omega) (by decide) rfl (fun c95 => ?_) (fun c95 => ?_)
                · skip
                  refine mk_iinc (nx := 133) X 5 [(3, .int (zi ((p : Int) + 1))), (5, .int (zi 0)), (4, .int (zi 0)), (0, .ref (ad (12 + 6 * v))), (1, .ref (ad 1)), (2, .int (zi cl))] d_Line_joinNeighbours_130 rfl (by decide) rfl rfl ?_
                  refine mk_goto (tgt := 35) X d_Line_joinNeighbours_133 (by decide) ?_
                  refine mk_lv [3, 4, 5, 0] rfl ?_
                  exact ih35 (p + 1) cl J (by omega) (by omega) (by first | exact jn_init hn.2 hJA hJB | (exfalso; omega) | exact jn_no (jnd_f (by rw [nxp, if_pos (by omega)]; omega)) hI (by omega) (by omega) | exact jn_no (jnd_f (by rw [nxp, if_neg (by omega)]; omega)) hI (by omega) (by omega) | exact jn_yes (jnd_t (by omega) (by omega) (by rw [nxp, if_pos (by omega)]; omega)) hI (by omega) (by omega) (J1 := J) (by rw [nxp, if_pos (by omega)]; exact hJ) (by rw [nxp, if_pos (by omega)]; exact hJ) | exact jn_yes (jnd_t (by omega) (by omega) (by rw [nxp, if_neg (by omega)]; omega)) hI (by omega) (by omega) (J1 := J) (by rw [nxp, if_neg (by omega)]; exact hJ) (by rw [nxp, if_neg (by omega)]; exact hJ)) (by omega)
                · skip
                  have hcl2 : ∀ q, q < cn c → cnt c v q < cn c ∧ -2 ≤ c 1 (cnt c v q) ∧ c 1 (cnt c v q) ≤ 127 := fun q hq => ⟨cnt_lt hq, (hw.2 (cnt c v q) (by have := cnt_lt (c := c) (v := v) hq; omega)).1⟩
                  have hcl3 := hcl2 0 (by omega)
                  have hcl4 : p + 1 < cn c → _ := fun h => hcl2 (p + 1) h
                  refine mk_aloadn (nx := 99) X 3 d_Line_joinNeighbours_98 rfl rfl ?_
                  refine mk_get (nx := 102) (v := .ref (ad 2)) X 1 (by decide) (sh_Subject cs ad _) rfl in_Subject 0 (by decide) wd_66 rfl rfl d_Line_joinNeighbours_99 rfl ?_
                  refine mk_aloadn (nx := 103) X 2 d_Line_joinNeighbours_102 rfl rfl ?_
                  refine mk_get (nx := 106) (v := .ref (ad (13 + 6 * v))) X (12 + 6 * v) (by omega) (sh_Line cs ad (show v < 4 by omega) _) rfl in_Line 0 (by decide) wd_126 rfl rfl d_Line_joinNeighbours_103 rfl ?_
                  refine mk_iload (nx := 108) X 1 d_Line_joinNeighbours_106 rfl rfl ?_
                  refine mk_iald (nx := 109) (j := 0) X (13 + 6 * v) 0 (by omega) (sh_Lnotes cs ad (show v < 4 by omega) _) rfl (by omega) (by omega) (by decide) rfl d_Line_joinNeighbours_108 rfl ?_
                  rw [show J (13 + 6 * v) 0 = (cnt c v 0 : Int) from ((hI.1 (13 + 6 * v) 0 (by omega) (by omega)).trans ((hB 0 (by omega)).1))]
                  refine mk_iald (nx := 110) (j := (cnt c v 0)) X 2 0 (by decide) (sh_Spit cs ad _) rfl (by omega) (by omega) (by decide) rfl d_Line_joinNeighbours_109 rfl ?_
                  rw [show J 2 (cnt c v 0) = c 1 (cnt c v 0) from ((hI.1 (2) (cnt c v 0) (by omega) (by omega)).trans ((hm.2 (cnt c v 0) (by omega)).1))]
                  refine mk_iconst (nx := 111) X d_Line_joinNeighbours_110 rfl ?_
                  refine mk_icmp_eq (tgt := 130) (nx := 114) X d_Line_joinNeighbours_111 (by omega) (by omega) (by decide) rfl (fun c111 => ?_) (fun c111 => ?_)
                  · skip
                    refine mk_iinc (nx := 133) X 5 [(3, .int (zi ((p : Int) + 1))), (5, .int (zi 0)), (4, .int (zi 0)), (0, .ref (ad (12 + 6 * v))), (1, .ref (ad 1)), (2, .int (zi cl))] d_Line_joinNeighbours_130 rfl (by decide) rfl rfl ?_
                    refine mk_goto (tgt := 35) X d_Line_joinNeighbours_133 (by decide) ?_
                    refine mk_lv [3, 4, 5, 0] rfl ?_
                    exact ih35 (p + 1) cl J (by omega) (by omega) (by first | exact jn_init hn.2 hJA hJB | (exfalso; omega) | exact jn_no (jnd_f (by rw [nxp, if_pos (by omega)]; omega)) hI (by omega) (by omega) | exact jn_no (jnd_f (by rw [nxp, if_neg (by omega)]; omega)) hI (by omega) (by omega) | exact jn_yes (jnd_t (by omega) (by omega) (by rw [nxp, if_pos (by omega)]; omega)) hI (by omega) (by omega) (J1 := J) (by rw [nxp, if_pos (by omega)]; exact hJ) (by rw [nxp, if_pos (by omega)]; exact hJ) | exact jn_yes (jnd_t (by omega) (by omega) (by rw [nxp, if_neg (by omega)]; omega)) hI (by omega) (by omega) (J1 := J) (by rw [nxp, if_neg (by omega)]; exact hJ) (by rw [nxp, if_neg (by omega)]; exact hJ)) (by omega)
                  · skip
                    refine mk_aloadn (nx := 115) X 2 d_Line_joinNeighbours_114 rfl rfl ?_
                    refine mk_get (nx := 118) (v := .ref (ad (17 + 6 * v))) X (12 + 6 * v) (by omega) (sh_Line cs ad (show v < 4 by omega) _) rfl in_Line 4 (by decide) wd_136 rfl rfl d_Line_joinNeighbours_115 rfl ?_
                    refine mk_iloadn (nx := 119) X 5 d_Line_joinNeighbours_118 rfl rfl ?_
                    refine mk_iload (nx := 121) X 1 d_Line_joinNeighbours_119 rfl rfl ?_
                    refine mk_iast (nx := 122) (j := p) X (17 + 6 * v) 0 (by omega) (sh_Lbehind cs ad (show v < 4 by omega)) rfl (by omega) (by omega) (by decide) rfl d_Line_joinNeighbours_121 rfl ?_
                    obtain ⟨J3, hJ3⟩ : ∃ W_ : Wo, W_ = up2 J (17 + 6 * v) p 0 := ⟨_, rfl⟩
                    refine mk_same hJ3.symm ?_
                    have hJ3s : J3 (17 + 6 * v) p = 0 := hJ3 ▸ up2_ss J (17 + 6 * v) p 0
                    have hJ3o : ∀ a b, (a ≠ (17 + 6 * v) ∨ b ≠ p) → J3 a b = J a b := hJ3 ▸ up2_o J (17 + 6 * v) p 0
                    refine mk_aloadn (nx := 123) X 2 d_Line_joinNeighbours_122 rfl rfl ?_
                    refine mk_get (nx := 126) (v := .ref (ad (16 + 6 * v))) X (12 + 6 * v) (by omega) (sh_Line cs ad (show v < 4 by omega) _) rfl in_Line 3 (by decide) wd_133 rfl rfl d_Line_joinNeighbours_123 rfl ?_
                    refine mk_iload (nx := 128) X 1 d_Line_joinNeighbours_126 rfl rfl ?_
                    refine mk_iloadn (nx := 129) X 5 d_Line_joinNeighbours_128 rfl rfl ?_
                    refine mk_iast (nx := 130) (j := 0) X (16 + 6 * v) 0 (by omega) (sh_Lbefore cs ad (show v < 4 by omega)) rfl (by omega) (by omega) (by decide) rfl d_Line_joinNeighbours_129 rfl ?_
                    obtain ⟨J4, hJ4⟩ : ∃ W_ : Wo, W_ = up2 J3 (16 + 6 * v) 0 (p : Int) := ⟨_, rfl⟩
                    refine mk_same hJ4.symm ?_
                    have hJ4s : J4 (16 + 6 * v) 0 = (p : Int) := hJ4 ▸ up2_ss J3 (16 + 6 * v) 0 (p : Int)
                    have hJ4o : ∀ a b, (a ≠ (16 + 6 * v) ∨ b ≠ 0) → J4 a b = J3 a b := hJ4 ▸ up2_o J3 (16 + 6 * v) 0 (p : Int)
                    refine mk_iinc (nx := 133) X 5 [(3, .int (zi ((p : Int) + 1))), (5, .int (zi 0)), (4, .int (zi 0)), (0, .ref (ad (12 + 6 * v))), (1, .ref (ad 1)), (2, .int (zi cl))] d_Line_joinNeighbours_130 rfl (by decide) rfl rfl ?_
                    refine mk_goto (tgt := 35) X d_Line_joinNeighbours_133 (by decide) ?_
                    refine mk_lv [3, 4, 5, 0] rfl ?_
                    exact ih35 (p + 1) cl J4 (by omega) (by omega) (by first | exact jn_init hn.2 hJA hJB | (exfalso; omega) | exact jn_no (jnd_f (by rw [nxp, if_pos (by omega)]; omega)) hI (by omega) (by omega) | exact jn_no (jnd_f (by rw [nxp, if_neg (by omega)]; omega)) hI (by omega) (by omega) | exact jn_yes (jnd_t (by omega) (by omega) (by rw [nxp, if_pos (by omega)]; omega)) hI (by omega) (by omega) (J1 := J3) (by rw [nxp, if_pos (by omega)]; exact hJ3) (by rw [nxp, if_pos (by omega)]; exact hJ4) | exact jn_yes (jnd_t (by omega) (by omega) (by rw [nxp, if_neg (by omega)]; omega)) hI (by omega) (by omega) (J1 := J3) (by rw [nxp, if_neg (by omega)]; exact hJ3) (by rw [nxp, if_neg (by omega)]; exact hJ4)) (by omega)
            · skip
              refine mk_iconst (nx := 72) X d_Line_joinNeighbours_71 rfl ?_
              refine mk_goto (tgt := 76) X d_Line_joinNeighbours_72 (by decide) ?_
              refine mk_istore (nx := 78) X [(5, .int (zi 1)), (4, .int (zi 0)), (0, .ref (ad (12 + 6 * v))), (1, .ref (ad 1)), (2, .int (zi cl)), (3, .int (zi (p : Int)))] d_Line_joinNeighbours_76 (by decide) rfl rfl ?_
              refine mk_iload (nx := 80) X 0 d_Line_joinNeighbours_78 rfl rfl ?_
              refine mk_if_eq (tgt := 130) (nx := 83) X d_Line_joinNeighbours_80 (by omega) (by decide) rfl (fun c80 => ?_) (fun c80 => ?_)
              · skip
                refine mk_iinc (nx := 133) X 5 [(3, .int (zi ((p : Int) + 1))), (5, .int (zi 1)), (4, .int (zi 0)), (0, .ref (ad (12 + 6 * v))), (1, .ref (ad 1)), (2, .int (zi cl))] d_Line_joinNeighbours_130 rfl (by decide) rfl rfl ?_
                refine mk_goto (tgt := 35) X d_Line_joinNeighbours_133 (by decide) ?_
                refine mk_lv [3, 4, 5, 0] rfl ?_
                exact ih35 (p + 1) cl J (by omega) (by omega) (by first | exact jn_init hn.2 hJA hJB | (exfalso; omega) | exact jn_no (jnd_f (by rw [nxp, if_pos (by omega)]; omega)) hI (by omega) (by omega) | exact jn_no (jnd_f (by rw [nxp, if_neg (by omega)]; omega)) hI (by omega) (by omega) | exact jn_yes (jnd_t (by omega) (by omega) (by rw [nxp, if_pos (by omega)]; omega)) hI (by omega) (by omega) (J1 := J) (by rw [nxp, if_pos (by omega)]; exact hJ) (by rw [nxp, if_pos (by omega)]; exact hJ) | exact jn_yes (jnd_t (by omega) (by omega) (by rw [nxp, if_neg (by omega)]; omega)) hI (by omega) (by omega) (J1 := J) (by rw [nxp, if_neg (by omega)]; exact hJ) (by rw [nxp, if_neg (by omega)]; exact hJ)) (by omega)
              · skip
                refine mk_aloadn (nx := 84) X 3 d_Line_joinNeighbours_83 rfl rfl ?_
                refine mk_get (nx := 87) (v := .ref (ad 2)) X 1 (by decide) (sh_Subject cs ad _) rfl in_Subject 0 (by decide) wd_66 rfl rfl d_Line_joinNeighbours_84 rfl ?_
                refine mk_aloadn (nx := 88) X 2 d_Line_joinNeighbours_87 rfl rfl ?_
                refine mk_get (nx := 91) (v := .ref (ad (13 + 6 * v))) X (12 + 6 * v) (by omega) (sh_Line cs ad (show v < 4 by omega) _) rfl in_Line 0 (by decide) wd_126 rfl rfl d_Line_joinNeighbours_88 rfl ?_
                refine mk_iloadn (nx := 92) X 5 d_Line_joinNeighbours_91 rfl rfl ?_
                refine mk_iald (nx := 93) (j := p) X (13 + 6 * v) 0 (by omega) (sh_Lnotes cs ad (show v < 4 by omega) _) rfl (by omega) (by omega) (by decide) rfl d_Line_joinNeighbours_92 rfl ?_
                rw [show J (13 + 6 * v) p = (cnt c v p : Int) from ((hI.1 (13 + 6 * v) p (by omega) (by omega)).trans ((hB p (by omega)).1))]
                refine mk_iald (nx := 94) (j := (cnt c v p)) X 2 0 (by decide) (sh_Spit cs ad _) rfl (by omega) (by omega) (by decide) rfl d_Line_joinNeighbours_93 rfl ?_
                rw [show J 2 (cnt c v p) = c 1 (cnt c v p) from ((hI.1 (2) (cnt c v p) (by omega) (by omega)).trans ((hm.2 (cnt c v p) (by omega)).1))]
                refine mk_iconst (nx := 95) X d_Line_joinNeighbours_94 rfl ?_
                refine mk_icmp_eq (tgt := 130) (nx := 98) X d_Line_joinNeighbours_95 (by omega) (by omega) (by decide) rfl (fun c95 => ?_) (fun c95 => ?_)
                · skip
                  refine mk_iinc (nx := 133) X 5 [(3, .int (zi ((p : Int) + 1))), (5, .int (zi 1)), (4, .int (zi 0)), (0, .ref (ad (12 + 6 * v))), (1, .ref (ad 1)), (2, .int (zi cl))] d_Line_joinNeighbours_130 rfl (by decide) rfl rfl ?_
                  refine mk_goto (tgt := 35) X d_Line_joinNeighbours_133 (by decide) ?_
                  refine mk_lv [3, 4, 5, 0] rfl ?_
                  exact ih35 (p + 1) cl J (by omega) (by omega) (by first | exact jn_init hn.2 hJA hJB | (exfalso; omega) | exact jn_no (jnd_f (by rw [nxp, if_pos (by omega)]; omega)) hI (by omega) (by omega) | exact jn_no (jnd_f (by rw [nxp, if_neg (by omega)]; omega)) hI (by omega) (by omega) | exact jn_yes (jnd_t (by omega) (by omega) (by rw [nxp, if_pos (by omega)]; omega)) hI (by omega) (by omega) (J1 := J) (by rw [nxp, if_pos (by omega)]; exact hJ) (by rw [nxp, if_pos (by omega)]; exact hJ) | exact jn_yes (jnd_t (by omega) (by omega) (by rw [nxp, if_neg (by omega)]; omega)) hI (by omega) (by omega) (J1 := J) (by rw [nxp, if_neg (by omega)]; exact hJ) (by rw [nxp, if_neg (by omega)]; exact hJ)) (by omega)
                · skip
                  have hcl2 : ∀ q, q < cn c → cnt c v q < cn c ∧ -2 ≤ c 1 (cnt c v q) ∧ c 1 (cnt c v q) ≤ 127 := fun q hq => ⟨cnt_lt hq, (hw.2 (cnt c v q) (by have := cnt_lt (c := c) (v := v) hq; omega)).1⟩
                  have hcl3 := hcl2 0 (by omega)
                  have hcl4 : p + 1 < cn c → _ := fun h => hcl2 (p + 1) h
                  refine mk_aloadn (nx := 99) X 3 d_Line_joinNeighbours_98 rfl rfl ?_
                  refine mk_get (nx := 102) (v := .ref (ad 2)) X 1 (by decide) (sh_Subject cs ad _) rfl in_Subject 0 (by decide) wd_66 rfl rfl d_Line_joinNeighbours_99 rfl ?_
                  refine mk_aloadn (nx := 103) X 2 d_Line_joinNeighbours_102 rfl rfl ?_
                  refine mk_get (nx := 106) (v := .ref (ad (13 + 6 * v))) X (12 + 6 * v) (by omega) (sh_Line cs ad (show v < 4 by omega) _) rfl in_Line 0 (by decide) wd_126 rfl rfl d_Line_joinNeighbours_103 rfl ?_
                  refine mk_iload (nx := 108) X 1 d_Line_joinNeighbours_106 rfl rfl ?_
                  refine mk_iald (nx := 109) (j := 0) X (13 + 6 * v) 0 (by omega) (sh_Lnotes cs ad (show v < 4 by omega) _) rfl (by omega) (by omega) (by decide) rfl d_Line_joinNeighbours_108 rfl ?_
                  rw [show J (13 + 6 * v) 0 = (cnt c v 0 : Int) from ((hI.1 (13 + 6 * v) 0 (by omega) (by omega)).trans ((hB 0 (by omega)).1))]
                  refine mk_iald (nx := 110) (j := (cnt c v 0)) X 2 0 (by decide) (sh_Spit cs ad _) rfl (by omega) (by omega) (by decide) rfl d_Line_joinNeighbours_109 rfl ?_
                  rw [show J 2 (cnt c v 0) = c 1 (cnt c v 0) from ((hI.1 (2) (cnt c v 0) (by omega) (by omega)).trans ((hm.2 (cnt c v 0) (by omega)).1))]
                  refine mk_iconst (nx := 111) X d_Line_joinNeighbours_110 rfl ?_
                  refine mk_icmp_eq (tgt := 130) (nx := 114) X d_Line_joinNeighbours_111 (by omega) (by omega) (by decide) rfl (fun c111 => ?_) (fun c111 => ?_)
                  · skip
                    refine mk_iinc (nx := 133) X 5 [(3, .int (zi ((p : Int) + 1))), (5, .int (zi 1)), (4, .int (zi 0)), (0, .ref (ad (12 + 6 * v))), (1, .ref (ad 1)), (2, .int (zi cl))] d_Line_joinNeighbours_130 rfl (by decide) rfl rfl ?_
                    refine mk_goto (tgt := 35) X d_Line_joinNeighbours_133 (by decide) ?_
                    refine mk_lv [3, 4, 5, 0] rfl ?_
                    exact ih35 (p + 1) cl J (by omega) (by omega) (by first | exact jn_init hn.2 hJA hJB | (exfalso; omega) | exact jn_no (jnd_f (by rw [nxp, if_pos (by omega)]; omega)) hI (by omega) (by omega) | exact jn_no (jnd_f (by rw [nxp, if_neg (by omega)]; omega)) hI (by omega) (by omega) | exact jn_yes (jnd_t (by omega) (by omega) (by rw [nxp, if_pos (by omega)]; omega)) hI (by omega) (by omega) (J1 := J) (by rw [nxp, if_pos (by omega)]; exact hJ) (by rw [nxp, if_pos (by omega)]; exact hJ) | exact jn_yes (jnd_t (by omega) (by omega) (by rw [nxp, if_neg (by omega)]; omega)) hI (by omega) (by omega) (J1 := J) (by rw [nxp, if_neg (by omega)]; exact hJ) (by rw [nxp, if_neg (by omega)]; exact hJ)) (by omega)
                  · skip
                    refine mk_aloadn (nx := 115) X 2 d_Line_joinNeighbours_114 rfl rfl ?_
                    refine mk_get (nx := 118) (v := .ref (ad (17 + 6 * v))) X (12 + 6 * v) (by omega) (sh_Line cs ad (show v < 4 by omega) _) rfl in_Line 4 (by decide) wd_136 rfl rfl d_Line_joinNeighbours_115 rfl ?_
                    refine mk_iloadn (nx := 119) X 5 d_Line_joinNeighbours_118 rfl rfl ?_
                    refine mk_iload (nx := 121) X 1 d_Line_joinNeighbours_119 rfl rfl ?_
                    refine mk_iast (nx := 122) (j := p) X (17 + 6 * v) 0 (by omega) (sh_Lbehind cs ad (show v < 4 by omega)) rfl (by omega) (by omega) (by decide) rfl d_Line_joinNeighbours_121 rfl ?_
                    obtain ⟨J5, hJ5⟩ : ∃ W_ : Wo, W_ = up2 J (17 + 6 * v) p 0 := ⟨_, rfl⟩
                    refine mk_same hJ5.symm ?_
                    have hJ5s : J5 (17 + 6 * v) p = 0 := hJ5 ▸ up2_ss J (17 + 6 * v) p 0
                    have hJ5o : ∀ a b, (a ≠ (17 + 6 * v) ∨ b ≠ p) → J5 a b = J a b := hJ5 ▸ up2_o J (17 + 6 * v) p 0
                    refine mk_aloadn (nx := 123) X 2 d_Line_joinNeighbours_122 rfl rfl ?_
                    refine mk_get (nx := 126) (v := .ref (ad (16 + 6 * v))) X (12 + 6 * v) (by omega) (sh_Line cs ad (show v < 4 by omega) _) rfl in_Line 3 (by decide) wd_133 rfl rfl d_Line_joinNeighbours_123 rfl ?_
                    refine mk_iload (nx := 128) X 1 d_Line_joinNeighbours_126 rfl rfl ?_
                    refine mk_iloadn (nx := 129) X 5 d_Line_joinNeighbours_128 rfl rfl ?_
                    refine mk_iast (nx := 130) (j := 0) X (16 + 6 * v) 0 (by omega) (sh_Lbefore cs ad (show v < 4 by omega)) rfl (by omega) (by omega) (by decide) rfl d_Line_joinNeighbours_129 rfl ?_
                    obtain ⟨J6, hJ6⟩ : ∃ W_ : Wo, W_ = up2 J5 (16 + 6 * v) 0 (p : Int) := ⟨_, rfl⟩
                    refine mk_same hJ6.symm ?_
                    have hJ6s : J6 (16 + 6 * v) 0 = (p : Int) := hJ6 ▸ up2_ss J5 (16 + 6 * v) 0 (p : Int)
                    have hJ6o : ∀ a b, (a ≠ (16 + 6 * v) ∨ b ≠ 0) → J6 a b = J5 a b := hJ6 ▸ up2_o J5 (16 + 6 * v) 0 (p : Int)
                    refine mk_iinc (nx := 133) X 5 [(3, .int (zi ((p : Int) + 1))), (5, .int (zi 1)), (4, .int (zi 0)), (0, .ref (ad (12 + 6 * v))), (1, .ref (ad 1)), (2, .int (zi cl))] d_Line_joinNeighbours_130 rfl (by decide) rfl rfl ?_
                    refine mk_goto (tgt := 35) X d_Line_joinNeighbours_133 (by decide) ?_
                    refine mk_lv [3, 4, 5, 0] rfl ?_
                    exact ih35 (p + 1) cl J6 (by omega) (by omega) (by first | exact jn_init hn.2 hJA hJB | (exfalso; omega) | exact jn_no (jnd_f (by rw [nxp, if_pos (by omega)]; omega)) hI (by omega) (by omega) | exact jn_no (jnd_f (by rw [nxp, if_neg (by omega)]; omega)) hI (by omega) (by omega) | exact jn_yes (jnd_t (by omega) (by omega) (by rw [nxp, if_pos (by omega)]; omega)) hI (by omega) (by omega) (J1 := J5) (by rw [nxp, if_pos (by omega)]; exact hJ5) (by rw [nxp, if_pos (by omega)]; exact hJ6) | exact jn_yes (jnd_t (by omega) (by omega) (by rw [nxp, if_neg (by omega)]; omega)) hI (by omega) (by omega) (J1 := J5) (by rw [nxp, if_neg (by omega)]; exact hJ5) (by rw [nxp, if_neg (by omega)]; exact hJ6)) (by omega)
        · skip
          refine mk_iloadn (nx := 54) X 3 d_Line_joinNeighbours_53 rfl rfl ?_
          refine mk_iconst (nx := 55) X d_Line_joinNeighbours_54 rfl ?_
          refine mk_iadd (nx := 56) X d_Line_joinNeighbours_55 rfl ?_
          refine mk_goto (tgt := 60) X d_Line_joinNeighbours_56 (by decide) ?_
          refine mk_istore (nx := 62) X [(4, .int (zi ((p : Int) + 1))), (0, .ref (ad (12 + 6 * v))), (1, .ref (ad 1)), (2, .int (zi cl)), (3, .int (zi (p : Int)))] d_Line_joinNeighbours_60 (by decide) rfl rfl ?_
          refine mk_iload (nx := 64) X 0 d_Line_joinNeighbours_62 rfl rfl ?_
          refine mk_if_gt (tgt := 71) (nx := 67) X d_Line_joinNeighbours_64 (by omega) (by decide) rfl (fun c64 => ?_) (fun c64 => ?_)
          · skip
            refine mk_iconst (nx := 72) X d_Line_joinNeighbours_71 rfl ?_
            refine mk_goto (tgt := 76) X d_Line_joinNeighbours_72 (by decide) ?_
            refine mk_istore (nx := 78) X [(5, .int (zi 1)), (4, .int (zi ((p : Int) + 1))), (0, .ref (ad (12 + 6 * v))), (1, .ref (ad 1)), (2, .int (zi cl)), (3, .int (zi (p : Int)))] d_Line_joinNeighbours_76 (by decide) rfl rfl ?_
            refine mk_iload (nx := 80) X 0 d_Line_joinNeighbours_78 rfl rfl ?_
            refine mk_if_eq (tgt := 130) (nx := 83) X d_Line_joinNeighbours_80 (by omega) (by decide) rfl (fun c80 => ?_) (fun c80 => ?_)
            · skip
              refine mk_iinc (nx := 133) X 5 [(3, .int (zi ((p : Int) + 1))), (5, .int (zi 1)), (4, .int (zi ((p : Int) + 1))), (0, .ref (ad (12 + 6 * v))), (1, .ref (ad 1)), (2, .int (zi cl))] d_Line_joinNeighbours_130 rfl (by decide) rfl rfl ?_
              refine mk_goto (tgt := 35) X d_Line_joinNeighbours_133 (by decide) ?_
              refine mk_lv [3, 4, 5, 0] rfl ?_
              exact ih35 (p + 1) cl J (by omega) (by omega) (by first | exact jn_init hn.2 hJA hJB | (exfalso; omega) | exact jn_no (jnd_f (by rw [nxp, if_pos (by omega)]; omega)) hI (by omega) (by omega) | exact jn_no (jnd_f (by rw [nxp, if_neg (by omega)]; omega)) hI (by omega) (by omega) | exact jn_yes (jnd_t (by omega) (by omega) (by rw [nxp, if_pos (by omega)]; omega)) hI (by omega) (by omega) (J1 := J) (by rw [nxp, if_pos (by omega)]; exact hJ) (by rw [nxp, if_pos (by omega)]; exact hJ) | exact jn_yes (jnd_t (by omega) (by omega) (by rw [nxp, if_neg (by omega)]; omega)) hI (by omega) (by omega) (J1 := J) (by rw [nxp, if_neg (by omega)]; exact hJ) (by rw [nxp, if_neg (by omega)]; exact hJ)) (by omega)
            · skip
              refine mk_aloadn (nx := 84) X 3 d_Line_joinNeighbours_83 rfl rfl ?_
              refine mk_get (nx := 87) (v := .ref (ad 2)) X 1 (by decide) (sh_Subject cs ad _) rfl in_Subject 0 (by decide) wd_66 rfl rfl d_Line_joinNeighbours_84 rfl ?_
              refine mk_aloadn (nx := 88) X 2 d_Line_joinNeighbours_87 rfl rfl ?_
              refine mk_get (nx := 91) (v := .ref (ad (13 + 6 * v))) X (12 + 6 * v) (by omega) (sh_Line cs ad (show v < 4 by omega) _) rfl in_Line 0 (by decide) wd_126 rfl rfl d_Line_joinNeighbours_88 rfl ?_
              refine mk_iloadn (nx := 92) X 5 d_Line_joinNeighbours_91 rfl rfl ?_
              refine mk_iald (nx := 93) (j := p) X (13 + 6 * v) 0 (by omega) (sh_Lnotes cs ad (show v < 4 by omega) _) rfl (by omega) (by omega) (by decide) rfl d_Line_joinNeighbours_92 rfl ?_
              rw [show J (13 + 6 * v) p = (cnt c v p : Int) from ((hI.1 (13 + 6 * v) p (by omega) (by omega)).trans ((hB p (by omega)).1))]
              refine mk_iald (nx := 94) (j := (cnt c v p)) X 2 0 (by decide) (sh_Spit cs ad _) rfl (by omega) (by omega) (by decide) rfl d_Line_joinNeighbours_93 rfl ?_
              rw [show J 2 (cnt c v p) = c 1 (cnt c v p) from ((hI.1 (2) (cnt c v p) (by omega) (by omega)).trans ((hm.2 (cnt c v p) (by omega)).1))]
              refine mk_iconst (nx := 95) X d_Line_joinNeighbours_94 rfl ?_
              refine mk_icmp_eq (tgt := 130) (nx := 98) X d_Line_joinNeighbours_95 (by omega) (by omega) (by decide) rfl (fun c95 => ?_) (fun c95 => ?_)
              · skip
                refine mk_iinc (nx := 133) X 5 [(3, .int (zi ((p : Int) + 1))), (5, .int (zi 1)), (4, .int (zi ((p : Int) + 1))), (0, .ref (ad (12 + 6 * v))), (1, .ref (ad 1)), (2, .int (zi cl))] d_Line_joinNeighbours_130 rfl (by decide) rfl rfl ?_
                refine mk_goto (tgt := 35) X d_Line_joinNeighbours_133 (by decide) ?_
                refine mk_lv [3, 4, 5, 0] rfl ?_
                exact ih35 (p + 1) cl J (by omega) (by omega) (by first | exact jn_init hn.2 hJA hJB | (exfalso; omega) | exact jn_no (jnd_f (by rw [nxp, if_pos (by omega)]; omega)) hI (by omega) (by omega) | exact jn_no (jnd_f (by rw [nxp, if_neg (by omega)]; omega)) hI (by omega) (by omega) | exact jn_yes (jnd_t (by omega) (by omega) (by rw [nxp, if_pos (by omega)]; omega)) hI (by omega) (by omega) (J1 := J) (by rw [nxp, if_pos (by omega)]; exact hJ) (by rw [nxp, if_pos (by omega)]; exact hJ) | exact jn_yes (jnd_t (by omega) (by omega) (by rw [nxp, if_neg (by omega)]; omega)) hI (by omega) (by omega) (J1 := J) (by rw [nxp, if_neg (by omega)]; exact hJ) (by rw [nxp, if_neg (by omega)]; exact hJ)) (by omega)
              · skip
                have hcl2 : ∀ q, q < cn c → cnt c v q < cn c ∧ -2 ≤ c 1 (cnt c v q) ∧ c 1 (cnt c v q) ≤ 127 := fun q hq => ⟨cnt_lt hq, (hw.2 (cnt c v q) (by have := cnt_lt (c := c) (v := v) hq; omega)).1⟩
                have hcl3 := hcl2 0 (by omega)
                have hcl4 : p + 1 < cn c → _ := fun h => hcl2 (p + 1) h
                refine mk_aloadn (nx := 99) X 3 d_Line_joinNeighbours_98 rfl rfl ?_
                refine mk_get (nx := 102) (v := .ref (ad 2)) X 1 (by decide) (sh_Subject cs ad _) rfl in_Subject 0 (by decide) wd_66 rfl rfl d_Line_joinNeighbours_99 rfl ?_
                refine mk_aloadn (nx := 103) X 2 d_Line_joinNeighbours_102 rfl rfl ?_
                refine mk_get (nx := 106) (v := .ref (ad (13 + 6 * v))) X (12 + 6 * v) (by omega) (sh_Line cs ad (show v < 4 by omega) _) rfl in_Line 0 (by decide) wd_126 rfl rfl d_Line_joinNeighbours_103 rfl ?_
                refine mk_iload (nx := 108) X 1 d_Line_joinNeighbours_106 rfl rfl ?_
                refine mk_iald (nx := 109) (j := (p + 1)) X (13 + 6 * v) 0 (by omega) (sh_Lnotes cs ad (show v < 4 by omega) _) rfl (by omega) (by omega) (by decide) rfl d_Line_joinNeighbours_108 rfl ?_
                rw [show J (13 + 6 * v) (p + 1) = (cnt c v (p + 1) : Int) from ((hI.1 (13 + 6 * v) (p + 1) (by omega) (by omega)).trans ((hB (p + 1) (by omega)).1))]
                refine mk_iald (nx := 110) (j := (cnt c v (p + 1))) X 2 0 (by decide) (sh_Spit cs ad _) rfl (by omega) (by omega) (by decide) rfl d_Line_joinNeighbours_109 rfl ?_
                rw [show J 2 (cnt c v (p + 1)) = c 1 (cnt c v (p + 1)) from ((hI.1 (2) (cnt c v (p + 1)) (by omega) (by omega)).trans ((hm.2 (cnt c v (p + 1)) (by omega)).1))]
                refine mk_iconst (nx := 111) X d_Line_joinNeighbours_110 rfl ?_
                refine mk_icmp_eq (tgt := 130) (nx := 114) X d_Line_joinNeighbours_111 (by omega) (by omega) (by decide) rfl (fun c111 => ?_) (fun c111 => ?_)
                · skip
                  refine mk_iinc (nx := 133) X 5 [(3, .int (zi ((p : Int) + 1))), (5, .int (zi 1)), (4, .int (zi ((p : Int) + 1))), (0, .ref (ad (12 + 6 * v))), (1, .ref (ad 1)), (2, .int (zi cl))] d_Line_joinNeighbours_130 rfl (by decide) rfl rfl ?_
                  refine mk_goto (tgt := 35) X d_Line_joinNeighbours_133 (by decide) ?_
                  refine mk_lv [3, 4, 5, 0] rfl ?_
                  exact ih35 (p + 1) cl J (by omega) (by omega) (by first | exact jn_init hn.2 hJA hJB | (exfalso; omega) | exact jn_no (jnd_f (by rw [nxp, if_pos (by omega)]; omega)) hI (by omega) (by omega) | exact jn_no (jnd_f (by rw [nxp, if_neg (by omega)]; omega)) hI (by omega) (by omega) | exact jn_yes (jnd_t (by omega) (by omega) (by rw [nxp, if_pos (by omega)]; omega)) hI (by omega) (by omega) (J1 := J) (by rw [nxp, if_pos (by omega)]; exact hJ) (by rw [nxp, if_pos (by omega)]; exact hJ) | exact jn_yes (jnd_t (by omega) (by omega) (by rw [nxp, if_neg (by omega)]; omega)) hI (by omega) (by omega) (J1 := J) (by rw [nxp, if_neg (by omega)]; exact hJ) (by rw [nxp, if_neg (by omega)]; exact hJ)) (by omega)
                · skip
                  refine mk_aloadn (nx := 115) X 2 d_Line_joinNeighbours_114 rfl rfl ?_
                  refine mk_get (nx := 118) (v := .ref (ad (17 + 6 * v))) X (12 + 6 * v) (by omega) (sh_Line cs ad (show v < 4 by omega) _) rfl in_Line 4 (by decide) wd_136 rfl rfl d_Line_joinNeighbours_115 rfl ?_
                  refine mk_iloadn (nx := 119) X 5 d_Line_joinNeighbours_118 rfl rfl ?_
                  refine mk_iload (nx := 121) X 1 d_Line_joinNeighbours_119 rfl rfl ?_
                  refine mk_iast (nx := 122) (j := p) X (17 + 6 * v) 0 (by omega) (sh_Lbehind cs ad (show v < 4 by omega)) rfl (by omega) (by omega) (by decide) rfl d_Line_joinNeighbours_121 rfl ?_
                  obtain ⟨J7, hJ7⟩ : ∃ W_ : Wo, W_ = up2 J (17 + 6 * v) p ((p : Int) + 1) := ⟨_, rfl⟩
                  refine mk_same hJ7.symm ?_
                  have hJ7s : J7 (17 + 6 * v) p = (p : Int) + 1 := hJ7 ▸ up2_ss J (17 + 6 * v) p ((p : Int) + 1)
                  have hJ7o : ∀ a b, (a ≠ (17 + 6 * v) ∨ b ≠ p) → J7 a b = J a b := hJ7 ▸ up2_o J (17 + 6 * v) p ((p : Int) + 1)
                  refine mk_aloadn (nx := 123) X 2 d_Line_joinNeighbours_122 rfl rfl ?_
                  refine mk_get (nx := 126) (v := .ref (ad (16 + 6 * v))) X (12 + 6 * v) (by omega) (sh_Line cs ad (show v < 4 by omega) _) rfl in_Line 3 (by decide) wd_133 rfl rfl d_Line_joinNeighbours_123 rfl ?_
                  refine mk_iload (nx := 128) X 1 d_Line_joinNeighbours_126 rfl rfl ?_
                  refine mk_iloadn (nx := 129) X 5 d_Line_joinNeighbours_128 rfl rfl ?_
                  refine mk_iast (nx := 130) (j := (p + 1)) X (16 + 6 * v) 0 (by omega) (sh_Lbefore cs ad (show v < 4 by omega)) rfl (by omega) (by omega) (by decide) rfl d_Line_joinNeighbours_129 rfl ?_
                  obtain ⟨J8, hJ8⟩ : ∃ W_ : Wo, W_ = up2 J7 (16 + 6 * v) (p + 1) (p : Int) := ⟨_, rfl⟩
                  refine mk_same hJ8.symm ?_
                  have hJ8s : J8 (16 + 6 * v) (p + 1) = (p : Int) := hJ8 ▸ up2_ss J7 (16 + 6 * v) (p + 1) (p : Int)
                  have hJ8o : ∀ a b, (a ≠ (16 + 6 * v) ∨ b ≠ (p + 1)) → J8 a b = J7 a b := hJ8 ▸ up2_o J7 (16 + 6 * v) (p + 1) (p : Int)
                  refine mk_iinc (nx := 133) X 5 [(3, .int (zi ((p : Int) + 1))), (5, .int (zi 1)), (4, .int (zi ((p : Int) + 1))), (0, .ref (ad (12 + 6 * v))), (1, .ref (ad 1)), (2, .int (zi cl))] d_Line_joinNeighbours_130 rfl (by decide) rfl rfl ?_
                  refine mk_goto (tgt := 35) X d_Line_joinNeighbours_133 (by decide) ?_
                  refine mk_lv [3, 4, 5, 0] rfl ?_
                  exact ih35 (p + 1) cl J8 (by omega) (by omega) (by first | exact jn_init hn.2 hJA hJB | (exfalso; omega) | exact jn_no (jnd_f (by rw [nxp, if_pos (by omega)]; omega)) hI (by omega) (by omega) | exact jn_no (jnd_f (by rw [nxp, if_neg (by omega)]; omega)) hI (by omega) (by omega) | exact jn_yes (jnd_t (by omega) (by omega) (by rw [nxp, if_pos (by omega)]; omega)) hI (by omega) (by omega) (J1 := J7) (by rw [nxp, if_pos (by omega)]; exact hJ7) (by rw [nxp, if_pos (by omega)]; exact hJ8) | exact jn_yes (jnd_t (by omega) (by omega) (by rw [nxp, if_neg (by omega)]; omega)) hI (by omega) (by omega) (J1 := J7) (by rw [nxp, if_neg (by omega)]; exact hJ7) (by rw [nxp, if_neg (by omega)]; exact hJ8)) (by omega)
          · skip
            refine mk_iloadn (nx := 68) X 3 d_Line_joinNeighbours_67 rfl rfl ?_
            refine mk_if_eq (tgt := 75) (nx := 71) X d_Line_joinNeighbours_68 (by omega) (by decide) rfl (fun c68 => ?_) (fun c68 => ?_)
            · skip
              refine mk_iconst (nx := 76) X d_Line_joinNeighbours_75 rfl ?_
              refine mk_istore (nx := 78) X [(5, .int (zi 0)), (4, .int (zi ((p : Int) + 1))), (0, .ref (ad (12 + 6 * v))), (1, .ref (ad 1)), (2, .int (zi cl)), (3, .int (zi (p : Int)))] d_Line_joinNeighbours_76 (by decide) rfl rfl ?_
              refine mk_iload (nx := 80) X 0 d_Line_joinNeighbours_78 rfl rfl ?_
              refine mk_if_eq (tgt := 130) (nx := 83) X d_Line_joinNeighbours_80 (by omega) (by decide) rfl (fun c80 => ?_) (fun c80 => ?_)
              · skip
                refine mk_iinc (nx := 133) X 5 [(3, .int (zi ((p : Int) + 1))), (5, .int (zi 0)), (4, .int (zi ((p : Int) + 1))), (0, .ref (ad (12 + 6 * v))), (1, .ref (ad 1)), (2, .int (zi cl))] d_Line_joinNeighbours_130 rfl (by decide) rfl rfl ?_
                refine mk_goto (tgt := 35) X d_Line_joinNeighbours_133 (by decide) ?_
                refine mk_lv [3, 4, 5, 0] rfl ?_
                exact ih35 (p + 1) cl J (by omega) (by omega) (by first | exact jn_init hn.2 hJA hJB | (exfalso; omega) | exact jn_no (jnd_f (by rw [nxp, if_pos (by omega)]; omega)) hI (by omega) (by omega) | exact jn_no (jnd_f (by rw [nxp, if_neg (by omega)]; omega)) hI (by omega) (by omega) | exact jn_yes (jnd_t (by omega) (by omega) (by rw [nxp, if_pos (by omega)]; omega)) hI (by omega) (by omega) (J1 := J) (by rw [nxp, if_pos (by omega)]; exact hJ) (by rw [nxp, if_pos (by omega)]; exact hJ) | exact jn_yes (jnd_t (by omega) (by omega) (by rw [nxp, if_neg (by omega)]; omega)) hI (by omega) (by omega) (J1 := J) (by rw [nxp, if_neg (by omega)]; exact hJ) (by rw [nxp, if_neg (by omega)]; exact hJ)) (by omega)
              · skip
                refine mk_aloadn (nx := 84) X 3 d_Line_joinNeighbours_83 rfl rfl ?_
                refine mk_get (nx := 87) (v := .ref (ad 2)) X 1 (by decide) (sh_Subject cs ad _) rfl in_Subject 0 (by decide) wd_66 rfl rfl d_Line_joinNeighbours_84 rfl ?_
                refine mk_aloadn (nx := 88) X 2 d_Line_joinNeighbours_87 rfl rfl ?_
                refine mk_get (nx := 91) (v := .ref (ad (13 + 6 * v))) X (12 + 6 * v) (by omega) (sh_Line cs ad (show v < 4 by omega) _) rfl in_Line 0 (by decide) wd_126 rfl rfl d_Line_joinNeighbours_88 rfl ?_
                refine mk_iloadn (nx := 92) X 5 d_Line_joinNeighbours_91 rfl rfl ?_
                refine mk_iald (nx := 93) (j := p) X (13 + 6 * v) 0 (by omega) (sh_Lnotes cs ad (show v < 4 by omega) _) rfl (by omega) (by omega) (by decide) rfl d_Line_joinNeighbours_92 rfl ?_
                rw [show J (13 + 6 * v) p = (cnt c v p : Int) from ((hI.1 (13 + 6 * v) p (by omega) (by omega)).trans ((hB p (by omega)).1))]
                refine mk_iald (nx := 94) (j := (cnt c v p)) X 2 0 (by decide) (sh_Spit cs ad _) rfl (by omega) (by omega) (by decide) rfl d_Line_joinNeighbours_93 rfl ?_
                rw [show J 2 (cnt c v p) = c 1 (cnt c v p) from ((hI.1 (2) (cnt c v p) (by omega) (by omega)).trans ((hm.2 (cnt c v p) (by omega)).1))]
                refine mk_iconst (nx := 95) X d_Line_joinNeighbours_94 rfl ?_
                refine mk_icmp_eq (tgt := 130) (nx := 98) X d_Line_joinNeighbours_95 (by omega) (by omega) (by decide) rfl (fun c95 => ?_) (fun c95 => ?_)
                · skip
                  refine mk_iinc (nx := 133) X 5 [(3, .int (zi ((p : Int) + 1))), (5, .int (zi 0)), (4, .int (zi ((p : Int) + 1))), (0, .ref (ad (12 + 6 * v))), (1, .ref (ad 1)), (2, .int (zi cl))] d_Line_joinNeighbours_130 rfl (by decide) rfl rfl ?_
                  refine mk_goto (tgt := 35) X d_Line_joinNeighbours_133 (by decide) ?_
                  refine mk_lv [3, 4, 5, 0] rfl ?_
                  exact ih35 (p + 1) cl J (by omega) (by omega) (by first | exact jn_init hn.2 hJA hJB | (exfalso; omega) | exact jn_no (jnd_f (by rw [nxp, if_pos (by omega)]; omega)) hI (by omega) (by omega) | exact jn_no (jnd_f (by rw [nxp, if_neg (by omega)]; omega)) hI (by omega) (by omega) | exact jn_yes (jnd_t (by omega) (by omega) (by rw [nxp, if_pos (by omega)]; omega)) hI (by omega) (by omega) (J1 := J) (by rw [nxp, if_pos (by omega)]; exact hJ) (by rw [nxp, if_pos (by omega)]; exact hJ) | exact jn_yes (jnd_t (by omega) (by omega) (by rw [nxp, if_neg (by omega)]; omega)) hI (by omega) (by omega) (J1 := J) (by rw [nxp, if_neg (by omega)]; exact hJ) (by rw [nxp, if_neg (by omega)]; exact hJ)) (by omega)
                · skip
                  have hcl2 : ∀ q, q < cn c → cnt c v q < cn c ∧ -2 ≤ c 1 (cnt c v q) ∧ c 1 (cnt c v q) ≤ 127 := fun q hq => ⟨cnt_lt hq, (hw.2 (cnt c v q) (by have := cnt_lt (c := c) (v := v) hq; omega)).1⟩
                  have hcl3 := hcl2 0 (by omega)
                  have hcl4 : p + 1 < cn c → _ := fun h => hcl2 (p + 1) h
                  refine mk_aloadn (nx := 99) X 3 d_Line_joinNeighbours_98 rfl rfl ?_
                  refine mk_get (nx := 102) (v := .ref (ad 2)) X 1 (by decide) (sh_Subject cs ad _) rfl in_Subject 0 (by decide) wd_66 rfl rfl d_Line_joinNeighbours_99 rfl ?_
                  refine mk_aloadn (nx := 103) X 2 d_Line_joinNeighbours_102 rfl rfl ?_
                  refine mk_get (nx := 106) (v := .ref (ad (13 + 6 * v))) X (12 + 6 * v) (by omega) (sh_Line cs ad (show v < 4 by omega) _) rfl in_Line 0 (by decide) wd_126 rfl rfl d_Line_joinNeighbours_103 rfl ?_
                  refine mk_iload (nx := 108) X 1 d_Line_joinNeighbours_106 rfl rfl ?_
                  refine mk_iald (nx := 109) (j := (p + 1)) X (13 + 6 * v) 0 (by omega) (sh_Lnotes cs ad (show v < 4 by omega) _) rfl (by omega) (by omega) (by decide) rfl d_Line_joinNeighbours_108 rfl ?_
                  rw [show J (13 + 6 * v) (p + 1) = (cnt c v (p + 1) : Int) from ((hI.1 (13 + 6 * v) (p + 1) (by omega) (by omega)).trans ((hB (p + 1) (by omega)).1))]
                  refine mk_iald (nx := 110) (j := (cnt c v (p + 1))) X 2 0 (by decide) (sh_Spit cs ad _) rfl (by omega) (by omega) (by decide) rfl d_Line_joinNeighbours_109 rfl ?_
                  rw [show J 2 (cnt c v (p + 1)) = c 1 (cnt c v (p + 1)) from ((hI.1 (2) (cnt c v (p + 1)) (by omega) (by omega)).trans ((hm.2 (cnt c v (p + 1)) (by omega)).1))]
                  refine mk_iconst (nx := 111) X d_Line_joinNeighbours_110 rfl ?_
                  refine mk_icmp_eq (tgt := 130) (nx := 114) X d_Line_joinNeighbours_111 (by omega) (by omega) (by decide) rfl (fun c111 => ?_) (fun c111 => ?_)
                  · skip
                    refine mk_iinc (nx := 133) X 5 [(3, .int (zi ((p : Int) + 1))), (5, .int (zi 0)), (4, .int (zi ((p : Int) + 1))), (0, .ref (ad (12 + 6 * v))), (1, .ref (ad 1)), (2, .int (zi cl))] d_Line_joinNeighbours_130 rfl (by decide) rfl rfl ?_
                    refine mk_goto (tgt := 35) X d_Line_joinNeighbours_133 (by decide) ?_
                    refine mk_lv [3, 4, 5, 0] rfl ?_
                    exact ih35 (p + 1) cl J (by omega) (by omega) (by first | exact jn_init hn.2 hJA hJB | (exfalso; omega) | exact jn_no (jnd_f (by rw [nxp, if_pos (by omega)]; omega)) hI (by omega) (by omega) | exact jn_no (jnd_f (by rw [nxp, if_neg (by omega)]; omega)) hI (by omega) (by omega) | exact jn_yes (jnd_t (by omega) (by omega) (by rw [nxp, if_pos (by omega)]; omega)) hI (by omega) (by omega) (J1 := J) (by rw [nxp, if_pos (by omega)]; exact hJ) (by rw [nxp, if_pos (by omega)]; exact hJ) | exact jn_yes (jnd_t (by omega) (by omega) (by rw [nxp, if_neg (by omega)]; omega)) hI (by omega) (by omega) (J1 := J) (by rw [nxp, if_neg (by omega)]; exact hJ) (by rw [nxp, if_neg (by omega)]; exact hJ)) (by omega)
                  · skip
                    refine mk_aloadn (nx := 115) X 2 d_Line_joinNeighbours_114 rfl rfl ?_
                    refine mk_get (nx := 118) (v := .ref (ad (17 + 6 * v))) X (12 + 6 * v) (by omega) (sh_Line cs ad (show v < 4 by omega) _) rfl in_Line 4 (by decide) wd_136 rfl rfl d_Line_joinNeighbours_115 rfl ?_
                    refine mk_iloadn (nx := 119) X 5 d_Line_joinNeighbours_118 rfl rfl ?_
                    refine mk_iload (nx := 121) X 1 d_Line_joinNeighbours_119 rfl rfl ?_
                    refine mk_iast (nx := 122) (j := p) X (17 + 6 * v) 0 (by omega) (sh_Lbehind cs ad (show v < 4 by omega)) rfl (by omega) (by omega) (by decide) rfl d_Line_joinNeighbours_121 rfl ?_
                    obtain ⟨J9, hJ9⟩ : ∃ W_ : Wo, W_ = up2 J (17 + 6 * v) p ((p : Int) + 1) := ⟨_, rfl⟩
                    refine mk_same hJ9.symm ?_
                    have hJ9s : J9 (17 + 6 * v) p = (p : Int) + 1 := hJ9 ▸ up2_ss J (17 + 6 * v) p ((p : Int) + 1)
                    have hJ9o : ∀ a b, (a ≠ (17 + 6 * v) ∨ b ≠ p) → J9 a b = J a b := hJ9 ▸ up2_o J (17 + 6 * v) p ((p : Int) + 1)
                    refine mk_aloadn (nx := 123) X 2 d_Line_joinNeighbours_122 rfl rfl ?_
                    refine mk_get (nx := 126) (v := .ref (ad (16 + 6 * v))) X (12 + 6 * v) (by omega) (sh_Line cs ad (show v < 4 by omega) _) rfl in_Line 3 (by decide) wd_133 rfl rfl d_Line_joinNeighbours_123 rfl ?_
                    refine mk_iload (nx := 128) X 1 d_Line_joinNeighbours_126 rfl rfl ?_
                    refine mk_iloadn (nx := 129) X 5 d_Line_joinNeighbours_128 rfl rfl ?_
                    refine mk_iast (nx := 130) (j := (p + 1)) X (16 + 6 * v) 0 (by omega) (sh_Lbefore cs ad (show v < 4 by omega)) rfl (by omega) (by omega) (by decide) rfl d_Line_joinNeighbours_129 rfl ?_
                    obtain ⟨J10, hJ10⟩ : ∃ W_ : Wo, W_ = up2 J9 (16 + 6 * v) (p + 1) (p : Int) := ⟨_, rfl⟩
                    refine mk_same hJ10.symm ?_
                    have hJ10s : J10 (16 + 6 * v) (p + 1) = (p : Int) := hJ10 ▸ up2_ss J9 (16 + 6 * v) (p + 1) (p : Int)
                    have hJ10o : ∀ a b, (a ≠ (16 + 6 * v) ∨ b ≠ (p + 1)) → J10 a b = J9 a b := hJ10 ▸ up2_o J9 (16 + 6 * v) (p + 1) (p : Int)
                    refine mk_iinc (nx := 133) X 5 [(3, .int (zi ((p : Int) + 1))), (5, .int (zi 0)), (4, .int (zi ((p : Int) + 1))), (0, .ref (ad (12 + 6 * v))), (1, .ref (ad 1)), (2, .int (zi cl))] d_Line_joinNeighbours_130 rfl (by decide) rfl rfl ?_
                    refine mk_goto (tgt := 35) X d_Line_joinNeighbours_133 (by decide) ?_
                    refine mk_lv [3, 4, 5, 0] rfl ?_
                    exact ih35 (p + 1) cl J10 (by omega) (by omega) (by first | exact jn_init hn.2 hJA hJB | (exfalso; omega) | exact jn_no (jnd_f (by rw [nxp, if_pos (by omega)]; omega)) hI (by omega) (by omega) | exact jn_no (jnd_f (by rw [nxp, if_neg (by omega)]; omega)) hI (by omega) (by omega) | exact jn_yes (jnd_t (by omega) (by omega) (by rw [nxp, if_pos (by omega)]; omega)) hI (by omega) (by omega) (J1 := J9) (by rw [nxp, if_pos (by omega)]; exact hJ9) (by rw [nxp, if_pos (by omega)]; exact hJ10) | exact jn_yes (jnd_t (by omega) (by omega) (by rw [nxp, if_neg (by omega)]; omega)) hI (by omega) (by omega) (J1 := J9) (by rw [nxp, if_neg (by omega)]; exact hJ9) (by rw [nxp, if_neg (by omega)]; exact hJ10)) (by omega)
            · skip
              refine mk_iconst (nx := 72) X d_Line_joinNeighbours_71 rfl ?_
              refine mk_goto (tgt := 76) X d_Line_joinNeighbours_72 (by decide) ?_
              refine mk_istore (nx := 78) X [(5, .int (zi 1)), (4, .int (zi ((p : Int) + 1))), (0, .ref (ad (12 + 6 * v))), (1, .ref (ad 1)), (2, .int (zi cl)), (3, .int (zi (p : Int)))] d_Line_joinNeighbours_76 (by decide) rfl rfl ?_
              refine mk_iload (nx := 80) X 0 d_Line_joinNeighbours_78 rfl rfl ?_
              refine mk_if_eq (tgt := 130) (nx := 83) X d_Line_joinNeighbours_80 (by omega) (by decide) rfl (fun c80 => ?_) (fun c80 => ?_)
              · skip
                refine mk_iinc (nx := 133) X 5 [(3, .int (zi ((p : Int) + 1))), (5, .int (zi 1)), (4, .int (zi ((p : Int) + 1))), (0, .ref (ad (12 + 6 * v))), (1, .ref (ad 1)), (2, .int (zi cl))] d_Line_joinNeighbours_130 rfl (by decide) rfl rfl ?_
                refine mk_goto (tgt := 35) X d_Line_joinNeighbours_133 (by decide) ?_
                refine mk_lv [3, 4, 5, 0] rfl ?_
                exact ih35 (p + 1) cl J (by omega) (by omega) (by first | exact jn_init hn.2 hJA hJB | (exfalso; omega) | exact jn_no (jnd_f (by rw [nxp, if_pos (by omega)]; omega)) hI (by omega) (by omega) | exact jn_no (jnd_f (by rw [nxp, if_neg (by omega)]; omega)) hI (by omega) (by omega) | exact jn_yes (jnd_t (by omega) (by omega) (by rw [nxp, if_pos (by omega)]; omega)) hI (by omega) (by omega) (J1 := J) (by rw [nxp, if_pos (by omega)]; exact hJ) (by rw [nxp, if_pos (by omega)]; exact hJ) | exact jn_yes (jnd_t (by omega) (by omega) (by rw [nxp, if_neg (by omega)]; omega)) hI (by omega) (by omega) (J1 := J) (by rw [nxp, if_neg (by omega)]; exact hJ) (by rw [nxp, if_neg (by omega)]; exact hJ)) (by omega)
              · skip
                refine mk_aloadn (nx := 84) X 3 d_Line_joinNeighbours_83 rfl rfl ?_
                refine mk_get (nx := 87) (v := .ref (ad 2)) X 1 (by decide) (sh_Subject cs ad _) rfl in_Subject 0 (by decide) wd_66 rfl rfl d_Line_joinNeighbours_84 rfl ?_
                refine mk_aloadn (nx := 88) X 2 d_Line_joinNeighbours_87 rfl rfl ?_
                refine mk_get (nx := 91) (v := .ref (ad (13 + 6 * v))) X (12 + 6 * v) (by omega) (sh_Line cs ad (show v < 4 by omega) _) rfl in_Line 0 (by decide) wd_126 rfl rfl d_Line_joinNeighbours_88 rfl ?_
                refine mk_iloadn (nx := 92) X 5 d_Line_joinNeighbours_91 rfl rfl ?_
                refine mk_iald (nx := 93) (j := p) X (13 + 6 * v) 0 (by omega) (sh_Lnotes cs ad (show v < 4 by omega) _) rfl (by omega) (by omega) (by decide) rfl d_Line_joinNeighbours_92 rfl ?_
                rw [show J (13 + 6 * v) p = (cnt c v p : Int) from ((hI.1 (13 + 6 * v) p (by omega) (by omega)).trans ((hB p (by omega)).1))]
                refine mk_iald (nx := 94) (j := (cnt c v p)) X 2 0 (by decide) (sh_Spit cs ad _) rfl (by omega) (by omega) (by decide) rfl d_Line_joinNeighbours_93 rfl ?_
                rw [show J 2 (cnt c v p) = c 1 (cnt c v p) from ((hI.1 (2) (cnt c v p) (by omega) (by omega)).trans ((hm.2 (cnt c v p) (by omega)).1))]
                refine mk_iconst (nx := 95) X d_Line_joinNeighbours_94 rfl ?_
                refine mk_icmp_eq (tgt := 130) (nx := 98) X d_Line_joinNeighbours_95 (by omega) (by omega) (by decide) rfl (fun c95 => ?_) (fun c95 => ?_)
                · skip
                  refine mk_iinc (nx := 133) X 5 [(3, .int (zi ((p : Int) + 1))), (5, .int (zi 1)), (4, .int (zi ((p : Int) + 1))), (0, .ref (ad (12 + 6 * v))), (1, .ref (ad 1)), (2, .int (zi cl))] d_Line_joinNeighbours_130 rfl (by decide) rfl rfl ?_
                  refine mk_goto (tgt := 35) X d_Line_joinNeighbours_133 (by decide) ?_
                  refine mk_lv [3, 4, 5, 0] rfl ?_
                  exact ih35 (p + 1) cl J (by omega) (by omega) (by first | exact jn_init hn.2 hJA hJB | (exfalso; omega) | exact jn_no (jnd_f (by rw [nxp, if_pos (by omega)]; omega)) hI (by omega) (by omega) | exact jn_no (jnd_f (by rw [nxp, if_neg (by omega)]; omega)) hI (by omega) (by omega) | exact jn_yes (jnd_t (by omega) (by omega) (by rw [nxp, if_pos (by omega)]; omega)) hI (by omega) (by omega) (J1 := J) (by rw [nxp, if_pos (by omega)]; exact hJ) (by rw [nxp, if_pos (by omega)]; exact hJ) | exact jn_yes (jnd_t (by omega) (by omega) (by rw [nxp, if_neg (by omega)]; omega)) hI (by omega) (by omega) (J1 := J) (by rw [nxp, if_neg (by omega)]; exact hJ) (by rw [nxp, if_neg (by omega)]; exact hJ)) (by omega)
                · skip
                  have hcl2 : ∀ q, q < cn c → cnt c v q < cn c ∧ -2 ≤ c 1 (cnt c v q) ∧ c 1 (cnt c v q) ≤ 127 := fun q hq => ⟨cnt_lt hq, (hw.2 (cnt c v q) (by have := cnt_lt (c := c) (v := v) hq; omega)).1⟩
                  have hcl3 := hcl2 0 (by omega)
                  have hcl4 : p + 1 < cn c → _ := fun h => hcl2 (p + 1) h
                  refine mk_aloadn (nx := 99) X 3 d_Line_joinNeighbours_98 rfl rfl ?_
                  refine mk_get (nx := 102) (v := .ref (ad 2)) X 1 (by decide) (sh_Subject cs ad _) rfl in_Subject 0 (by decide) wd_66 rfl rfl d_Line_joinNeighbours_99 rfl ?_
                  refine mk_aloadn (nx := 103) X 2 d_Line_joinNeighbours_102 rfl rfl ?_
                  refine mk_get (nx := 106) (v := .ref (ad (13 + 6 * v))) X (12 + 6 * v) (by omega) (sh_Line cs ad (show v < 4 by omega) _) rfl in_Line 0 (by decide) wd_126 rfl rfl d_Line_joinNeighbours_103 rfl ?_
                  refine mk_iload (nx := 108) X 1 d_Line_joinNeighbours_106 rfl rfl ?_
                  refine mk_iald (nx := 109) (j := (p + 1)) X (13 + 6 * v) 0 (by omega) (sh_Lnotes cs ad (show v < 4 by omega) _) rfl (by omega) (by omega) (by decide) rfl d_Line_joinNeighbours_108 rfl ?_
                  rw [show J (13 + 6 * v) (p + 1) = (cnt c v (p + 1) : Int) from ((hI.1 (13 + 6 * v) (p + 1) (by omega) (by omega)).trans ((hB (p + 1) (by omega)).1))]
                  refine mk_iald (nx := 110) (j := (cnt c v (p + 1))) X 2 0 (by decide) (sh_Spit cs ad _) rfl (by omega) (by omega) (by decide) rfl d_Line_joinNeighbours_109 rfl ?_
                  rw [show J 2 (cnt c v (p + 1)) = c 1 (cnt c v (p + 1)) from ((hI.1 (2) (cnt c v (p + 1)) (by omega) (by omega)).trans ((hm.2 (cnt c v (p + 1)) (by omega)).1))]
                  refine mk_iconst (nx := 111) X d_Line_joinNeighbours_110 rfl ?_
                  refine mk_icmp_eq (tgt := 130) (nx := 114) X d_Line_joinNeighbours_111 (by omega) (by omega) (by decide) rfl (fun c111 => ?_) (fun c111 => ?_)
                  · skip
                    refine mk_iinc (nx := 133) X 5 [(3, .int (zi ((p : Int) + 1))), (5, .int (zi 1)), (4, .int (zi ((p : Int) + 1))), (0, .ref (ad (12 + 6 * v))), (1, .ref (ad 1)), (2, .int (zi cl))] d_Line_joinNeighbours_130 rfl (by decide) rfl rfl ?_
                    refine mk_goto (tgt := 35) X d_Line_joinNeighbours_133 (by decide) ?_
                    refine mk_lv [3, 4, 5, 0] rfl ?_
                    exact ih35 (p + 1) cl J (by omega) (by omega) (by first | exact jn_init hn.2 hJA hJB | (exfalso; omega) | exact jn_no (jnd_f (by rw [nxp, if_pos (by omega)]; omega)) hI (by omega) (by omega) | exact jn_no (jnd_f (by rw [nxp, if_neg (by omega)]; omega)) hI (by omega) (by omega) | exact jn_yes (jnd_t (by omega) (by omega) (by rw [nxp, if_pos (by omega)]; omega)) hI (by omega) (by omega) (J1 := J) (by rw [nxp, if_pos (by omega)]; exact hJ) (by rw [nxp, if_pos (by omega)]; exact hJ) | exact jn_yes (jnd_t (by omega) (by omega) (by rw [nxp, if_neg (by omega)]; omega)) hI (by omega) (by omega) (J1 := J) (by rw [nxp, if_neg (by omega)]; exact hJ) (by rw [nxp, if_neg (by omega)]; exact hJ)) (by omega)
                  · skip
                    refine mk_aloadn (nx := 115) X 2 d_Line_joinNeighbours_114 rfl rfl ?_
                    refine mk_get (nx := 118) (v := .ref (ad (17 + 6 * v))) X (12 + 6 * v) (by omega) (sh_Line cs ad (show v < 4 by omega) _) rfl in_Line 4 (by decide) wd_136 rfl rfl d_Line_joinNeighbours_115 rfl ?_
                    refine mk_iloadn (nx := 119) X 5 d_Line_joinNeighbours_118 rfl rfl ?_
                    refine mk_iload (nx := 121) X 1 d_Line_joinNeighbours_119 rfl rfl ?_
                    refine mk_iast (nx := 122) (j := p) X (17 + 6 * v) 0 (by omega) (sh_Lbehind cs ad (show v < 4 by omega)) rfl (by omega) (by omega) (by decide) rfl d_Line_joinNeighbours_121 rfl ?_
                    obtain ⟨J11, hJ11⟩ : ∃ W_ : Wo, W_ = up2 J (17 + 6 * v) p ((p : Int) + 1) := ⟨_, rfl⟩
                    refine mk_same hJ11.symm ?_
                    have hJ11s : J11 (17 + 6 * v) p = (p : Int) + 1 := hJ11 ▸ up2_ss J (17 + 6 * v) p ((p : Int) + 1)
                    have hJ11o : ∀ a b, (a ≠ (17 + 6 * v) ∨ b ≠ p) → J11 a b = J a b := hJ11 ▸ up2_o J (17 + 6 * v) p ((p : Int) + 1)
                    refine mk_aloadn (nx := 123) X 2 d_Line_joinNeighbours_122 rfl rfl ?_
                    refine mk_get (nx := 126) (v := .ref (ad (16 + 6 * v))) X (12 + 6 * v) (by omega) (sh_Line cs ad (show v < 4 by omega) _) rfl in_Line 3 (by decide) wd_133 rfl rfl d_Line_joinNeighbours_123 rfl ?_
                    refine mk_iload (nx := 128) X 1 d_Line_joinNeighbours_126 rfl rfl ?_
                    refine mk_iloadn (nx := 129) X 5 d_Line_joinNeighbours_128 rfl rfl ?_
                    refine mk_iast (nx := 130) (j := (p + 1)) X (16 + 6 * v) 0 (by omega) (sh_Lbefore cs ad (show v < 4 by omega)) rfl (by omega) (by omega) (by decide) rfl d_Line_joinNeighbours_129 rfl ?_
                    obtain ⟨J12, hJ12⟩ : ∃ W_ : Wo, W_ = up2 J11 (16 + 6 * v) (p + 1) (p : Int) := ⟨_, rfl⟩
                    refine mk_same hJ12.symm ?_
                    have hJ12s : J12 (16 + 6 * v) (p + 1) = (p : Int) := hJ12 ▸ up2_ss J11 (16 + 6 * v) (p + 1) (p : Int)
                    have hJ12o : ∀ a b, (a ≠ (16 + 6 * v) ∨ b ≠ (p + 1)) → J12 a b = J11 a b := hJ12 ▸ up2_o J11 (16 + 6 * v) (p + 1) (p : Int)
                    refine mk_iinc (nx := 133) X 5 [(3, .int (zi ((p : Int) + 1))), (5, .int (zi 1)), (4, .int (zi ((p : Int) + 1))), (0, .ref (ad (12 + 6 * v))), (1, .ref (ad 1)), (2, .int (zi cl))] d_Line_joinNeighbours_130 rfl (by decide) rfl rfl ?_
                    refine mk_goto (tgt := 35) X d_Line_joinNeighbours_133 (by decide) ?_
                    refine mk_lv [3, 4, 5, 0] rfl ?_
                    exact ih35 (p + 1) cl J12 (by omega) (by omega) (by first | exact jn_init hn.2 hJA hJB | (exfalso; omega) | exact jn_no (jnd_f (by rw [nxp, if_pos (by omega)]; omega)) hI (by omega) (by omega) | exact jn_no (jnd_f (by rw [nxp, if_neg (by omega)]; omega)) hI (by omega) (by omega) | exact jn_yes (jnd_t (by omega) (by omega) (by rw [nxp, if_pos (by omega)]; omega)) hI (by omega) (by omega) (J1 := J11) (by rw [nxp, if_pos (by omega)]; exact hJ11) (by rw [nxp, if_pos (by omega)]; exact hJ12) | exact jn_yes (jnd_t (by omega) (by omega) (by rw [nxp, if_neg (by omega)]; omega)) hI (by omega) (by omega) (J1 := J11) (by rw [nxp, if_neg (by omega)]; exact hJ11) (by rw [nxp, if_neg (by omega)]; exact hJ12)) (by omega)
  refine mk_aloadn (nx := 1) X 0 d_Line_joinNeighbours_0 rfl rfl ?_
  refine mk_get (nx := 4) (v := .ref (ad (16 + 6 * v))) X (12 + 6 * v) (by omega) (sh_Line cs ad (show v < 4 by omega) _) rfl in_Line 3 (by decide) wd_133 rfl rfl d_Line_joinNeighbours_1 rfl ?_
  refine mk_iconst (nx := 5) X d_Line_joinNeighbours_4 rfl ?_
  refine mk_callTv (nx := 8) (n := 2) (As := [.ref (ad (16 + 6 * v)), .int (zi (-1))]) (rest := []) X (c_Arrays_fill l D cs ad zt hi I (16 + 6 * v) 24 (by omega) (sh_Lbefore cs ad hv) (by decide) (-1)) (g_Arrays_fill wd_406) rfl ⟨rfl, rfl⟩ (by decide +kernel) ⟨by decide, by decide⟩ rfl (Nat.le_of_ble_eq_true rfl) rfl d_Line_joinNeighbours_5 rfl ?_
  intro JA hJA
  refine mk_aloadn (nx := 9) X 0 d_Line_joinNeighbours_8 rfl rfl ?_
  refine mk_get (nx := 12) (v := .ref (ad (17 + 6 * v))) X (12 + 6 * v) (by omega) (sh_Line cs ad (show v < 4 by omega) _) rfl in_Line 4 (by decide) wd_136 rfl rfl d_Line_joinNeighbours_9 rfl ?_
  refine mk_iconst (nx := 13) X d_Line_joinNeighbours_12 rfl ?_
  refine mk_callTv (nx := 16) (n := 2) (As := [.ref (ad (17 + 6 * v)), .int (zi (-1))]) (rest := []) X (c_Arrays_fill l D cs ad zt hi JA (17 + 6 * v) 24 (by omega) (sh_Lbehind cs ad hv) (by decide) (-1)) (g_Arrays_fill wd_406) rfl ⟨rfl, rfl⟩ (by decide +kernel) ⟨by decide, by decide⟩ rfl (Nat.le_of_ble_eq_true rfl) rfl d_Line_joinNeighbours_13 rfl ?_
  intro JB hJB
  have hO2 := (jn_init hn.2 hJA hJB).1
  refine mk_aloadn (nx := 17) X 0 d_Line_joinNeighbours_16 rfl rfl ?_
  refine mk_get (nx := 20) (v := .int (zi (JB (12 + 6 * v) 6))) X (12 + 6 * v) (by omega) (sh_Line cs ad (show v < 4 by omega) _) rfl in_Line 6 (by decide) wd_141 rfl rfl d_Line_joinNeighbours_17 rfl ?_
  rw [show JB (12 + 6 * v) 6 = cbg c v (cn c) from ((hO2 (12 + 6 * v) 6 (by omega) (by omega)).trans (hF.2.1))]
  refine mk_aloadn (nx := 21) X 0 d_Line_joinNeighbours_20 rfl rfl ?_
  refine mk_get (nx := 24) (v := .int (zi (JB (12 + 6 * v) 7))) X (12 + 6 * v) (by omega) (sh_Line cs ad (show v < 4 by omega) _) rfl in_Line 7 (by decide) wd_142 rfl rfl d_Line_joinNeighbours_21 rfl ?_
  rw [show JB (12 + 6 * v) 7 = c 0 6 from ((hO2 (12 + 6 * v) 7 (by omega) (by omega)).trans (hF.2.2.1))]
  refine mk_icmp_ne (tgt := 31) (nx := 27) X d_Line_joinNeighbours_24 (by omega) (by omega) (by decide) rfl (fun c24 => ?_) (fun c24 => ?_)
  · skip
    refine mk_iconst (nx := 32) X d_Line_joinNeighbours_31 rfl ?_
    refine mk_istoren (nx := 33) X [(2, .int (zi 0)), (0, .ref (ad (12 + 6 * v))), (1, .ref (ad 1))] d_Line_joinNeighbours_32 (by decide) rfl rfl ?_
    refine mk_iconst (nx := 34) X d_Line_joinNeighbours_33 rfl ?_
    refine mk_istoren (nx := 35) X [(3, .int (zi 0)), (2, .int (zi 0)), (0, .ref (ad (12 + 6 * v))), (1, .ref (ad 1))] d_Line_joinNeighbours_34 (by decide) rfl rfl ?_
    refine mk_lv [2, 3, 1, 0] rfl ?_
    exact L35 _ 0 0 JB (by omega) (by omega) (by first | exact jn_init hn.2 hJA hJB | (exfalso; omega) | exact jn_no (jnd_f (by rw [nxp, if_pos (by omega)]; omega)) hI (by omega) (by omega) | exact jn_no (jnd_f (by rw [nxp, if_neg (by omega)]; omega)) hI (by omega) (by omega) | exact jn_yes (jnd_t (by omega) (by omega) (by rw [nxp, if_pos (by omega)]; omega)) hI (by omega) (by omega) (J1 := JB) (by rw [nxp, if_pos (by omega)]; exact hJB) (by rw [nxp, if_pos (by omega)]; exact hJB) | exact jn_yes (jnd_t (by omega) (by omega) (by rw [nxp, if_neg (by omega)]; omega)) hI (by omega) (by omega) (J1 := JB) (by rw [nxp, if_neg (by omega)]; exact hJB) (by rw [nxp, if_neg (by omega)]; exact hJB)) (Nat.lt_succ_self _)
  · skip
    refine mk_iconst (nx := 28) X d_Line_joinNeighbours_27 rfl ?_
    refine mk_goto (tgt := 32) X d_Line_joinNeighbours_28 (by decide) ?_
    refine mk_istoren (nx := 33) X [(2, .int (zi 1)), (0, .ref (ad (12 + 6 * v))), (1, .ref (ad 1))] d_Line_joinNeighbours_32 (by decide) rfl rfl ?_
    refine mk_iconst (nx := 34) X d_Line_joinNeighbours_33 rfl ?_
    refine mk_istoren (nx := 35) X [(3, .int (zi 0)), (2, .int (zi 1)), (0, .ref (ad (12 + 6 * v))), (1, .ref (ad 1))] d_Line_joinNeighbours_34 (by decide) rfl rfl ?_
    refine mk_lv [2, 3, 1, 0] rfl ?_
    exact L35 _ 0 1 JB (by omega) (by omega) (by first | exact jn_init hn.2 hJA hJB | (exfalso; omega) | exact jn_no (jnd_f (by rw [nxp, if_pos (by omega)]; omega)) hI (by omega) (by omega) | exact jn_no (jnd_f (by rw [nxp, if_neg (by omega)]; omega)) hI (by omega) (by omega) | exact jn_yes (jnd_t (by omega) (by omega) (by rw [nxp, if_pos (by omega)]; omega)) hI (by omega) (by omega) (J1 := JB) (by rw [nxp, if_pos (by omega)]; exact hJB) (by rw [nxp, if_pos (by omega)]; exact hJB) | exact jn_yes (jnd_t (by omega) (by omega) (by rw [nxp, if_neg (by omega)]; omega)) hI (by omega) (by omega) (J1 := JB) (by rw [nxp, if_neg (by omega)]; exact hJB) (by rw [nxp, if_neg (by omega)]; exact hJB)) (Nat.lt_succ_self _)
