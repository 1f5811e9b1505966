/-- C, the first sounding NOTE's pitch, -1 if there is none -/
def cz (c : Wo) : Int := if fso (c 1) (cn c) < cn c then c 1 (fso (c 1) (cn c)) else -1
theorem fsr_cases (c : Wo) : (fsr c = -1 ∧ cz c = -1) ∨ (0 ≤ fsr c ∧ fsr c < cn c ∧ cz c = c 1 (fsr c).toNat) := by
  unfold fsr cz
  by_cases h : fso (c 1) (cn c) < cn c
  · rw [if_pos h, if_pos h]
    exact Or.inr ⟨by omega, by omega, rfl⟩
  · rw [if_neg h, if_neg h]
    exact Or.inl ⟨rfl, rfl⟩
theorem cz_of {c : Wo} {i : Nat} (hi : i < cn c) (h : ¬ c 1 i = -1) : cz c = c 1 (fso (c 1) (cn c)) := by
  obtain ⟨a, b, _⟩ := fso_spec (c 1) (cn c)
  unfold cz
  rw [if_pos]
  rcases Nat.lt_or_ge (fso (c 1) (cn c)) (cn c) with q | q
  · exact q
  · exact absurd (b i (by omega)) h
section CLP
variable {c : Wo} {v j : Nat}
theorem clp_r (h : c 1 (cnt c v j) = -1) : clp c v j = 1000 := by
  unfold clp lpi
  rw [if_pos h]
theorem clp_o (hj : j < cn c) (h : ¬ c 1 (cnt c v j) = -1) (h2 : c 1 (cnt c v j) = -2 ∨ (¬ ziand (c (3 + v) 3) 1 = 0 ∧ cz c = -2)) : clp c v j = 1001 := by
  have hz := cz_of (cnt_lt (v := v) hj) h
  unfold clp lpi
  rw [if_neg h]
  by_cases hm : ziand (c (3 + v) 3) 1 = 0
  · rw [if_pos hm, if_pos (h2.resolve_right (fun q => q.1 hm))]
  · rw [if_neg hm, if_pos]
    rcases h2 with h2 | h2
    · exact Or.inl h2
    · exact Or.inr (by rw [← hz]; exact h2.2)
theorem clp_n (h : ¬ c 1 (cnt c v j) = -1) (h2 : ¬ c 1 (cnt c v j) = -2) (hm : ziand (c (3 + v) 3) 1 = 0) : clp c v j = c 1 (cnt c v j) + c (3 + v) 2 := by
  unfold clp lpi
  rw [if_neg h, if_pos hm, if_neg h2]
theorem clp_i (hj : j < cn c) (h : ¬ c 1 (cnt c v j) = -1) (h2 : ¬ c 1 (cnt c v j) = -2) (hm : ¬ ziand (c (3 + v) 3) 1 = 0) (h3 : ¬ cz c = -2) : clp c v j = 2 * cz c - c 1 (cnt c v j) + c (3 + v) 2 := by
  have hz := cz_of (cnt_lt (v := v) hj) h
  unfold clp lpi
  rw [if_neg h, if_neg hm, if_neg, hz]
  rw [← hz]
  rintro (q | q)
  · exact h2 q
  · exact h3 q
end CLP
/-- neighbours in a LINE -/
def nxp (n p : Nat) : Nat := if p + 1 < n then p + 1 else 0
def pvp (n q : Nat) : Nat := if q = 0 then n - 1 else q - 1
def jnd (c : Wo) (v p : Nat) : Bool := decide ((p + 1 < cn c ∨ cbg c v (cn c) = c 0 6) ∧ ¬ c 1 (cnt c v p) = -1 ∧ ¬ c 1 (cnt c v (nxp (cn c) p)) = -1)
def cbeh (c : Wo) (v p : Nat) : Int := if jnd c v p = true then (nxp (cn c) p : Int) else -1
def cbef (c : Wo) (v q : Nat) : Int := if jnd c v (pvp (cn c) q) = true then (pvp (cn c) q : Int) else -1
def LnN (c J : Wo) (v : Nat) : Prop := ∀ p, p < cn c → J (16 + 6 * v) p = cbef c v p ∧ J (17 + 6 * v) p = cbeh c v p
theorem pv_nx {n p : Nat} (h : p < n) : pvp n (nxp n p) = p := by
  unfold pvp nxp
  by_cases e : p + 1 < n
  · rw [if_pos e, if_neg (by omega)]; omega
  · rw [if_neg e, if_pos rfl]; omega
theorem pv_lt {n q : Nat} (h : q < n) : pvp n q < n := by
  unfold pvp
  split <;> omega
theorem nx_lt {n p : Nat} (h : p < n) : nxp n p < n := by
  unfold nxp
  split <;> omega
theorem nx_pv {n q : Nat} (h : q < n) : nxp n (pvp n q) = q := by
  unfold pvp nxp
  by_cases e : q = 0
  · rw [if_pos e, if_neg (by omega)]; omega
  · rw [if_neg e, if_pos (by omega)]; omega

-- CanonMaker$Line.tune(LCanonMaker$Subject;)V
theorem d_Line_tune_0 : decode prog_4_method_4_code 0 = .ok (.aload_n 1, 1) := by decide +kernel
theorem d_Line_tune_1 : decode prog_4_method_4_code 1 = .ok (.invokevirtual 78, 3) := by decide +kernel
theorem d_Line_tune_4 : decode prog_4_method_4_code 4 = .ok (.istore_n 2, 1) := by decide +kernel
theorem d_Line_tune_5 : decode prog_4_method_4_code 5 = .ok (.iload_n 2, 1) := by decide +kernel
theorem d_Line_tune_6 : decode prog_4_method_4_code 6 = .ok (.iconst (-1), 1) := by decide +kernel
theorem d_Line_tune_7 : decode prog_4_method_4_code 7 = .ok (.if_icmp .ne 7, 3) := by decide +kernel
theorem d_Line_tune_10 : decode prog_4_method_4_code 10 = .ok (.iconst (-1), 1) := by decide +kernel
theorem d_Line_tune_11 : decode prog_4_method_4_code 11 = .ok (.goto 9, 3) := by decide +kernel
theorem d_Line_tune_14 : decode prog_4_method_4_code 14 = .ok (.aload_n 1, 1) := by decide +kernel
theorem d_Line_tune_15 : decode prog_4_method_4_code 15 = .ok (.getfield 77, 3) := by decide +kernel
theorem d_Line_tune_18 : decode prog_4_method_4_code 18 = .ok (.iload_n 2, 1) := by decide +kernel
theorem d_Line_tune_19 : decode prog_4_method_4_code 19 = .ok (.iaload, 1) := by decide +kernel
theorem d_Line_tune_20 : decode prog_4_method_4_code 20 = .ok (.istore_n 3, 1) := by decide +kernel
theorem d_Line_tune_21 : decode prog_4_method_4_code 21 = .ok (.iconst 0, 1) := by decide +kernel
theorem d_Line_tune_22 : decode prog_4_method_4_code 22 = .ok (.istore 4, 2) := by decide +kernel
theorem d_Line_tune_24 : decode prog_4_method_4_code 24 = .ok (.iload 4, 2) := by decide +kernel
theorem d_Line_tune_26 : decode prog_4_method_4_code 26 = .ok (.aload_n 0, 1) := by decide +kernel
theorem d_Line_tune_27 : decode prog_4_method_4_code 27 = .ok (.getfield 57, 3) := by decide +kernel
theorem d_Line_tune_30 : decode prog_4_method_4_code 30 = .ok (.if_icmp .ge 105, 3) := by decide +kernel
theorem d_Line_tune_33 : decode prog_4_method_4_code 33 = .ok (.aload_n 1, 1) := by decide +kernel
theorem d_Line_tune_34 : decode prog_4_method_4_code 34 = .ok (.getfield 77, 3) := by decide +kernel
theorem d_Line_tune_37 : decode prog_4_method_4_code 37 = .ok (.aload_n 0, 1) := by decide +kernel
theorem d_Line_tune_38 : decode prog_4_method_4_code 38 = .ok (.getfield 9, 3) := by decide +kernel
theorem d_Line_tune_41 : decode prog_4_method_4_code 41 = .ok (.iload 4, 2) := by decide +kernel
theorem d_Line_tune_43 : decode prog_4_method_4_code 43 = .ok (.iaload, 1) := by decide +kernel
theorem d_Line_tune_44 : decode prog_4_method_4_code 44 = .ok (.iaload, 1) := by decide +kernel
theorem d_Line_tune_45 : decode prog_4_method_4_code 45 = .ok (.istore 5, 2) := by decide +kernel
theorem d_Line_tune_47 : decode prog_4_method_4_code 47 = .ok (.iload 5, 2) := by decide +kernel
theorem d_Line_tune_49 : decode prog_4_method_4_code 49 = .ok (.iconst (-1), 1) := by decide +kernel
theorem d_Line_tune_50 : decode prog_4_method_4_code 50 = .ok (.if_icmp .ne 16, 3) := by decide +kernel
theorem d_Line_tune_53 : decode prog_4_method_4_code 53 = .ok (.aload_n 0, 1) := by decide +kernel
theorem d_Line_tune_54 : decode prog_4_method_4_code 54 = .ok (.getfield 18, 3) := by decide +kernel
theorem d_Line_tune_57 : decode prog_4_method_4_code 57 = .ok (.iload 4, 2) := by decide +kernel
theorem d_Line_tune_59 : decode prog_4_method_4_code 59 = .ok (.sipush 1000, 3) := by decide +kernel
theorem d_Line_tune_62 : decode prog_4_method_4_code 62 = .ok (.iastore, 1) := by decide +kernel
theorem d_Line_tune_63 : decode prog_4_method_4_code 63 = .ok (.goto 66, 3) := by decide +kernel
theorem d_Line_tune_66 : decode prog_4_method_4_code 66 = .ok (.iload 5, 2) := by decide +kernel
theorem d_Line_tune_68 : decode prog_4_method_4_code 68 = .ok (.bipush (-2), 2) := by decide +kernel
theorem d_Line_tune_70 : decode prog_4_method_4_code 70 = .ok (.if_icmp .eq 16, 3) := by decide +kernel
theorem d_Line_tune_73 : decode prog_4_method_4_code 73 = .ok (.aload_n 0, 1) := by decide +kernel
theorem d_Line_tune_74 : decode prog_4_method_4_code 74 = .ok (.getfield 38, 3) := by decide +kernel
theorem d_Line_tune_77 : decode prog_4_method_4_code 77 = .ok (.ifCond .eq 22, 3) := by decide +kernel
theorem d_Line_tune_80 : decode prog_4_method_4_code 80 = .ok (.iload_n 3, 1) := by decide +kernel
theorem d_Line_tune_81 : decode prog_4_method_4_code 81 = .ok (.bipush (-2), 2) := by decide +kernel
theorem d_Line_tune_83 : decode prog_4_method_4_code 83 = .ok (.if_icmp .ne 16, 3) := by decide +kernel
theorem d_Line_tune_86 : decode prog_4_method_4_code 86 = .ok (.aload_n 0, 1) := by decide +kernel
theorem d_Line_tune_87 : decode prog_4_method_4_code 87 = .ok (.getfield 18, 3) := by decide +kernel
theorem d_Line_tune_90 : decode prog_4_method_4_code 90 = .ok (.iload 4, 2) := by decide +kernel
theorem d_Line_tune_92 : decode prog_4_method_4_code 92 = .ok (.sipush 1001, 3) := by decide +kernel
theorem d_Line_tune_95 : decode prog_4_method_4_code 95 = .ok (.iastore, 1) := by decide +kernel
theorem d_Line_tune_96 : decode prog_4_method_4_code 96 = .ok (.goto 33, 3) := by decide +kernel
theorem d_Line_tune_99 : decode prog_4_method_4_code 99 = .ok (.aload_n 0, 1) := by decide +kernel
theorem d_Line_tune_100 : decode prog_4_method_4_code 100 = .ok (.getfield 18, 3) := by decide +kernel
theorem d_Line_tune_103 : decode prog_4_method_4_code 103 = .ok (.iload 4, 2) := by decide +kernel
theorem d_Line_tune_105 : decode prog_4_method_4_code 105 = .ok (.aload_n 0, 1) := by decide +kernel
theorem d_Line_tune_106 : decode prog_4_method_4_code 106 = .ok (.getfield 38, 3) := by decide +kernel
theorem d_Line_tune_109 : decode prog_4_method_4_code 109 = .ok (.ifCond .eq 12, 3) := by decide +kernel
theorem d_Line_tune_112 : decode prog_4_method_4_code 112 = .ok (.iconst 2, 1) := by decide +kernel
theorem d_Line_tune_113 : decode prog_4_method_4_code 113 = .ok (.iload_n 3, 1) := by decide +kernel
theorem d_Line_tune_114 : decode prog_4_method_4_code 114 = .ok (.imul, 1) := by decide +kernel
theorem d_Line_tune_115 : decode prog_4_method_4_code 115 = .ok (.iload 5, 2) := by decide +kernel
theorem d_Line_tune_117 : decode prog_4_method_4_code 117 = .ok (.isub, 1) := by decide +kernel
theorem d_Line_tune_118 : decode prog_4_method_4_code 118 = .ok (.goto 5, 3) := by decide +kernel
theorem d_Line_tune_121 : decode prog_4_method_4_code 121 = .ok (.iload 5, 2) := by decide +kernel
theorem d_Line_tune_123 : decode prog_4_method_4_code 123 = .ok (.aload_n 0, 1) := by decide +kernel
theorem d_Line_tune_124 : decode prog_4_method_4_code 124 = .ok (.getfield 48, 3) := by decide +kernel
theorem d_Line_tune_127 : decode prog_4_method_4_code 127 = .ok (.iadd, 1) := by decide +kernel
theorem d_Line_tune_128 : decode prog_4_method_4_code 128 = .ok (.iastore, 1) := by decide +kernel
theorem d_Line_tune_129 : decode prog_4_method_4_code 129 = .ok (.iinc 4 1, 3) := by decide +kernel
theorem d_Line_tune_132 : decode prog_4_method_4_code 132 = .ok (.goto (-108), 3) := by decide +kernel
theorem d_Line_tune_135 : decode prog_4_method_4_code 135 = .ok (.return_, 1) := by decide +kernel
abbrev rm_Line_tune : Room := { frames := 1, cells := 0, slots := 0, locals := 21 }
set_option maxHeartbeats 4000000 in
set_option maxRecDepth 100000 in
theorem c_Line_tune (l : Launch) (D : va_G) (cs : Nat → ClassId) (ad : Nat → Nat) (zt : Nat) (hi : cm_inj ad) (c I : Wo) (hw : wfN c) (hS : wfS c) (hV : wfV c) (hm : cmN c I) (v : Nat) (hv : v < 4) (hF : LnF c I v) (hB : LnB c I v) : cm_C l D cs ad zt y_Line_tune ws_Line_tune rm_Line_tune [.ref (ad (12 + 6 * v)), .ref (ad 1)] I (mk_pv (fun J => LnT c J v ∧ ∀ a b, ¬ a = 15 + 6 * v → J a b = I a b)) := by
  refine mk_metv (own := "CanonMaker$Line") (Ts := wA) hi (Nat.le_refl _) (by decide) rfl (fun w h => List.mem_cons_of_mem _ h) rfl (Nat.le_of_ble_eq_true rfl) [(0, .ref (ad (12 + 6 * v))), (1, .ref (ad 1))] rfl ?_
  intro p_ e_ s_ m_ as_ bl_ me_ co_ Q_ X hret
  have hn := cn_e hw
  have hv5 := hV.1 v hv
  obtain ⟨hlo, hsc, hbt, hru, hrd, hst⟩ := id hS
  obtain ⟨iv1, hiv1, hiv2⟩ : ∃ x : Int, x = (if ziand (c (3 + v) 3) 1 = 0 then 0 else 1) ∧ ((x = 0 ∧ ziand (c (3 + v) 3) 1 = 0) ∨ (x = 1 ∧ ¬ ziand (c (3 + v) 3) 1 = 0)) := by
    by_cases hz : ziand (c (3 + v) 3) 1 = 0
    · exact ⟨0, by rw [if_pos hz], Or.inl ⟨rfl, hz⟩⟩
    · exact ⟨1, by rw [if_neg hz], Or.inr ⟨rfl, hz⟩⟩
  have hfs := fsr_cases c
  have L24 : ∀ nf : Nat, ∀ (p : Nat) (z : Int) (J : Wo), (p ≤ cn c) → (z = cz c) → (∀ a b, ¬ a = 15 + 6 * v → J a b = I a b) → (∀ q, q < p → J (15 + 6 * v) q = clp c v q) → 24 - p < nf → mk_A p_ l e_ rm_Line_tune s_ m_ as_ bl_ me_ co_ Q_ 6 D cmcl (cm_sh cs ad) 48 48 ad J [(0, .ref (ad (12 + 6 * v))), (1, .ref (ad 1)), (2, .int (zi (fsr c))), (3, .int (zi z)), (4, .int (zi (p : Int)))] 24 [] := by
    intro nf
    induction nf with
    | zero => intro p z J hp hz hO hT hn; exact absurd hn (Nat.not_lt_zero _)
    | succ nf ih24 =>
      intro p z J hp hz hO hT hn24
      refine mk_iload (nx := 26) X 4 d_Line_tune_24 rfl rfl ?_
      refine mk_aloadn (nx := 27) X 0 d_Line_tune_26 rfl rfl ?_
      refine mk_get (nx := 30) (v := .int (zi (J (12 + 6 * v) 5))) X (12 + 6 * v) (by omega) (sh_Line cs ad (show v < 4 by omega) _) rfl in_Line 5 (by decide) wd_139 rfl rfl d_Line_tune_27 rfl ?_
      rw [show J (12 + 6 * v) 5 = c 0 0 from ((hO (12 + 6 * v) 5 (by omega)).trans (hF.1))]
      refine mk_icmp_ge (tgt := 135) (nx := 33) X d_Line_tune_30 (by omega) (by omega) (by decide) rfl (fun c30 => ?_) (fun c30 => ?_)
      · skip
        exact hret _ _ _ d_Line_tune_135 (by exact ⟨fun q hq => hT q (by omega), hO⟩)
      · skip
        have hcl := cnt_lt (c := c) (v := v) (show p < cn c by omega)
        have hp0 := (hw.2 (cnt c v p) (by omega)).1
        have hzr : -2 ≤ cz c ∧ cz c ≤ 127 := by
          rcases fsr_cases c with q | q
          · omega
          · have := (hw.2 (fsr c).toNat (by omega)).1; omega
        refine mk_aloadn (nx := 34) X 1 d_Line_tune_33 rfl rfl ?_
        refine mk_get (nx := 37) (v := .ref (ad 2)) X 1 (by decide) (sh_Subject cs ad _) rfl in_Subject 0 (by decide) wd_66 rfl rfl d_Line_tune_34 rfl ?_
        refine mk_aloadn (nx := 38) X 0 d_Line_tune_37 rfl rfl ?_
        refine mk_get (nx := 41) (v := .ref (ad (13 + 6 * v))) X (12 + 6 * v) (by omega) (sh_Line cs ad (show v < 4 by omega) _) rfl in_Line 0 (by decide) wd_126 rfl rfl d_Line_tune_38 rfl ?_
        refine mk_iload (nx := 43) X 4 d_Line_tune_41 rfl rfl ?_
        refine mk_iald (nx := 44) (j := p) X (13 + 6 * v) 0 (by omega) (sh_Lnotes cs ad (show v < 4 by omega) _) rfl (by omega) (by omega) (by decide) rfl d_Line_tune_43 rfl ?_
        rw [show J (13 + 6 * v) p = (cnt c v p : Int) from ((hO (13 + 6 * v) p (by omega)).trans ((hB p (by omega)).1))]
        refine mk_iald (nx := 45) (j := (cnt c v p)) X 2 0 (by decide) (sh_Spit cs ad _) rfl (by omega) (by omega) (by decide) rfl d_Line_tune_44 rfl ?_
        rw [show J 2 (cnt c v p) = c 1 (cnt c v p) from ((hO (2) (cnt c v p) (by omega)).trans ((hm.2 (cnt c v p) (by omega)).1))]
        refine mk_istore (nx := 47) X [(5, .int (zi (c 1 (cnt c v p)))), (0, .ref (ad (12 + 6 * v))), (1, .ref (ad 1)), (2, .int (zi (fsr c))), (3, .int (zi z)), (4, .int (zi (p : Int)))] d_Line_tune_45 (by decide) rfl rfl ?_
        refine mk_iload (nx := 49) X 0 d_Line_tune_47 rfl rfl ?_
        refine mk_iconst (nx := 50) X d_Line_tune_49 rfl ?_
        refine mk_icmp_ne (tgt := 66) (nx := 53) X d_Line_tune_50 (by omega) (by omega) (by decide) rfl (fun c50 => ?_) (fun c50 => ?_)
        · skip
          refine mk_iload (nx := 68) X 0 d_Line_tune_66 rfl rfl ?_
          refine mk_bipush (nx := 70) X d_Line_tune_68 (by decide) rfl ?_
          refine mk_icmp_eq (tgt := 86) (nx := 73) X d_Line_tune_70 (by omega) (by omega) (by decide) rfl (fun c70 => ?_) (fun c70 => ?_)
          · skip
            refine mk_aloadn (nx := 87) X 1 d_Line_tune_86 rfl rfl ?_
            refine mk_get (nx := 90) (v := .ref (ad (15 + 6 * v))) X (12 + 6 * v) (by omega) (sh_Line cs ad (show v < 4 by omega) _) rfl in_Line 2 (by decide) wd_129 rfl rfl d_Line_tune_87 rfl ?_
            refine mk_iload (nx := 92) X 5 d_Line_tune_90 rfl rfl ?_
            refine mk_sipush (nx := 95) X d_Line_tune_92 (by decide) rfl ?_
            refine mk_iast (nx := 96) (j := p) X (15 + 6 * v) 0 (by omega) (sh_Lpit cs ad (show v < 4 by omega)) rfl (by omega) (by omega) (by decide) rfl d_Line_tune_95 rfl ?_
            obtain ⟨J1, hJ1⟩ : ∃ W_ : Wo, W_ = up2 J (15 + 6 * v) p 1001 := ⟨_, rfl⟩
            refine mk_same hJ1.symm ?_
            have hJ1s : J1 (15 + 6 * v) p = 1001 := hJ1 ▸ up2_ss J (15 + 6 * v) p 1001
            have hJ1o : ∀ a b, (a ≠ (15 + 6 * v) ∨ b ≠ p) → J1 a b = J a b := hJ1 ▸ up2_o J (15 + 6 * v) p 1001
            refine mk_goto (tgt := 129) X d_Line_tune_96 (by decide) ?_
            refine mk_iinc (nx := 132) X 5 [(4, .int (zi ((p : Int) + 1))), (5, .int (zi (c 1 (cnt c v p)))), (0, .ref (ad (12 + 6 * v))), (1, .ref (ad 1)), (2, .int (zi (fsr c))), (3, .int (zi z))] d_Line_tune_129 rfl (by decide) rfl rfl ?_
            refine mk_goto (tgt := 24) X d_Line_tune_132 (by decide) ?_
            refine mk_lv [2, 3, 4, 5, 0] rfl ?_
            exact ih24 (p + 1) z J1 (by omega) (by first | omega) (by first | exact fun a b _ => rfl | exact fun a b h => (hJ1o a b (Or.inl h)).trans (hO a b h)) (by first | exact lt_0 | exact lt_s (fun q hq => (hJ1o _ q (Or.inr (by omega))).trans (hT q hq)) (hJ1s.trans (by first | (exfalso; omega) | rw [clp_r (by omega)] | rw [clp_o (by omega) (by omega) (by omega)] | rw [clp_n (by omega) (by omega) (by omega)] | (rw [clp_i (by omega) (by omega) (by omega) (by omega) (by omega)]; omega)))) (by omega)
          · skip
            refine mk_aloadn (nx := 74) X 1 d_Line_tune_73 rfl rfl ?_
            refine mk_get (nx := 77) (v := .int (zi (J (12 + 6 * v) 11))) X (12 + 6 * v) (by omega) (sh_Line cs ad (show v < 4 by omega) _) rfl in_Line 11 (by decide) wd_150 rfl rfl d_Line_tune_74 rfl ?_
            rw [show J (12 + 6 * v) 11 = iv1 from ((hO (12 + 6 * v) 11 (by omega)).trans ((hF.2.2.2.2.2.2.trans hiv1.symm)))]
            refine mk_if_eq (tgt := 99) (nx := 80) X d_Line_tune_77 (by omega) (by decide) rfl (fun c77 => ?_) (fun c77 => ?_)
            · skip
              refine mk_aloadn (nx := 100) X 1 d_Line_tune_99 rfl rfl ?_
              refine mk_get (nx := 103) (v := .ref (ad (15 + 6 * v))) X (12 + 6 * v) (by omega) (sh_Line cs ad (show v < 4 by omega) _) rfl in_Line 2 (by decide) wd_129 rfl rfl d_Line_tune_100 rfl ?_
              refine mk_iload (nx := 105) X 5 d_Line_tune_103 rfl rfl ?_
              refine mk_aloadn (nx := 106) X 1 d_Line_tune_105 rfl rfl ?_
              refine mk_get (nx := 109) (v := .int (zi (J (12 + 6 * v) 11))) X (12 + 6 * v) (by omega) (sh_Line cs ad (show v < 4 by omega) _) rfl in_Line 11 (by decide) wd_150 rfl rfl d_Line_tune_106 rfl ?_
              rw [show J (12 + 6 * v) 11 = iv1 from ((hO (12 + 6 * v) 11 (by omega)).trans ((hF.2.2.2.2.2.2.trans hiv1.symm)))]
              refine mk_if_eq (tgt := 121) (nx := 112) X d_Line_tune_109 (by omega) (by decide) rfl (fun c109 => ?_) (fun c109 => ?_)
              · skip
                refine mk_iload (nx := 123) X 0 d_Line_tune_121 rfl rfl ?_
                refine mk_aloadn (nx := 124) X 1 d_Line_tune_123 rfl rfl ?_
                refine mk_get (nx := 127) (v := .int (zi (J (12 + 6 * v) 9))) X (12 + 6 * v) (by omega) (sh_Line cs ad (show v < 4 by omega) _) rfl in_Line 9 (by decide) wd_145 rfl rfl d_Line_tune_124 rfl ?_
                rw [show J (12 + 6 * v) 9 = c (3 + v) 2 from ((hO (12 + 6 * v) 9 (by omega)).trans (hF.2.2.2.2.1))]
                refine mk_iadd (nx := 128) X d_Line_tune_127 rfl ?_
                refine mk_iast (nx := 129) (j := p) X (15 + 6 * v) 0 (by omega) (sh_Lpit cs ad (show v < 4 by omega)) rfl (by omega) (by omega) (by decide) rfl d_Line_tune_128 rfl ?_
                obtain ⟨J2, hJ2⟩ : ∃ W_ : Wo, W_ = up2 J (15 + 6 * v) p ((c 1 (cnt c v p)) + (c (3 + v) 2)) := ⟨_, rfl⟩
                refine mk_same hJ2.symm ?_
                have hJ2s : J2 (15 + 6 * v) p = (c 1 (cnt c v p)) + (c (3 + v) 2) := hJ2 ▸ up2_ss J (15 + 6 * v) p ((c 1 (cnt c v p)) + (c (3 + v) 2))
                have hJ2o : ∀ a b, (a ≠ (15 + 6 * v) ∨ b ≠ p) → J2 a b = J a b := hJ2 ▸ up2_o J (15 + 6 * v) p ((c 1 (cnt c v p)) + (c (3 + v) 2))
                refine mk_iinc (nx := 132) X 5 [(4, .int (zi ((p : Int) + 1))), (5, .int (zi (c 1 (cnt c v p)))), (0, .ref (ad (12 + 6 * v))), (1, .ref (ad 1)), (2, .int (zi (fsr c))), (3, .int (zi z))] d_Line_tune_129 rfl (by decide) rfl rfl ?_
                refine mk_goto (tgt := 24) X d_Line_tune_132 (by decide) ?_
                refine mk_lv [2, 3, 4, 5, 0] rfl ?_
                exact ih24 (p + 1) z J2 (by omega) (by first | omega) (by first | exact fun a b _ => rfl | exact fun a b h => (hJ2o a b (Or.inl h)).trans (hO a b h)) (by first | exact lt_0 | exact lt_s (fun q hq => (hJ2o _ q (Or.inr (by omega))).trans (hT q hq)) (hJ2s.trans (by first | (exfalso; omega) | rw [clp_r (by omega)] | rw [clp_o (by omega) (by omega) (by omega)] | rw [clp_n (by omega) (by omega) (by omega)] | (rw [clp_i (by omega) (by omega) (by omega) (by omega) (by omega)]; omega)))) (by omega)
              · skip
                refine mk_iconst (nx := 113) X d_Line_tune_112 rfl ?_
                refine mk_iloadn (nx := 114) X 4 d_Line_tune_113 rfl rfl ?_
                refine mk_imul (nx := 115) X d_Line_tune_114 rfl ?_
                refine mk_iload (nx := 117) X 0 d_Line_tune_115 rfl rfl ?_
                refine mk_isub (nx := 118) X d_Line_tune_117 rfl ?_
                refine mk_goto (tgt := 123) X d_Line_tune_118 (by decide) ?_
                refine mk_aloadn (nx := 124) X 1 d_Line_tune_123 rfl rfl ?_
                refine mk_get (nx := 127) (v := .int (zi (J (12 + 6 * v) 9))) X (12 + 6 * v) (by omega) (sh_Line cs ad (show v < 4 by omega) _) rfl in_Line 9 (by decide) wd_145 rfl rfl d_Line_tune_124 rfl ?_
                rw [show J (12 + 6 * v) 9 = c (3 + v) 2 from ((hO (12 + 6 * v) 9 (by omega)).trans (hF.2.2.2.2.1))]
                refine mk_iadd (nx := 128) X d_Line_tune_127 rfl ?_
                refine mk_iast (nx := 129) (j := p) X (15 + 6 * v) 0 (by omega) (sh_Lpit cs ad (show v < 4 by omega)) rfl (by omega) (by omega) (by decide) rfl d_Line_tune_128 rfl ?_
                obtain ⟨J3, hJ3⟩ : ∃ W_ : Wo, W_ = up2 J (15 + 6 * v) p (((2 * z) - (c 1 (cnt c v p))) + (c (3 + v) 2)) := ⟨_, rfl⟩
                refine mk_same hJ3.symm ?_
                have hJ3s : J3 (15 + 6 * v) p = ((2 * z) - (c 1 (cnt c v p))) + (c (3 + v) 2) := hJ3 ▸ up2_ss J (15 + 6 * v) p (((2 * z) - (c 1 (cnt c v p))) + (c (3 + v) 2))
                have hJ3o : ∀ a b, (a ≠ (15 + 6 * v) ∨ b ≠ p) → J3 a b = J a b := hJ3 ▸ up2_o J (15 + 6 * v) p (((2 * z) - (c 1 (cnt c v p))) + (c (3 + v) 2))
                refine mk_iinc (nx := 132) X 5 [(4, .int (zi ((p : Int) + 1))), (5, .int (zi (c 1 (cnt c v p)))), (0, .ref (ad (12 + 6 * v))), (1, .ref (ad 1)), (2, .int (zi (fsr c))), (3, .int (zi z))] d_Line_tune_129 rfl (by decide) rfl rfl ?_
                refine mk_goto (tgt := 24) X d_Line_tune_132 (by decide) ?_
                refine mk_lv [2, 3, 4, 5, 0] rfl ?_
                exact ih24 (p + 1) z J3 (by omega) (by first | omega) (by first | exact fun a b _ => rfl | exact fun a b h => (hJ3o a b (Or.inl h)).trans (hO a b h)) (by first | exact lt_0 | exact lt_s (fun q hq => (hJ3o _ q (Or.inr (by omega))).trans (hT q hq)) (hJ3s.trans (by first | (exfalso; omega) | rw [clp_r (by omega)] | rw [clp_o (by omega) (by omega) (by omega)] | rw [clp_n (by omega) (by omega) (by omega)] | (rw [clp_i (by omega) (by omega) (by omega) (by omega) (by omega)]; omega)))) (by omega)
            · skip
              refine mk_iloadn (nx := 81) X 4 d_Line_tune_80 rfl rfl ?_
              refine mk_bipush (nx := 83) X d_Line_tune_81 (by decide) rfl ?_
              refine mk_icmp_ne (tgt := 99) (nx := 86) X d_Line_tune_83 (by omega) (by omega) (by decide) rfl (fun c83 => ?_) (fun c83 => ?_)
              · skip
                refine mk_aloadn (nx := 100) X 1 d_Line_tune_99 rfl rfl ?_
                refine mk_get (nx := 103) (v := .ref (ad (15 + 6 * v))) X (12 + 6 * v) (by omega) (sh_Line cs ad (show v < 4 by omega) _) rfl in_Line 2 (by decide) wd_129 rfl rfl d_Line_tune_100 rfl ?_
                refine mk_iload (nx := 105) X 5 d_Line_tune_103 rfl rfl ?_
                refine mk_aloadn (nx := 106) X 1 d_Line_tune_105 rfl rfl ?_
                refine mk_get (nx := 109) (v := .int (zi (J (12 + 6 * v) 11))) X (12 + 6 * v) (by omega) (sh_Line cs ad (show v < 4 by omega) _) rfl in_Line 11 (by decide) wd_150 rfl rfl d_Line_tune_106 rfl ?_
                rw [show J (12 + 6 * v) 11 = iv1 from ((hO (12 + 6 * v) 11 (by omega)).trans ((hF.2.2.2.2.2.2.trans hiv1.symm)))]
                refine mk_if_eq (tgt := 121) (nx := 112) X d_Line_tune_109 (by omega) (by decide) rfl (fun c109 => ?_) (fun c109 => ?_)
                · skip
                  refine mk_iload (nx := 123) X 0 d_Line_tune_121 rfl rfl ?_
                  refine mk_aloadn (nx := 124) X 1 d_Line_tune_123 rfl rfl ?_
                  refine mk_get (nx := 127) (v := .int (zi (J (12 + 6 * v) 9))) X (12 + 6 * v) (by omega) (sh_Line cs ad (show v < 4 by omega) _) rfl in_Line 9 (by decide) wd_145 rfl rfl d_Line_tune_124 rfl ?_
                  rw [show J (12 + 6 * v) 9 = c (3 + v) 2 from ((hO (12 + 6 * v) 9 (by omega)).trans (hF.2.2.2.2.1))]
                  refine mk_iadd (nx := 128) X d_Line_tune_127 rfl ?_
                  refine mk_iast (nx := 129) (j := p) X (15 + 6 * v) 0 (by omega) (sh_Lpit cs ad (show v < 4 by omega)) rfl (by omega) (by omega) (by decide) rfl d_Line_tune_128 rfl ?_
                  obtain ⟨J4, hJ4⟩ : ∃ W_ : Wo, W_ = up2 J (15 + 6 * v) p ((c 1 (cnt c v p)) + (c (3 + v) 2)) := ⟨_, rfl⟩
                  refine mk_same hJ4.symm ?_
                  have hJ4s : J4 (15 + 6 * v) p = (c 1 (cnt c v p)) + (c (3 + v) 2) := hJ4 ▸ up2_ss J (15 + 6 * v) p ((c 1 (cnt c v p)) + (c (3 + v) 2))
                  have hJ4o : ∀ a b, (a ≠ (15 + 6 * v) ∨ b ≠ p) → J4 a b = J a b := hJ4 ▸ up2_o J (15 + 6 * v) p ((c 1 (cnt c v p)) + (c (3 + v) 2))
                  refine mk_iinc (nx := 132) X 5 [(4, .int (zi ((p : Int) + 1))), (5, .int (zi (c 1 (cnt c v p)))), (0, .ref (ad (12 + 6 * v))), (1, .ref (ad 1)), (2, .int (zi (fsr c))), (3, .int (zi z))] d_Line_tune_129 rfl (by decide) rfl rfl ?_
                  refine mk_goto (tgt := 24) X d_Line_tune_132 (by decide) ?_
                  refine mk_lv [2, 3, 4, 5, 0] rfl ?_
                  exact ih24 (p + 1) z J4 (by omega) (by first | omega) (by first | exact fun a b _ => rfl | exact fun a b h => (hJ4o a b (Or.inl h)).trans (hO a b h)) (by first | exact lt_0 | exact lt_s (fun q hq => (hJ4o _ q (Or.inr (by omega))).trans (hT q hq)) (hJ4s.trans (by first | (exfalso; omega) | rw [clp_r (by omega)] | rw [clp_o (by omega) (by omega) (by omega)] | rw [clp_n (by omega) (by omega) (by omega)] | (rw [clp_i (by omega) (by omega) (by omega) (by omega) (by omega)]; omega)))) (by omega)
                · skip
                  refine mk_iconst (nx := 113) X d_Line_tune_112 rfl ?_
                  refine mk_iloadn (nx := 114) X 4 d_Line_tune_113 rfl rfl ?_
                  refine mk_imul (nx := 115) X d_Line_tune_114 rfl ?_
                  refine mk_iload (nx := 117) X 0 d_Line_tune_115 rfl rfl ?_
                  refine mk_isub (nx := 118) X d_Line_tune_117 rfl ?_
                  refine mk_goto (tgt := 123) X d_Line_tune_118 (by decide) ?_
                  refine mk_aloadn (nx := 124) X 1 d_Line_tune_123 rfl rfl ?_
                  refine mk_get (nx := 127) (v := .int (zi (J (12 + 6 * v) 9))) X (12 + 6 * v) (by omega) (sh_Line cs ad (show v < 4 by omega) _) rfl in_Line 9 (by decide) wd_145 rfl rfl d_Line_tune_124 rfl ?_
                  rw [show J (12 + 6 * v) 9 = c (3 + v) 2 from ((hO (12 + 6 * v) 9 (by omega)).trans (hF.2.2.2.2.1))]
                  refine mk_iadd (nx := 128) X d_Line_tune_127 rfl ?_
                  refine mk_iast (nx := 129) (j := p) X (15 + 6 * v) 0 (by omega) (sh_Lpit cs ad (show v < 4 by omega)) rfl (by omega) (by omega) (by decide) rfl d_Line_tune_128 rfl ?_
                  obtain ⟨J5, hJ5⟩ : ∃ W_ : Wo, W_ = up2 J (15 + 6 * v) p (((2 * z) - (c 1 (cnt c v p))) + (c (3 + v) 2)) := ⟨_, rfl⟩
                  refine mk_same hJ5.symm ?_
                  have hJ5s : J5 (15 + 6 * v) p = ((2 * z) - (c 1 (cnt c v p))) + (c (3 + v) 2) := hJ5 ▸ up2_ss J (15 + 6 * v) p (((2 * z) - (c 1 (cnt c v p))) + (c (3 + v) 2))
                  have hJ5o : ∀ a b, (a ≠ (15 + 6 * v) ∨ b ≠ p) → J5 a b = J a b := hJ5 ▸ up2_o J (15 + 6 * v) p (((2 * z) - (c 1 (cnt c v p))) + (c (3 + v) 2))
                  refine mk_iinc (nx := 132) X 5 [(4, .int (zi ((p : Int) + 1))), (5, .int (zi (c 1 (cnt c v p)))), (0, .ref (ad (12 + 6 * v))), (1, .ref (ad 1)), (2, .int (zi (fsr c))), (3, .int (zi z))] d_Line_tune_129 rfl (by decide) rfl rfl ?_
                  refine mk_goto (tgt := 24) X d_Line_tune_132 (by decide) ?_
                  refine mk_lv [2, 3, 4, 5, 0] rfl ?_
                  exact ih24 (p + 1) z J5 (by omega) (by first | omega) (by first | exact fun a b _ => rfl | exact fun a b h => (hJ5o a b (Or.inl h)).trans (hO a b h)) (by first | exact lt_0 | exact lt_s (fun q hq => (hJ5o _ q (Or.inr (by omega))).trans (hT q hq)) (hJ5s.trans (by first | (exfalso; omega) | rw [clp_r (by omega)] | rw [clp_o (by omega) (by omega) (by omega)] | rw [clp_n (by omega) (by omega) (by omega)] | (rw [clp_i (by omega) (by omega) (by omega) (by omega) (by omega)]; omega)))) (by omega)
              · skip
                refine mk_aloadn (nx := 87) X 1 d_Line_tune_86 rfl rfl ?_
                refine mk_get (nx := 90) (v := .ref (ad (15 + 6 * v))) X (12 + 6 * v) (by omega) (sh_Line cs ad (show v < 4 by omega) _) rfl in_Line 2 (by decide) wd_129 rfl rfl d_Line_tune_87 rfl ?_
                refine mk_iload (nx := 92) X 5 d_Line_tune_90 rfl rfl ?_
                refine mk_sipush (nx := 95) X d_Line_tune_92 (by decide) rfl ?_
                refine mk_iast (nx := 96) (j := p) X (15 + 6 * v) 0 (by omega) (sh_Lpit cs ad (show v < 4 by omega)) rfl (by omega) (by omega) (by decide) rfl d_Line_tune_95 rfl ?_
                obtain ⟨J6, hJ6⟩ : ∃ W_ : Wo, W_ = up2 J (15 + 6 * v) p 1001 := ⟨_, rfl⟩
                refine mk_same hJ6.symm ?_
                have hJ6s : J6 (15 + 6 * v) p = 1001 := hJ6 ▸ up2_ss J (15 + 6 * v) p 1001
                have hJ6o : ∀ a b, (a ≠ (15 + 6 * v) ∨ b ≠ p) → J6 a b = J a b := hJ6 ▸ up2_o J (15 + 6 * v) p 1001
                refine mk_goto (tgt := 129) X d_Line_tune_96 (by decide) ?_
                refine mk_iinc (nx := 132) X 5 [(4, .int (zi ((p : Int) + 1))), (5, .int (zi (c 1 (cnt c v p)))), (0, .ref (ad (12 + 6 * v))), (1, .ref (ad 1)), (2, .int (zi (fsr c))), (3, .int (zi z))] d_Line_tune_129 rfl (by decide) rfl rfl ?_
                refine mk_goto (tgt := 24) X d_Line_tune_132 (by decide) ?_
                refine mk_lv [2, 3, 4, 5, 0] rfl ?_
                exact ih24 (p + 1) z J6 (by omega) (by first | omega) (by first | exact fun a b _ => rfl | exact fun a b h => (hJ6o a b (Or.inl h)).trans (hO a b h)) (by first | exact lt_0 | exact lt_s (fun q hq => (hJ6o _ q (Or.inr (by omega))).trans (hT q hq)) (hJ6s.trans (by first | (exfalso; omega) | rw [clp_r (by omega)] | rw [clp_o (by omega) (by omega) (by omega)] | rw [clp_n (by omega) (by omega) (by omega)] | (rw [clp_i (by omega) (by omega) (by omega) (by omega) (by omega)]; omega)))) (by omega)
        · skip
          refine mk_aloadn (nx := 54) X 1 d_Line_tune_53 rfl rfl ?_
          refine mk_get (nx := 57) (v := .ref (ad (15 + 6 * v))) X (12 + 6 * v) (by omega) (sh_Line cs ad (show v < 4 by omega) _) rfl in_Line 2 (by decide) wd_129 rfl rfl d_Line_tune_54 rfl ?_
          refine mk_iload (nx := 59) X 5 d_Line_tune_57 rfl rfl ?_
          refine mk_sipush (nx := 62) X d_Line_tune_59 (by decide) rfl ?_
          refine mk_iast (nx := 63) (j := p) X (15 + 6 * v) 0 (by omega) (sh_Lpit cs ad (show v < 4 by omega)) rfl (by omega) (by omega) (by decide) rfl d_Line_tune_62 rfl ?_
          obtain ⟨J7, hJ7⟩ : ∃ W_ : Wo, W_ = up2 J (15 + 6 * v) p 1000 := ⟨_, rfl⟩
          refine mk_same hJ7.symm ?_
          have hJ7s : J7 (15 + 6 * v) p = 1000 := hJ7 ▸ up2_ss J (15 + 6 * v) p 1000
          have hJ7o : ∀ a b, (a ≠ (15 + 6 * v) ∨ b ≠ p) → J7 a b = J a b := hJ7 ▸ up2_o J (15 + 6 * v) p 1000
          refine mk_goto (tgt := 129) X d_Line_tune_63 (by decide) ?_
          refine mk_iinc (nx := 132) X 5 [(4, .int (zi ((p : Int) + 1))), (5, .int (zi (c 1 (cnt c v p)))), (0, .ref (ad (12 + 6 * v))), (1, .ref (ad 1)), (2, .int (zi (fsr c))), (3, .int (zi z))] d_Line_tune_129 rfl (by decide) rfl rfl ?_
          refine mk_goto (tgt := 24) X d_Line_tune_132 (by decide) ?_
          refine mk_lv [2, 3, 4, 5, 0] rfl ?_
          exact ih24 (p + 1) z J7 (by omega) (by first | omega) (by first | exact fun a b _ => rfl | exact fun a b h => (hJ7o a b (Or.inl h)).trans (hO a b h)) (by first | exact lt_0 | exact lt_s (fun q hq => (hJ7o _ q (Or.inr (by omega))).trans (hT q hq)) (hJ7s.trans (by first | (exfalso; omega) | rw [clp_r (by omega)] | rw [clp_o (by omega) (by omega) (by omega)] | rw [clp_n (by omega) (by omega) (by omega)] | (rw [clp_i (by omega) (by omega) (by omega) (by omega) (by omega)]; omega)))) (by omega)
  refine mk_aloadn (nx := 1) X 1 d_Line_tune_0 rfl rfl ?_
  refine mk_callVi (nx := 4) (n := 0) (As := []) (rest := []) X 1 (by decide) (sh_Subject cs ad _) rfl (c_Subject_firstSounding l D cs ad zt hi c I hw hm) (g_Subject_firstSounding wd_413) rfl ⟨rfl, rfl⟩ (by decide +kernel) ⟨by decide, by decide⟩ rfl (Nat.le_of_ble_eq_true rfl) rfl d_Line_tune_1 rfl ?_
  intro r1 J8 hJ8
  obtain ⟨rfl, rfl⟩ := hJ8
  refine mk_istoren (nx := 5) X [(2, .int (zi (fsr c))), (0, .ref (ad (12 + 6 * v))), (1, .ref (ad 1))] d_Line_tune_4 (by decide) rfl rfl ?_
  refine mk_iloadn (nx := 6) X 0 d_Line_tune_5 rfl rfl ?_
  refine mk_iconst (nx := 7) X d_Line_tune_6 rfl ?_
  refine mk_icmp_ne (tgt := 14) (nx := 10) X d_Line_tune_7 (by omega) (by omega) (by decide) rfl (fun c7 => ?_) (fun c7 => ?_)
  · skip
    refine mk_aloadn (nx := 15) X 2 d_Line_tune_14 rfl rfl ?_
    refine mk_get (nx := 18) (v := .ref (ad 2)) X 1 (by decide) (sh_Subject cs ad _) rfl in_Subject 0 (by decide) wd_66 rfl rfl d_Line_tune_15 rfl ?_
    refine mk_iloadn (nx := 19) X 0 d_Line_tune_18 rfl rfl ?_
    refine mk_iald (nx := 20) (j := (fsr c).toNat) X 2 0 (by decide) (sh_Spit cs ad _) rfl (by omega) (by omega) (by decide) rfl d_Line_tune_19 rfl ?_
    rw [show I 2 ((fsr c).toNat) = c 1 ((fsr c).toNat) from (hm.2 ((fsr c).toNat) (by omega)).1]
    refine mk_istoren (nx := 21) X [(3, .int (zi (c 1 ((fsr c).toNat)))), (2, .int (zi (fsr c))), (0, .ref (ad (12 + 6 * v))), (1, .ref (ad 1))] d_Line_tune_20 (by decide) rfl rfl ?_
    refine mk_iconst (nx := 22) X d_Line_tune_21 rfl ?_
    refine mk_istore (nx := 24) X [(4, .int (zi 0)), (3, .int (zi (c 1 ((fsr c).toNat)))), (2, .int (zi (fsr c))), (0, .ref (ad (12 + 6 * v))), (1, .ref (ad 1))] d_Line_tune_22 (by decide) rfl rfl ?_
    refine mk_lv [3, 4, 2, 1, 0] rfl ?_
    exact L24 _ 0 (c 1 ((fsr c).toNat)) I (by omega) (by first | omega) (by first | exact fun a b _ => rfl | exact fun a b h => (hIo a b (Or.inl h)).trans (hO a b h)) (by first | exact lt_0 | exact lt_s (fun q hq => (hIo _ q (Or.inr (by omega))).trans (hT q hq)) (hIs.trans (by first | (exfalso; omega) | rw [clp_r (by omega)] | rw [clp_o (by omega) (by omega) (by omega)] | rw [clp_n (by omega) (by omega) (by omega)] | (rw [clp_i (by omega) (by omega) (by omega) (by omega) (by omega)]; omega)))) (Nat.lt_succ_self _)
  · skip
    refine mk_iconst (nx := 11) X d_Line_tune_10 rfl ?_
    refine mk_goto (tgt := 20) X d_Line_tune_11 (by decide) ?_
    refine mk_istoren (nx := 21) X [(3, .int (zi (-1))), (2, .int (zi (fsr c))), (0, .ref (ad (12 + 6 * v))), (1, .ref (ad 1))] d_Line_tune_20 (by decide) rfl rfl ?_
    refine mk_iconst (nx := 22) X d_Line_tune_21 rfl ?_
    refine mk_istore (nx := 24) X [(4, .int (zi 0)), (3, .int (zi (-1))), (2, .int (zi (fsr c))), (0, .ref (ad (12 + 6 * v))), (1, .ref (ad 1))] d_Line_tune_22 (by decide) rfl rfl ?_
    refine mk_lv [3, 4, 2, 1, 0] rfl ?_
    exact L24 _ 0 (-1) I (by omega) (by first | omega) (by first | exact fun a b _ => rfl | exact fun a b h => (hIo a b (Or.inl h)).trans (hO a b h)) (by first | exact lt_0 | exact lt_s (fun q hq => (hIo _ q (Or.inr (by omega))).trans (hT q hq)) (hIs.trans (by first | (exfalso; omega) | rw [clp_r (by omega)] | rw [clp_o (by omega) (by omega) (by omega)] | rw [clp_n (by omega) (by omega) (by omega)] | (rw [clp_i (by omega) (by omega) (by omega) (by omega) (by omega)]; omega)))) (Nat.lt_succ_self _)
