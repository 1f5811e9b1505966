theorem cmN_fr {c I J : Wo} (h : ∀ a b, a < 4 → J a b = I a b) (hm : cmN c I) : cmN c J := ⟨by rw [h 1 2 (by omega)]; exact hm.1, fun j hj => by rw [h 2 j (by omega), h 3 j (by omega)]; exact hm.2 j hj⟩
section LY2
variable {c I J K : Wo} {v : Nat} {x : Int}
theorem ly_init (e : J = up2 (up2 (up2 (up2 (up2 (up2 (up2 I (12 + 6 * v) 10 (c (3 + v) 0)) (12 + 6 * v) 11 x) (12 + 6 * v) 8 (c (3 + v) 1)) (12 + 6 * v) 9 (c (3 + v) 2)) (12 + 6 * v) 7 (c 0 6)) (12 + 6 * v) 5 (c 0 0)) (12 + 6 * v) 6 0) (hx : x = (if ziand (c (3 + v) 3) 1 = 0 then 0 else 1)) : LyI c I J v 0 := by
  subst e
  refine ⟨fun a b h => by simp only [up2_n (show a ≠ 12 + 6 * v by omega)], ?_, by rw [up2_s, up1_s, cbg_0], lt_0⟩
  simp only [up2_s]
  simpa [up1] using hx
theorem ly_F (h : LyI c I J v (cn c)) : LnF c J v := ⟨h.2.1.1, h.2.2.1, h.2.1.2.1, h.2.1.2.2.1, h.2.1.2.2.2.1, h.2.1.2.2.2.2.1, h.2.1.2.2.2.2.2⟩
theorem ly_B (h : LyI c I J v (cn c)) : LnB c J v := h.2.2.2
theorem LnF_fr (h : ∀ b, K (12 + 6 * v) b = J (12 + 6 * v) b) (hF : LnF c J v) : LnF c K v := by
  unfold LnF at hF ⊢
  simpa only [h] using hF
theorem LnB_fr (h : ∀ b, K (13 + 6 * v) b = J (13 + 6 * v) b ∧ K (14 + 6 * v) b = J (14 + 6 * v) b) (hB : LnB c J v) : LnB c K v := fun p hp => by rw [(h p).1, (h p).2]; exact hB p hp
end LY2

-- CanonMaker$Line.lay(LCanonMaker$Subject;LCanonMaker$Voice;I)V
theorem d_Line_lay_0 : decode prog_4_method_2_code 0 = .ok (.aload_n 2, 1) := by decide +kernel
theorem d_Line_lay_1 : decode prog_4_method_2_code 1 = .ok (.getfield 27, 3) := by decide +kernel
theorem d_Line_lay_4 : decode prog_4_method_2_code 4 = .ok (.iconst 2, 1) := by decide +kernel
theorem d_Line_lay_5 : decode prog_4_method_2_code 5 = .ok (.iand, 1) := by decide +kernel
theorem d_Line_lay_6 : decode prog_4_method_2_code 6 = .ok (.ifCond .eq 7, 3) := by decide +kernel
theorem d_Line_lay_9 : decode prog_4_method_2_code 9 = .ok (.iconst 1, 1) := by decide +kernel
theorem d_Line_lay_10 : decode prog_4_method_2_code 10 = .ok (.goto 4, 3) := by decide +kernel
theorem d_Line_lay_13 : decode prog_4_method_2_code 13 = .ok (.iconst 0, 1) := by decide +kernel
theorem d_Line_lay_14 : decode prog_4_method_2_code 14 = .ok (.istore 4, 2) := by decide +kernel
theorem d_Line_lay_16 : decode prog_4_method_2_code 16 = .ok (.aload_n 0, 1) := by decide +kernel
theorem d_Line_lay_17 : decode prog_4_method_2_code 17 = .ok (.aload_n 2, 1) := by decide +kernel
theorem d_Line_lay_18 : decode prog_4_method_2_code 18 = .ok (.getfield 33, 3) := by decide +kernel
theorem d_Line_lay_21 : decode prog_4_method_2_code 21 = .ok (.putfield 37, 3) := by decide +kernel
theorem d_Line_lay_24 : decode prog_4_method_2_code 24 = .ok (.aload_n 0, 1) := by decide +kernel
theorem d_Line_lay_25 : decode prog_4_method_2_code 25 = .ok (.aload_n 2, 1) := by decide +kernel
theorem d_Line_lay_26 : decode prog_4_method_2_code 26 = .ok (.getfield 27, 3) := by decide +kernel
theorem d_Line_lay_29 : decode prog_4_method_2_code 29 = .ok (.iconst 1, 1) := by decide +kernel
theorem d_Line_lay_30 : decode prog_4_method_2_code 30 = .ok (.iand, 1) := by decide +kernel
theorem d_Line_lay_31 : decode prog_4_method_2_code 31 = .ok (.ifCond .eq 7, 3) := by decide +kernel
theorem d_Line_lay_34 : decode prog_4_method_2_code 34 = .ok (.iconst 1, 1) := by decide +kernel
theorem d_Line_lay_35 : decode prog_4_method_2_code 35 = .ok (.goto 4, 3) := by decide +kernel
theorem d_Line_lay_38 : decode prog_4_method_2_code 38 = .ok (.iconst 0, 1) := by decide +kernel
theorem d_Line_lay_39 : decode prog_4_method_2_code 39 = .ok (.putfield 38, 3) := by decide +kernel
theorem d_Line_lay_42 : decode prog_4_method_2_code 42 = .ok (.aload_n 0, 1) := by decide +kernel
theorem d_Line_lay_43 : decode prog_4_method_2_code 43 = .ok (.aload_n 2, 1) := by decide +kernel
theorem d_Line_lay_44 : decode prog_4_method_2_code 44 = .ok (.getfield 41, 3) := by decide +kernel
theorem d_Line_lay_47 : decode prog_4_method_2_code 47 = .ok (.putfield 44, 3) := by decide +kernel
theorem d_Line_lay_50 : decode prog_4_method_2_code 50 = .ok (.aload_n 0, 1) := by decide +kernel
theorem d_Line_lay_51 : decode prog_4_method_2_code 51 = .ok (.aload_n 2, 1) := by decide +kernel
theorem d_Line_lay_52 : decode prog_4_method_2_code 52 = .ok (.getfield 45, 3) := by decide +kernel
theorem d_Line_lay_55 : decode prog_4_method_2_code 55 = .ok (.putfield 48, 3) := by decide +kernel
theorem d_Line_lay_58 : decode prog_4_method_2_code 58 = .ok (.aload_n 0, 1) := by decide +kernel
theorem d_Line_lay_59 : decode prog_4_method_2_code 59 = .ok (.iload_n 3, 1) := by decide +kernel
theorem d_Line_lay_60 : decode prog_4_method_2_code 60 = .ok (.putfield 49, 3) := by decide +kernel
theorem d_Line_lay_63 : decode prog_4_method_2_code 63 = .ok (.aload_n 0, 1) := by decide +kernel
theorem d_Line_lay_64 : decode prog_4_method_2_code 64 = .ok (.aload_n 1, 1) := by decide +kernel
theorem d_Line_lay_65 : decode prog_4_method_2_code 65 = .ok (.getfield 52, 3) := by decide +kernel
theorem d_Line_lay_68 : decode prog_4_method_2_code 68 = .ok (.putfield 57, 3) := by decide +kernel
theorem d_Line_lay_71 : decode prog_4_method_2_code 71 = .ok (.aload_n 0, 1) := by decide +kernel
theorem d_Line_lay_72 : decode prog_4_method_2_code 72 = .ok (.iconst 0, 1) := by decide +kernel
theorem d_Line_lay_73 : decode prog_4_method_2_code 73 = .ok (.putfield 58, 3) := by decide +kernel
theorem d_Line_lay_76 : decode prog_4_method_2_code 76 = .ok (.iconst 0, 1) := by decide +kernel
theorem d_Line_lay_77 : decode prog_4_method_2_code 77 = .ok (.istore 5, 2) := by decide +kernel
theorem d_Line_lay_79 : decode prog_4_method_2_code 79 = .ok (.iload 5, 2) := by decide +kernel
theorem d_Line_lay_81 : decode prog_4_method_2_code 81 = .ok (.aload_n 0, 1) := by decide +kernel
theorem d_Line_lay_82 : decode prog_4_method_2_code 82 = .ok (.getfield 57, 3) := by decide +kernel
theorem d_Line_lay_85 : decode prog_4_method_2_code 85 = .ok (.if_icmp .ge 72, 3) := by decide +kernel
theorem d_Line_lay_88 : decode prog_4_method_2_code 88 = .ok (.aload_n 0, 1) := by decide +kernel
theorem d_Line_lay_89 : decode prog_4_method_2_code 89 = .ok (.getfield 9, 3) := by decide +kernel
theorem d_Line_lay_92 : decode prog_4_method_2_code 92 = .ok (.iload 5, 2) := by decide +kernel
theorem d_Line_lay_94 : decode prog_4_method_2_code 94 = .ok (.iload 4, 2) := by decide +kernel
theorem d_Line_lay_96 : decode prog_4_method_2_code 96 = .ok (.ifCond .eq 15, 3) := by decide +kernel
theorem d_Line_lay_99 : decode prog_4_method_2_code 99 = .ok (.aload_n 0, 1) := by decide +kernel
theorem d_Line_lay_100 : decode prog_4_method_2_code 100 = .ok (.getfield 57, 3) := by decide +kernel
theorem d_Line_lay_103 : decode prog_4_method_2_code 103 = .ok (.iconst 1, 1) := by decide +kernel
theorem d_Line_lay_104 : decode prog_4_method_2_code 104 = .ok (.isub, 1) := by decide +kernel
theorem d_Line_lay_105 : decode prog_4_method_2_code 105 = .ok (.iload 5, 2) := by decide +kernel
theorem d_Line_lay_107 : decode prog_4_method_2_code 107 = .ok (.isub, 1) := by decide +kernel
theorem d_Line_lay_108 : decode prog_4_method_2_code 108 = .ok (.goto 5, 3) := by decide +kernel
theorem d_Line_lay_111 : decode prog_4_method_2_code 111 = .ok (.iload 5, 2) := by decide +kernel
theorem d_Line_lay_113 : decode prog_4_method_2_code 113 = .ok (.iastore, 1) := by decide +kernel
theorem d_Line_lay_114 : decode prog_4_method_2_code 114 = .ok (.aload_n 0, 1) := by decide +kernel
theorem d_Line_lay_115 : decode prog_4_method_2_code 115 = .ok (.getfield 15, 3) := by decide +kernel
theorem d_Line_lay_118 : decode prog_4_method_2_code 118 = .ok (.iload 5, 2) := by decide +kernel
theorem d_Line_lay_120 : decode prog_4_method_2_code 120 = .ok (.aload_n 0, 1) := by decide +kernel
theorem d_Line_lay_121 : decode prog_4_method_2_code 121 = .ok (.getfield 58, 3) := by decide +kernel
theorem d_Line_lay_124 : decode prog_4_method_2_code 124 = .ok (.iastore, 1) := by decide +kernel
theorem d_Line_lay_125 : decode prog_4_method_2_code 125 = .ok (.aload_n 0, 1) := by decide +kernel
theorem d_Line_lay_126 : decode prog_4_method_2_code 126 = .ok (.dup, 1) := by decide +kernel
theorem d_Line_lay_127 : decode prog_4_method_2_code 127 = .ok (.getfield 58, 3) := by decide +kernel
theorem d_Line_lay_130 : decode prog_4_method_2_code 130 = .ok (.aload_n 1, 1) := by decide +kernel
theorem d_Line_lay_131 : decode prog_4_method_2_code 131 = .ok (.getfield 61, 3) := by decide +kernel
theorem d_Line_lay_134 : decode prog_4_method_2_code 134 = .ok (.aload_n 0, 1) := by decide +kernel
theorem d_Line_lay_135 : decode prog_4_method_2_code 135 = .ok (.getfield 9, 3) := by decide +kernel
theorem d_Line_lay_138 : decode prog_4_method_2_code 138 = .ok (.iload 5, 2) := by decide +kernel
theorem d_Line_lay_140 : decode prog_4_method_2_code 140 = .ok (.iaload, 1) := by decide +kernel
theorem d_Line_lay_141 : decode prog_4_method_2_code 141 = .ok (.iaload, 1) := by decide +kernel
theorem d_Line_lay_142 : decode prog_4_method_2_code 142 = .ok (.aload_n 2, 1) := by decide +kernel
theorem d_Line_lay_143 : decode prog_4_method_2_code 143 = .ok (.getfield 64, 3) := by decide +kernel
theorem d_Line_lay_146 : decode prog_4_method_2_code 146 = .ok (.imul, 1) := by decide +kernel
theorem d_Line_lay_147 : decode prog_4_method_2_code 147 = .ok (.iadd, 1) := by decide +kernel
theorem d_Line_lay_148 : decode prog_4_method_2_code 148 = .ok (.putfield 58, 3) := by decide +kernel
theorem d_Line_lay_151 : decode prog_4_method_2_code 151 = .ok (.iinc 5 1, 3) := by decide +kernel
theorem d_Line_lay_154 : decode prog_4_method_2_code 154 = .ok (.goto (-75), 3) := by decide +kernel
theorem d_Line_lay_157 : decode prog_4_method_2_code 157 = .ok (.aload_n 0, 1) := by decide +kernel
theorem d_Line_lay_158 : decode prog_4_method_2_code 158 = .ok (.aload_n 1, 1) := by decide +kernel
theorem d_Line_lay_159 : decode prog_4_method_2_code 159 = .ok (.invokevirtual 67, 3) := by decide +kernel
theorem d_Line_lay_162 : decode prog_4_method_2_code 162 = .ok (.return_, 1) := by decide +kernel
abbrev rm_Line_lay : Room := { frames := 2, cells := 0, slots := 0, locals := 48 }
set_option maxHeartbeats 4000000 in
set_option maxRecDepth 100000 in
theorem c_Line_lay (l : Launch) (D : va_G) (cs : Nat → ClassId) (ad : Nat → Nat) (zt : Nat) (hi : cm_inj ad) (c I : Wo) (hw : wfN c) (hS : wfS c) (hV : wfV c) (hm : cmN c I) (v : Nat) (hv : v < 4) (hVo : I (44 + v) 0 = c (3 + v) 0 ∧ I (44 + v) 1 = c (3 + v) 1 ∧ I (44 + v) 2 = c (3 + v) 2 ∧ I (44 + v) 3 = c (3 + v) 3 ∧ I (44 + v) 4 = c (3 + v) 4) : cm_C l D cs ad zt y_Line_lay ws_Line_lay rm_Line_lay [.ref (ad (12 + 6 * v)), .ref (ad 1), .ref (ad (44 + v)), .int (zi (c 0 6))] I (mk_pv (fun J => LnF c J v ∧ LnB c J v ∧ LnN c J v ∧ (∀ a b, (a < 12 + 6 * v ∨ 17 + 6 * v < a) → J a b = I a b))) := by
  refine mk_metv (own := "CanonMaker$Line") (Ts := wA) hi (Nat.le_refl _) (by decide) rfl (fun w h => List.mem_cons_of_mem _ h) rfl (Nat.le_of_ble_eq_true rfl) [(0, .ref (ad (12 + 6 * v))), (1, .ref (ad 1)), (2, .ref (ad (44 + v))), (3, .int (zi (c 0 6)))] rfl ?_
  intro p_ e_ s_ m_ as_ bl_ me_ co_ Q_ X hret
  have hn := cn_e hw
  have hv5 := hV.1 v hv
  obtain ⟨hlo, hsc, hbt, hru, hrd, hst⟩ := id hS
  have L79 : ∀ nf : Nat, ∀ (p : Nat) (bk : Int) (J : Wo), (p ≤ cn c) → ((bk = 0 ∧ ziand (c (3 + v) 3) 2 = 0) ∨ (bk = 1 ∧ ¬ ziand (c (3 + v) 3) 2 = 0)) → (LyI c I J v p) → 24 - p < nf → mk_A p_ l e_ rm_Line_lay s_ m_ as_ bl_ me_ co_ Q_ 6 D cmcl (cm_sh cs ad) 48 48 ad J [(0, .ref (ad (12 + 6 * v))), (1, .ref (ad 1)), (2, .ref (ad (44 + v))), (3, .int (zi (c 0 6))), (4, .int (zi bk)), (5, .int (zi (p : Int)))] 79 [] := by
    intro nf
    induction nf with
    | zero => intro p bk J hp hbk hI hn; exact absurd hn (Nat.not_lt_zero _)
    | succ nf ih79 =>
      intro p bk J hp hbk hI hn79
      refine mk_iload (nx := 81) X 5 d_Line_lay_79 rfl rfl ?_
      refine mk_aloadn (nx := 82) X 0 d_Line_lay_81 rfl rfl ?_
      refine mk_get (nx := 85) (v := .int (zi (J (12 + 6 * v) 5))) X (12 + 6 * v) (by omega) (sh_Line cs ad (show v < 4 by omega) _) rfl in_Line 5 (by decide) wd_139 rfl rfl d_Line_lay_82 rfl ?_
      rw [show J (12 + 6 * v) 5 = c 0 0 from hI.2.1.1]
      refine mk_icmp_ge (tgt := 157) (nx := 88) X d_Line_lay_85 (by omega) (by omega) (by decide) rfl (fun c85 => ?_) (fun c85 => ?_)
      · skip
        have epn : p = cn c := by omega
        have hI : LyI c I J v (cn c) := by rw [← epn]; exact hI
        refine mk_aloadn (nx := 158) X 0 d_Line_lay_157 rfl rfl ?_
        refine mk_aloadn (nx := 159) X 1 d_Line_lay_158 rfl rfl ?_
        refine mk_callVv (nx := 162) (n := 1) (As := [.ref (ad 1)]) (rest := []) X (12 + 6 * v) (by omega) (sh_Line cs ad (show v < 4 by omega) _) rfl (c_Line_joinNeighbours l D cs ad zt hi c J hw hS hV (cmN_fr (fun a b h => hI.1 a b (Or.inl (by omega))) hm) v hv (ly_F hI) (ly_B hI)) (g_Line_joinNeighbours wd_402) rfl ⟨rfl, rfl⟩ (by decide +kernel) ⟨by decide, by decide⟩ rfl (Nat.le_of_ble_eq_true rfl) rfl d_Line_lay_159 rfl ?_
        intro JA hJA
        exact hret _ _ _ d_Line_lay_162 (by exact ⟨LnF_fr (fun b => hJA.2 _ b (by omega) (by omega)) (ly_F hI), LnB_fr (fun b => ⟨hJA.2 _ b (by omega) (by omega), hJA.2 _ b (by omega) (by omega)⟩) (ly_B hI), hJA.1, fun a b h => (hJA.2 a b (by omega) (by omega)).trans (hI.1 a b (by omega))⟩)
      · skip
        have hcl := cnt_lt (c := c) (v := v) (show p < cn c by omega)
        have hln := (hw.2 (cnt c v p) (by omega)).2
        have hbb := cbg_b hw hV hv (show p ≤ cn c by omega)
        refine mk_aloadn (nx := 89) X 0 d_Line_lay_88 rfl rfl ?_
        refine mk_get (nx := 92) (v := .ref (ad (13 + 6 * v))) X (12 + 6 * v) (by omega) (sh_Line cs ad (show v < 4 by omega) _) rfl in_Line 0 (by decide) wd_126 rfl rfl d_Line_lay_89 rfl ?_
        refine mk_iload (nx := 94) X 5 d_Line_lay_92 rfl rfl ?_
        refine mk_iload (nx := 96) X 4 d_Line_lay_94 rfl rfl ?_
        refine mk_if_eq (tgt := 111) (nx := 99) X d_Line_lay_96 (by omega) (by decide) rfl (fun c96 => ?_) (fun c96 => ?_)
        · skip
          refine mk_iload (nx := 113) X 5 d_Line_lay_111 rfl rfl ?_
          refine mk_nm (fun nn hnn => ?_)
          obtain rfl : nn = (cnt c v p : Int) := by
            first | (unfold cnt nt; rw [if_pos (by omega)]; omega) | (unfold cnt nt; rw [if_neg (by omega)]; omega)
          refine mk_iast (nx := 114) (j := p) X (13 + 6 * v) 0 (by omega) (sh_Lnotes cs ad (show v < 4 by omega)) rfl (by omega) (by omega) (by decide) rfl d_Line_lay_113 rfl ?_
          obtain ⟨J1, hJ1⟩ : ∃ W_ : Wo, W_ = up2 J (13 + 6 * v) p (cnt c v p : Int) := ⟨_, rfl⟩
          refine mk_same hJ1.symm ?_
          have hJ1s : J1 (13 + 6 * v) p = (cnt c v p : Int) := hJ1 ▸ up2_ss J (13 + 6 * v) p (cnt c v p : Int)
          have hJ1o : ∀ a b, (a ≠ (13 + 6 * v) ∨ b ≠ p) → J1 a b = J a b := hJ1 ▸ up2_o J (13 + 6 * v) p (cnt c v p : Int)
          refine mk_aloadn (nx := 115) X 0 d_Line_lay_114 rfl rfl ?_
          refine mk_get (nx := 118) (v := .ref (ad (14 + 6 * v))) X (12 + 6 * v) (by omega) (sh_Line cs ad (show v < 4 by omega) _) rfl in_Line 1 (by decide) wd_128 rfl rfl d_Line_lay_115 rfl ?_
          refine mk_iload (nx := 120) X 5 d_Line_lay_118 rfl rfl ?_
          refine mk_aloadn (nx := 121) X 0 d_Line_lay_120 rfl rfl ?_
          refine mk_get (nx := 124) (v := .int (zi (J1 (12 + 6 * v) 6))) X (12 + 6 * v) (by omega) (sh_Line cs ad (show v < 4 by omega) _) rfl in_Line 6 (by decide) wd_141 rfl rfl d_Line_lay_121 rfl ?_
          rw [show J1 (12 + 6 * v) 6 = J (12 + 6 * v) 6 from hJ1o (12 + 6 * v) 6 (Or.inl (by omega))]
          rw [show J (12 + 6 * v) 6 = cbg c v p from hI.2.2.1]
          refine mk_iast (nx := 125) (j := p) X (14 + 6 * v) 0 (by omega) (sh_Lbegins cs ad (show v < 4 by omega)) rfl (by omega) (by omega) (by decide) rfl d_Line_lay_124 rfl ?_
          obtain ⟨J2, hJ2⟩ : ∃ W_ : Wo, W_ = up2 J1 (14 + 6 * v) p (cbg c v p) := ⟨_, rfl⟩
          refine mk_same hJ2.symm ?_
          have hJ2s : J2 (14 + 6 * v) p = cbg c v p := hJ2 ▸ up2_ss J1 (14 + 6 * v) p (cbg c v p)
          have hJ2o : ∀ a b, (a ≠ (14 + 6 * v) ∨ b ≠ p) → J2 a b = J1 a b := hJ2 ▸ up2_o J1 (14 + 6 * v) p (cbg c v p)
          refine mk_aloadn (nx := 126) X 0 d_Line_lay_125 rfl rfl ?_
          refine mk_dup (nx := 127) X d_Line_lay_126 rfl rfl ?_
          refine mk_get (nx := 130) (v := .int (zi (J2 (12 + 6 * v) 6))) X (12 + 6 * v) (by omega) (sh_Line cs ad (show v < 4 by omega) _) rfl in_Line 6 (by decide) wd_141 rfl rfl d_Line_lay_127 rfl ?_
          rw [show J2 (12 + 6 * v) 6 = J1 (12 + 6 * v) 6 from hJ2o (12 + 6 * v) 6 (Or.inl (by omega))]
          rw [show J1 (12 + 6 * v) 6 = J (12 + 6 * v) 6 from hJ1o (12 + 6 * v) 6 (Or.inl (by omega))]
          rw [show J (12 + 6 * v) 6 = cbg c v p from hI.2.2.1]
          refine mk_aloadn (nx := 131) X 1 d_Line_lay_130 rfl rfl ?_
          refine mk_get (nx := 134) (v := .ref (ad 3)) X 1 (by decide) (sh_Subject cs ad _) rfl in_Subject 1 (by decide) wd_69 rfl rfl d_Line_lay_131 rfl ?_
          refine mk_aloadn (nx := 135) X 0 d_Line_lay_134 rfl rfl ?_
          refine mk_get (nx := 138) (v := .ref (ad (13 + 6 * v))) X (12 + 6 * v) (by omega) (sh_Line cs ad (show v < 4 by omega) _) rfl in_Line 0 (by decide) wd_126 rfl rfl d_Line_lay_135 rfl ?_
          refine mk_iload (nx := 140) X 5 d_Line_lay_138 rfl rfl ?_
          refine mk_iald (nx := 141) (j := p) X (13 + 6 * v) 0 (by omega) (sh_Lnotes cs ad (show v < 4 by omega) _) rfl (by omega) (by omega) (by decide) rfl d_Line_lay_140 rfl ?_
          rw [show J2 (13 + 6 * v) p = J1 (13 + 6 * v) p from hJ2o (13 + 6 * v) p (Or.inl (by omega))]
          rw [hJ1s]
          refine mk_iald (nx := 142) (j := (cnt c v p)) X 3 0 (by decide) (sh_Slen cs ad _) rfl (by omega) (by omega) (by decide) rfl d_Line_lay_141 rfl ?_
          rw [show J2 3 (cnt c v p) = J1 3 (cnt c v p) from hJ2o 3 (cnt c v p) (Or.inl (by omega))]
          rw [show J1 3 (cnt c v p) = J 3 (cnt c v p) from hJ1o 3 (cnt c v p) (Or.inl (by omega))]
          rw [show J 3 (cnt c v p) = c 2 (cnt c v p) from ((hI.1 (3) (cnt c v p) (Or.inl (by omega))).trans ((hm.2 (cnt c v p) (by omega)).2))]
          refine mk_aloadn (nx := 143) X 2 d_Line_lay_142 rfl rfl ?_
          refine mk_get (nx := 146) (v := .int (zi (J2 (44 + v) 4))) X (44 + v) (by omega) (sh_Voice cs ad (show v < 4 by omega) _) rfl in_Voice 4 (by decide) wd_274 rfl rfl d_Line_lay_143 rfl ?_
          rw [show J2 (44 + v) 4 = J1 (44 + v) 4 from hJ2o (44 + v) 4 (Or.inl (by omega))]
          rw [show J1 (44 + v) 4 = J (44 + v) 4 from hJ1o (44 + v) 4 (Or.inl (by omega))]
          rw [show J (44 + v) 4 = c (3 + v) 4 from ((hI.1 (44 + v) 4 (Or.inr (by omega))).trans (hVo.2.2.2.2))]
          refine mk_imul (nx := 147) X d_Line_lay_146 rfl ?_
          refine mk_iadd (nx := 148) X d_Line_lay_147 rfl ?_
          refine mk_putf (nx := 151) (ty := .int) X t_Line t_Line_ok n_Line (12 + 6 * v) (by omega) (sh_Line cs ad (show v < 4 by omega) _) rfl in_Line 6 (by decide) wd_141 rfl rfl (by decide +kernel) rfl rfl (Nat.le_of_ble_eq_true rfl) ((sh_Line cs ad (show v < 4 by omega) _).trans rfl) d_Line_lay_148 rfl ?_
          obtain ⟨J3, hJ3⟩ : ∃ W_ : Wo, W_ = up2 J2 (12 + 6 * v) 6 ((cbg c v p) + ((c 2 (cnt c v p)) * (c (3 + v) 4))) := ⟨_, rfl⟩
          refine mk_same hJ3.symm ?_
          have hJ3s : J3 (12 + 6 * v) 6 = (cbg c v p) + ((c 2 (cnt c v p)) * (c (3 + v) 4)) := hJ3 ▸ up2_ss J2 (12 + 6 * v) 6 ((cbg c v p) + ((c 2 (cnt c v p)) * (c (3 + v) 4)))
          have hJ3o : ∀ a b, (a ≠ (12 + 6 * v) ∨ b ≠ 6) → J3 a b = J2 a b := hJ3 ▸ up2_o J2 (12 + 6 * v) 6 ((cbg c v p) + ((c 2 (cnt c v p)) * (c (3 + v) 4)))
          refine mk_iinc (nx := 154) X 5 [(5, .int (zi ((p : Int) + 1))), (0, .ref (ad (12 + 6 * v))), (1, .ref (ad 1)), (2, .ref (ad (44 + v))), (3, .int (zi (c 0 6))), (4, .int (zi bk))] d_Line_lay_151 rfl (by decide) rfl rfl ?_
          refine mk_goto (tgt := 79) X d_Line_lay_154 (by decide) ?_
          refine mk_lv [1, 2, 3, 4, 5, 0] rfl ?_
          exact ih79 (p + 1) bk J3 (by omega) (by omega) (by first | exact ly_init (by rw [hJ3, hJ2, hJ1]) (by rw [if_pos (by omega)]) | exact ly_init (by rw [hJ3, hJ2, hJ1]) (by rw [if_neg (by omega)]) | (rw [hJ3, hJ2, hJ1]; exact ly_step hI rfl rfl rfl)) (by omega)
        · skip
          refine mk_aloadn (nx := 100) X 0 d_Line_lay_99 rfl rfl ?_
          refine mk_get (nx := 103) (v := .int (zi (J (12 + 6 * v) 5))) X (12 + 6 * v) (by omega) (sh_Line cs ad (show v < 4 by omega) _) rfl in_Line 5 (by decide) wd_139 rfl rfl d_Line_lay_100 rfl ?_
          rw [show J (12 + 6 * v) 5 = c 0 0 from hI.2.1.1]
          refine mk_iconst (nx := 104) X d_Line_lay_103 rfl ?_
          refine mk_isub (nx := 105) X d_Line_lay_104 rfl ?_
          refine mk_iload (nx := 107) X 5 d_Line_lay_105 rfl rfl ?_
          refine mk_isub (nx := 108) X d_Line_lay_107 rfl ?_
          refine mk_goto (tgt := 113) X d_Line_lay_108 (by decide) ?_
          refine mk_nm (fun nn hnn => ?_)
          obtain rfl : nn = (cnt c v p : Int) := by
            first | (unfold cnt nt; rw [if_pos (by omega)]; omega) | (unfold cnt nt; rw [if_neg (by omega)]; omega)
          refine mk_iast (nx := 114) (j := p) X (13 + 6 * v) 0 (by omega) (sh_Lnotes cs ad (show v < 4 by omega)) rfl (by omega) (by omega) (by decide) rfl d_Line_lay_113 rfl ?_
          obtain ⟨J4, hJ4⟩ : ∃ W_ : Wo, W_ = up2 J (13 + 6 * v) p (cnt c v p : Int) := ⟨_, rfl⟩
          refine mk_same hJ4.symm ?_
          have hJ4s : J4 (13 + 6 * v) p = (cnt c v p : Int) := hJ4 ▸ up2_ss J (13 + 6 * v) p (cnt c v p : Int)
          have hJ4o : ∀ a b, (a ≠ (13 + 6 * v) ∨ b ≠ p) → J4 a b = J a b := hJ4 ▸ up2_o J (13 + 6 * v) p (cnt c v p : Int)
          refine mk_aloadn (nx := 115) X 0 d_Line_lay_114 rfl rfl ?_
          refine mk_get (nx := 118) (v := .ref (ad (14 + 6 * v))) X (12 + 6 * v) (by omega) (sh_Line cs ad (show v < 4 by omega) _) rfl in_Line 1 (by decide) wd_128 rfl rfl d_Line_lay_115 rfl ?_
          refine mk_iload (nx := 120) X 5 d_Line_lay_118 rfl rfl ?_
          refine mk_aloadn (nx := 121) X 0 d_Line_lay_120 rfl rfl ?_
          refine mk_get (nx := 124) (v := .int (zi (J4 (12 + 6 * v) 6))) X (12 + 6 * v) (by omega) (sh_Line cs ad (show v < 4 by omega) _) rfl in_Line 6 (by decide) wd_141 rfl rfl d_Line_lay_121 rfl ?_
          rw [show J4 (12 + 6 * v) 6 = J (12 + 6 * v) 6 from hJ4o (12 + 6 * v) 6 (Or.inl (by omega))]
          rw [show J (12 + 6 * v) 6 = cbg c v p from hI.2.2.1]
          refine mk_iast (nx := 125) (j := p) X (14 + 6 * v) 0 (by omega) (sh_Lbegins cs ad (show v < 4 by omega)) rfl (by omega) (by omega) (by decide) rfl d_Line_lay_124 rfl ?_
          obtain ⟨J5, hJ5⟩ : ∃ W_ : Wo, W_ = up2 J4 (14 + 6 * v) p (cbg c v p) := ⟨_, rfl⟩
          refine mk_same hJ5.symm ?_
          have hJ5s : J5 (14 + 6 * v) p = cbg c v p := hJ5 ▸ up2_ss J4 (14 + 6 * v) p (cbg c v p)
          have hJ5o : ∀ a b, (a ≠ (14 + 6 * v) ∨ b ≠ p) → J5 a b = J4 a b := hJ5 ▸ up2_o J4 (14 + 6 * v) p (cbg c v p)
          refine mk_aloadn (nx := 126) X 0 d_Line_lay_125 rfl rfl ?_
          refine mk_dup (nx := 127) X d_Line_lay_126 rfl rfl ?_
          refine mk_get (nx := 130) (v := .int (zi (J5 (12 + 6 * v) 6))) X (12 + 6 * v) (by omega) (sh_Line cs ad (show v < 4 by omega) _) rfl in_Line 6 (by decide) wd_141 rfl rfl d_Line_lay_127 rfl ?_
          rw [show J5 (12 + 6 * v) 6 = J4 (12 + 6 * v) 6 from hJ5o (12 + 6 * v) 6 (Or.inl (by omega))]
          rw [show J4 (12 + 6 * v) 6 = J (12 + 6 * v) 6 from hJ4o (12 + 6 * v) 6 (Or.inl (by omega))]
          rw [show J (12 + 6 * v) 6 = cbg c v p from hI.2.2.1]
          refine mk_aloadn (nx := 131) X 1 d_Line_lay_130 rfl rfl ?_
          refine mk_get (nx := 134) (v := .ref (ad 3)) X 1 (by decide) (sh_Subject cs ad _) rfl in_Subject 1 (by decide) wd_69 rfl rfl d_Line_lay_131 rfl ?_
          refine mk_aloadn (nx := 135) X 0 d_Line_lay_134 rfl rfl ?_
          refine mk_get (nx := 138) (v := .ref (ad (13 + 6 * v))) X (12 + 6 * v) (by omega) (sh_Line cs ad (show v < 4 by omega) _) rfl in_Line 0 (by decide) wd_126 rfl rfl d_Line_lay_135 rfl ?_
          refine mk_iload (nx := 140) X 5 d_Line_lay_138 rfl rfl ?_
          refine mk_iald (nx := 141) (j := p) X (13 + 6 * v) 0 (by omega) (sh_Lnotes cs ad (show v < 4 by omega) _) rfl (by omega) (by omega) (by decide) rfl d_Line_lay_140 rfl ?_
          rw [show J5 (13 + 6 * v) p = J4 (13 + 6 * v) p from hJ5o (13 + 6 * v) p (Or.inl (by omega))]
          rw [hJ4s]
          refine mk_iald (nx := 142) (j := (cnt c v p)) X 3 0 (by decide) (sh_Slen cs ad _) rfl (by omega) (by omega) (by decide) rfl d_Line_lay_141 rfl ?_
          rw [show J5 3 (cnt c v p) = J4 3 (cnt c v p) from hJ5o 3 (cnt c v p) (Or.inl (by omega))]
          rw [show J4 3 (cnt c v p) = J 3 (cnt c v p) from hJ4o 3 (cnt c v p) (Or.inl (by omega))]
          rw [show J 3 (cnt c v p) = c 2 (cnt c v p) from ((hI.1 (3) (cnt c v p) (Or.inl (by omega))).trans ((hm.2 (cnt c v p) (by omega)).2))]
          refine mk_aloadn (nx := 143) X 2 d_Line_lay_142 rfl rfl ?_
          refine mk_get (nx := 146) (v := .int (zi (J5 (44 + v) 4))) X (44 + v) (by omega) (sh_Voice cs ad (show v < 4 by omega) _) rfl in_Voice 4 (by decide) wd_274 rfl rfl d_Line_lay_143 rfl ?_
          rw [show J5 (44 + v) 4 = J4 (44 + v) 4 from hJ5o (44 + v) 4 (Or.inl (by omega))]
          rw [show J4 (44 + v) 4 = J (44 + v) 4 from hJ4o (44 + v) 4 (Or.inl (by omega))]
          rw [show J (44 + v) 4 = c (3 + v) 4 from ((hI.1 (44 + v) 4 (Or.inr (by omega))).trans (hVo.2.2.2.2))]
          refine mk_imul (nx := 147) X d_Line_lay_146 rfl ?_
          refine mk_iadd (nx := 148) X d_Line_lay_147 rfl ?_
          refine mk_putf (nx := 151) (ty := .int) X t_Line t_Line_ok n_Line (12 + 6 * v) (by omega) (sh_Line cs ad (show v < 4 by omega) _) rfl in_Line 6 (by decide) wd_141 rfl rfl (by decide +kernel) rfl rfl (Nat.le_of_ble_eq_true rfl) ((sh_Line cs ad (show v < 4 by omega) _).trans rfl) d_Line_lay_148 rfl ?_
          obtain ⟨J6, hJ6⟩ : ∃ W_ : Wo, W_ = up2 J5 (12 + 6 * v) 6 ((cbg c v p) + ((c 2 (cnt c v p)) * (c (3 + v) 4))) := ⟨_, rfl⟩
          refine mk_same hJ6.symm ?_
          have hJ6s : J6 (12 + 6 * v) 6 = (cbg c v p) + ((c 2 (cnt c v p)) * (c (3 + v) 4)) := hJ6 ▸ up2_ss J5 (12 + 6 * v) 6 ((cbg c v p) + ((c 2 (cnt c v p)) * (c (3 + v) 4)))
          have hJ6o : ∀ a b, (a ≠ (12 + 6 * v) ∨ b ≠ 6) → J6 a b = J5 a b := hJ6 ▸ up2_o J5 (12 + 6 * v) 6 ((cbg c v p) + ((c 2 (cnt c v p)) * (c (3 + v) 4)))
          refine mk_iinc (nx := 154) X 5 [(5, .int (zi ((p : Int) + 1))), (0, .ref (ad (12 + 6 * v))), (1, .ref (ad 1)), (2, .ref (ad (44 + v))), (3, .int (zi (c 0 6))), (4, .int (zi bk))] d_Line_lay_151 rfl (by decide) rfl rfl ?_
          refine mk_goto (tgt := 79) X d_Line_lay_154 (by decide) ?_
          refine mk_lv [1, 2, 3, 4, 5, 0] rfl ?_
          exact ih79 (p + 1) bk J6 (by omega) (by omega) (by first | exact ly_init (by rw [hJ6, hJ5, hJ4]) (by rw [if_pos (by omega)]) | exact ly_init (by rw [hJ6, hJ5, hJ4]) (by rw [if_neg (by omega)]) | (rw [hJ6, hJ5, hJ4]; exact ly_step hI rfl rfl rfl)) (by omega)
  refine mk_aloadn (nx := 1) X 2 d_Line_lay_0 rfl rfl ?_
  refine mk_get (nx := 4) (v := .int (zi (I (44 + v) 3))) X (44 + v) (by omega) (sh_Voice cs ad (show v < 4 by omega) _) rfl in_Voice 3 (by decide) wd_271 rfl rfl d_Line_lay_1 rfl ?_
  rw [show I (44 + v) 3 = c (3 + v) 3 from hVo.2.2.2.1]
  refine mk_iconst (nx := 5) X d_Line_lay_4 rfl ?_
  refine mk_iand (nx := 6) X d_Line_lay_5 rfl ?_
  refine mk_if_eq (tgt := 13) (nx := 9) X d_Line_lay_6 (by exact zi_rng _) (by decide) rfl (fun c6 => ?_) (fun c6 => ?_)
  · skip
    refine mk_iconst (nx := 14) X d_Line_lay_13 rfl ?_
    refine mk_istore (nx := 16) X [(4, .int (zi 0)), (0, .ref (ad (12 + 6 * v))), (1, .ref (ad 1)), (2, .ref (ad (44 + v))), (3, .int (zi (c 0 6)))] d_Line_lay_14 (by decide) rfl rfl ?_
    refine mk_aloadn (nx := 17) X 1 d_Line_lay_16 rfl rfl ?_
    refine mk_aloadn (nx := 18) X 3 d_Line_lay_17 rfl rfl ?_
    refine mk_get (nx := 21) (v := .int (zi (I (44 + v) 0))) X (44 + v) (by omega) (sh_Voice cs ad (show v < 4 by omega) _) rfl in_Voice 0 (by decide) wd_266 rfl rfl d_Line_lay_18 rfl ?_
    rw [show I (44 + v) 0 = c (3 + v) 0 from hVo.1]
    refine mk_putf (nx := 24) (ty := .boolean) X t_Line t_Line_ok n_Line (12 + 6 * v) (by omega) (sh_Line cs ad (show v < 4 by omega) _) rfl in_Line 10 (by decide) wd_148 rfl rfl (by decide +kernel) (zi_nb (by omega)) (zi_fb (by omega)) (Nat.le_of_ble_eq_true rfl) ((sh_Line cs ad (show v < 4 by omega) _).trans rfl) d_Line_lay_21 rfl ?_
    obtain ⟨J7, hJ7⟩ : ∃ W_ : Wo, W_ = up2 I (12 + 6 * v) 10 (c (3 + v) 0) := ⟨_, rfl⟩
    refine mk_same hJ7.symm ?_
    have hJ7s : J7 (12 + 6 * v) 10 = c (3 + v) 0 := hJ7 ▸ up2_ss I (12 + 6 * v) 10 (c (3 + v) 0)
    have hJ7o : ∀ a b, (a ≠ (12 + 6 * v) ∨ b ≠ 10) → J7 a b = I a b := hJ7 ▸ up2_o I (12 + 6 * v) 10 (c (3 + v) 0)
    refine mk_aloadn (nx := 25) X 1 d_Line_lay_24 rfl rfl ?_
    refine mk_aloadn (nx := 26) X 3 d_Line_lay_25 rfl rfl ?_
    refine mk_get (nx := 29) (v := .int (zi (J7 (44 + v) 3))) X (44 + v) (by omega) (sh_Voice cs ad (show v < 4 by omega) _) rfl in_Voice 3 (by decide) wd_271 rfl rfl d_Line_lay_26 rfl ?_
    rw [show J7 (44 + v) 3 = I (44 + v) 3 from hJ7o (44 + v) 3 (Or.inl (by omega))]
    rw [show I (44 + v) 3 = c (3 + v) 3 from hVo.2.2.2.1]
    refine mk_iconst (nx := 30) X d_Line_lay_29 rfl ?_
    refine mk_iand (nx := 31) X d_Line_lay_30 rfl ?_
    refine mk_if_eq (tgt := 38) (nx := 34) X d_Line_lay_31 (by exact zi_rng _) (by decide) rfl (fun c31 => ?_) (fun c31 => ?_)
    · skip
      refine mk_iconst (nx := 39) X d_Line_lay_38 rfl ?_
      refine mk_putf (nx := 42) (ty := .boolean) X t_Line t_Line_ok n_Line (12 + 6 * v) (by omega) (sh_Line cs ad (show v < 4 by omega) _) rfl in_Line 11 (by decide) wd_150 rfl rfl (by decide +kernel) (zi_nb (by omega)) (zi_fb (by omega)) (Nat.le_of_ble_eq_true rfl) ((sh_Line cs ad (show v < 4 by omega) _).trans rfl) d_Line_lay_39 rfl ?_
      obtain ⟨J8, hJ8⟩ : ∃ W_ : Wo, W_ = up2 J7 (12 + 6 * v) 11 0 := ⟨_, rfl⟩
      refine mk_same hJ8.symm ?_
      have hJ8s : J8 (12 + 6 * v) 11 = 0 := hJ8 ▸ up2_ss J7 (12 + 6 * v) 11 0
      have hJ8o : ∀ a b, (a ≠ (12 + 6 * v) ∨ b ≠ 11) → J8 a b = J7 a b := hJ8 ▸ up2_o J7 (12 + 6 * v) 11 0
      refine mk_aloadn (nx := 43) X 1 d_Line_lay_42 rfl rfl ?_
      refine mk_aloadn (nx := 44) X 3 d_Line_lay_43 rfl rfl ?_
      refine mk_get (nx := 47) (v := .int (zi (J8 (44 + v) 1))) X (44 + v) (by omega) (sh_Voice cs ad (show v < 4 by omega) _) rfl in_Voice 1 (by decide) wd_267 rfl rfl d_Line_lay_44 rfl ?_
      rw [show J8 (44 + v) 1 = J7 (44 + v) 1 from hJ8o (44 + v) 1 (Or.inl (by omega))]
      rw [show J7 (44 + v) 1 = I (44 + v) 1 from hJ7o (44 + v) 1 (Or.inl (by omega))]
      rw [show I (44 + v) 1 = c (3 + v) 1 from hVo.2.1]
      refine mk_putf (nx := 50) (ty := .int) X t_Line t_Line_ok n_Line (12 + 6 * v) (by omega) (sh_Line cs ad (show v < 4 by omega) _) rfl in_Line 8 (by decide) wd_143 rfl rfl (by decide +kernel) rfl rfl (Nat.le_of_ble_eq_true rfl) ((sh_Line cs ad (show v < 4 by omega) _).trans rfl) d_Line_lay_47 rfl ?_
      obtain ⟨J9, hJ9⟩ : ∃ W_ : Wo, W_ = up2 J8 (12 + 6 * v) 8 (c (3 + v) 1) := ⟨_, rfl⟩
      refine mk_same hJ9.symm ?_
      have hJ9s : J9 (12 + 6 * v) 8 = c (3 + v) 1 := hJ9 ▸ up2_ss J8 (12 + 6 * v) 8 (c (3 + v) 1)
      have hJ9o : ∀ a b, (a ≠ (12 + 6 * v) ∨ b ≠ 8) → J9 a b = J8 a b := hJ9 ▸ up2_o J8 (12 + 6 * v) 8 (c (3 + v) 1)
      refine mk_aloadn (nx := 51) X 1 d_Line_lay_50 rfl rfl ?_
      refine mk_aloadn (nx := 52) X 3 d_Line_lay_51 rfl rfl ?_
      refine mk_get (nx := 55) (v := .int (zi (J9 (44 + v) 2))) X (44 + v) (by omega) (sh_Voice cs ad (show v < 4 by omega) _) rfl in_Voice 2 (by decide) wd_269 rfl rfl d_Line_lay_52 rfl ?_
      rw [show J9 (44 + v) 2 = J8 (44 + v) 2 from hJ9o (44 + v) 2 (Or.inl (by omega))]
      rw [show J8 (44 + v) 2 = J7 (44 + v) 2 from hJ8o (44 + v) 2 (Or.inl (by omega))]
      rw [show J7 (44 + v) 2 = I (44 + v) 2 from hJ7o (44 + v) 2 (Or.inl (by omega))]
      rw [show I (44 + v) 2 = c (3 + v) 2 from hVo.2.2.1]
      refine mk_putf (nx := 58) (ty := .int) X t_Line t_Line_ok n_Line (12 + 6 * v) (by omega) (sh_Line cs ad (show v < 4 by omega) _) rfl in_Line 9 (by decide) wd_145 rfl rfl (by decide +kernel) rfl rfl (Nat.le_of_ble_eq_true rfl) ((sh_Line cs ad (show v < 4 by omega) _).trans rfl) d_Line_lay_55 rfl ?_
      obtain ⟨J10, hJ10⟩ : ∃ W_ : Wo, W_ = up2 J9 (12 + 6 * v) 9 (c (3 + v) 2) := ⟨_, rfl⟩
      refine mk_same hJ10.symm ?_
      have hJ10s : J10 (12 + 6 * v) 9 = c (3 + v) 2 := hJ10 ▸ up2_ss J9 (12 + 6 * v) 9 (c (3 + v) 2)
      have hJ10o : ∀ a b, (a ≠ (12 + 6 * v) ∨ b ≠ 9) → J10 a b = J9 a b := hJ10 ▸ up2_o J9 (12 + 6 * v) 9 (c (3 + v) 2)
      refine mk_aloadn (nx := 59) X 1 d_Line_lay_58 rfl rfl ?_
      refine mk_iloadn (nx := 60) X 4 d_Line_lay_59 rfl rfl ?_
      refine mk_putf (nx := 63) (ty := .int) X t_Line t_Line_ok n_Line (12 + 6 * v) (by omega) (sh_Line cs ad (show v < 4 by omega) _) rfl in_Line 7 (by decide) wd_142 rfl rfl (by decide +kernel) rfl rfl (Nat.le_of_ble_eq_true rfl) ((sh_Line cs ad (show v < 4 by omega) _).trans rfl) d_Line_lay_60 rfl ?_
      obtain ⟨J11, hJ11⟩ : ∃ W_ : Wo, W_ = up2 J10 (12 + 6 * v) 7 (c 0 6) := ⟨_, rfl⟩
      refine mk_same hJ11.symm ?_
      have hJ11s : J11 (12 + 6 * v) 7 = c 0 6 := hJ11 ▸ up2_ss J10 (12 + 6 * v) 7 (c 0 6)
      have hJ11o : ∀ a b, (a ≠ (12 + 6 * v) ∨ b ≠ 7) → J11 a b = J10 a b := hJ11 ▸ up2_o J10 (12 + 6 * v) 7 (c 0 6)
      refine mk_aloadn (nx := 64) X 1 d_Line_lay_63 rfl rfl ?_
      refine mk_aloadn (nx := 65) X 2 d_Line_lay_64 rfl rfl ?_
      refine mk_get (nx := 68) (v := .int (zi (J11 1 2))) X 1 (by decide) (sh_Subject cs ad _) rfl in_Subject 2 (by decide) wd_72 rfl rfl d_Line_lay_65 rfl ?_
      rw [show J11 1 2 = J10 1 2 from hJ11o 1 2 (Or.inl (by omega))]
      rw [show J10 1 2 = J9 1 2 from hJ10o 1 2 (Or.inl (by omega))]
      rw [show J9 1 2 = J8 1 2 from hJ9o 1 2 (Or.inl (by omega))]
      rw [show J8 1 2 = J7 1 2 from hJ8o 1 2 (Or.inl (by omega))]
      rw [show J7 1 2 = I 1 2 from hJ7o 1 2 (Or.inl (by omega))]
      rw [show I 1 2 = c 0 0 from hm.1]
      refine mk_putf (nx := 71) (ty := .int) X t_Line t_Line_ok n_Line (12 + 6 * v) (by omega) (sh_Line cs ad (show v < 4 by omega) _) rfl in_Line 5 (by decide) wd_139 rfl rfl (by decide +kernel) rfl rfl (Nat.le_of_ble_eq_true rfl) ((sh_Line cs ad (show v < 4 by omega) _).trans rfl) d_Line_lay_68 rfl ?_
      obtain ⟨J12, hJ12⟩ : ∃ W_ : Wo, W_ = up2 J11 (12 + 6 * v) 5 (c 0 0) := ⟨_, rfl⟩
      refine mk_same hJ12.symm ?_
      have hJ12s : J12 (12 + 6 * v) 5 = c 0 0 := hJ12 ▸ up2_ss J11 (12 + 6 * v) 5 (c 0 0)
      have hJ12o : ∀ a b, (a ≠ (12 + 6 * v) ∨ b ≠ 5) → J12 a b = J11 a b := hJ12 ▸ up2_o J11 (12 + 6 * v) 5 (c 0 0)
      refine mk_aloadn (nx := 72) X 1 d_Line_lay_71 rfl rfl ?_
      refine mk_iconst (nx := 73) X d_Line_lay_72 rfl ?_
      refine mk_putf (nx := 76) (ty := .int) X t_Line t_Line_ok n_Line (12 + 6 * v) (by omega) (sh_Line cs ad (show v < 4 by omega) _) rfl in_Line 6 (by decide) wd_141 rfl rfl (by decide +kernel) rfl rfl (Nat.le_of_ble_eq_true rfl) ((sh_Line cs ad (show v < 4 by omega) _).trans rfl) d_Line_lay_73 rfl ?_
      obtain ⟨J13, hJ13⟩ : ∃ W_ : Wo, W_ = up2 J12 (12 + 6 * v) 6 0 := ⟨_, rfl⟩
      refine mk_same hJ13.symm ?_
      have hJ13s : J13 (12 + 6 * v) 6 = 0 := hJ13 ▸ up2_ss J12 (12 + 6 * v) 6 0
      have hJ13o : ∀ a b, (a ≠ (12 + 6 * v) ∨ b ≠ 6) → J13 a b = J12 a b := hJ13 ▸ up2_o J12 (12 + 6 * v) 6 0
      refine mk_iconst (nx := 77) X d_Line_lay_76 rfl ?_
      refine mk_istore (nx := 79) X [(5, .int (zi 0)), (4, .int (zi 0)), (0, .ref (ad (12 + 6 * v))), (1, .ref (ad 1)), (2, .ref (ad (44 + v))), (3, .int (zi (c 0 6)))] d_Line_lay_77 (by decide) rfl rfl ?_
      refine mk_lv [2, 3, 4, 5, 1, 0] rfl ?_
      exact L79 _ 0 0 J13 (by omega) (by omega) (by first | exact ly_init (by rw [hJ13, hJ12, hJ11, hJ10, hJ9, hJ8, hJ7]) (by rw [if_pos (by omega)]) | exact ly_init (by rw [hJ13, hJ12, hJ11, hJ10, hJ9, hJ8, hJ7]) (by rw [if_neg (by omega)]) | (rw [hJ13, hJ12, hJ11, hJ10, hJ9, hJ8, hJ7]; exact ly_step hI rfl rfl rfl)) (Nat.lt_succ_self _)
    · skip
      refine mk_iconst (nx := 35) X d_Line_lay_34 rfl ?_
      refine mk_goto (tgt := 39) X d_Line_lay_35 (by decide) ?_
      refine mk_putf (nx := 42) (ty := .boolean) X t_Line t_Line_ok n_Line (12 + 6 * v) (by omega) (sh_Line cs ad (show v < 4 by omega) _) rfl in_Line 11 (by decide) wd_150 rfl rfl (by decide +kernel) (zi_nb (by omega)) (zi_fb (by omega)) (Nat.le_of_ble_eq_true rfl) ((sh_Line cs ad (show v < 4 by omega) _).trans rfl) d_Line_lay_39 rfl ?_
      obtain ⟨J14, hJ14⟩ : ∃ W_ : Wo, W_ = up2 J7 (12 + 6 * v) 11 1 := ⟨_, rfl⟩
      refine mk_same hJ14.symm ?_
      have hJ14s : J14 (12 + 6 * v) 11 = 1 := hJ14 ▸ up2_ss J7 (12 + 6 * v) 11 1
      have hJ14o : ∀ a b, (a ≠ (12 + 6 * v) ∨ b ≠ 11) → J14 a b = J7 a b := hJ14 ▸ up2_o J7 (12 + 6 * v) 11 1
      refine mk_aloadn (nx := 43) X 1 d_Line_lay_42 rfl rfl ?_
      refine mk_aloadn (nx := 44) X 3 d_Line_lay_43 rfl rfl ?_
      refine mk_get (nx := 47) (v := .int (zi (J14 (44 + v) 1))) X (44 + v) (by omega) (sh_Voice cs ad (show v < 4 by omega) _) rfl in_Voice 1 (by decide) wd_267 rfl rfl d_Line_lay_44 rfl ?_
      rw [show J14 (44 + v) 1 = J7 (44 + v) 1 from hJ14o (44 + v) 1 (Or.inl (by omega))]
      rw [show J7 (44 + v) 1 = I (44 + v) 1 from hJ7o (44 + v) 1 (Or.inl (by omega))]
      rw [show I (44 + v) 1 = c (3 + v) 1 from hVo.2.1]
      refine mk_putf (nx := 50) (ty := .int) X t_Line t_Line_ok n_Line (12 + 6 * v) (by omega) (sh_Line cs ad (show v < 4 by omega) _) rfl in_Line 8 (by decide) wd_143 rfl rfl (by decide +kernel) rfl rfl (Nat.le_of_ble_eq_true rfl) ((sh_Line cs ad (show v < 4 by omega) _).trans rfl) d_Line_lay_47 rfl ?_
      obtain ⟨J15, hJ15⟩ : ∃ W_ : Wo, W_ = up2 J14 (12 + 6 * v) 8 (c (3 + v) 1) := ⟨_, rfl⟩
      refine mk_same hJ15.symm ?_
      have hJ15s : J15 (12 + 6 * v) 8 = c (3 + v) 1 := hJ15 ▸ up2_ss J14 (12 + 6 * v) 8 (c (3 + v) 1)
      have hJ15o : ∀ a b, (a ≠ (12 + 6 * v) ∨ b ≠ 8) → J15 a b = J14 a b := hJ15 ▸ up2_o J14 (12 + 6 * v) 8 (c (3 + v) 1)
      refine mk_aloadn (nx := 51) X 1 d_Line_lay_50 rfl rfl ?_
      refine mk_aloadn (nx := 52) X 3 d_Line_lay_51 rfl rfl ?_
      refine mk_get (nx := 55) (v := .int (zi (J15 (44 + v) 2))) X (44 + v) (by omega) (sh_Voice cs ad (show v < 4 by omega) _) rfl in_Voice 2 (by decide) wd_269 rfl rfl d_Line_lay_52 rfl ?_
      rw [show J15 (44 + v) 2 = J14 (44 + v) 2 from hJ15o (44 + v) 2 (Or.inl (by omega))]
      rw [show J14 (44 + v) 2 = J7 (44 + v) 2 from hJ14o (44 + v) 2 (Or.inl (by omega))]
      rw [show J7 (44 + v) 2 = I (44 + v) 2 from hJ7o (44 + v) 2 (Or.inl (by omega))]
      rw [show I (44 + v) 2 = c (3 + v) 2 from hVo.2.2.1]
      refine mk_putf (nx := 58) (ty := .int) X t_Line t_Line_ok n_Line (12 + 6 * v) (by omega) (sh_Line cs ad (show v < 4 by omega) _) rfl in_Line 9 (by decide) wd_145 rfl rfl (by decide +kernel) rfl rfl (Nat.le_of_ble_eq_true rfl) ((sh_Line cs ad (show v < 4 by omega) _).trans rfl) d_Line_lay_55 rfl ?_
      obtain ⟨J16, hJ16⟩ : ∃ W_ : Wo, W_ = up2 J15 (12 + 6 * v) 9 (c (3 + v) 2) := ⟨_, rfl⟩
      refine mk_same hJ16.symm ?_
      have hJ16s : J16 (12 + 6 * v) 9 = c (3 + v) 2 := hJ16 ▸ up2_ss J15 (12 + 6 * v) 9 (c (3 + v) 2)
      have hJ16o : ∀ a b, (a ≠ (12 + 6 * v) ∨ b ≠ 9) → J16 a b = J15 a b := hJ16 ▸ up2_o J15 (12 + 6 * v) 9 (c (3 + v) 2)
      refine mk_aloadn (nx := 59) X 1 d_Line_lay_58 rfl rfl ?_
      refine mk_iloadn (nx := 60) X 4 d_Line_lay_59 rfl rfl ?_
      refine mk_putf (nx := 63) (ty := .int) X t_Line t_Line_ok n_Line (12 + 6 * v) (by omega) (sh_Line cs ad (show v < 4 by omega) _) rfl in_Line 7 (by decide) wd_142 rfl rfl (by decide +kernel) rfl rfl (Nat.le_of_ble_eq_true rfl) ((sh_Line cs ad (show v < 4 by omega) _).trans rfl) d_Line_lay_60 rfl ?_
      obtain ⟨J17, hJ17⟩ : ∃ W_ : Wo, W_ = up2 J16 (12 + 6 * v) 7 (c 0 6) := ⟨_, rfl⟩
      refine mk_same hJ17.symm ?_
      have hJ17s : J17 (12 + 6 * v) 7 = c 0 6 := hJ17 ▸ up2_ss J16 (12 + 6 * v) 7 (c 0 6)
      have hJ17o : ∀ a b, (a ≠ (12 + 6 * v) ∨ b ≠ 7) → J17 a b = J16 a b := hJ17 ▸ up2_o J16 (12 + 6 * v) 7 (c 0 6)
      refine mk_aloadn (nx := 64) X 1 d_Line_lay_63 rfl rfl ?_
      refine mk_aloadn (nx := 65) X 2 d_Line_lay_64 rfl rfl ?_
      refine mk_get (nx := 68) (v := .int (zi (J17 1 2))) X 1 (by decide) (sh_Subject cs ad _) rfl in_Subject 2 (by decide) wd_72 rfl rfl d_Line_lay_65 rfl ?_
      rw [show J17 1 2 = J16 1 2 from hJ17o 1 2 (Or.inl (by omega))]
      rw [show J16 1 2 = J15 1 2 from hJ16o 1 2 (Or.inl (by omega))]
      rw [show J15 1 2 = J14 1 2 from hJ15o 1 2 (Or.inl (by omega))]
      rw [show J14 1 2 = J7 1 2 from hJ14o 1 2 (Or.inl (by omega))]
      rw [show J7 1 2 = I 1 2 from hJ7o 1 2 (Or.inl (by omega))]
      rw [show I 1 2 = c 0 0 from hm.1]
      refine mk_putf (nx := 71) (ty := .int) X t_Line t_Line_ok n_Line (12 + 6 * v) (by omega) (sh_Line cs ad (show v < 4 by omega) _) rfl in_Line 5 (by decide) wd_139 rfl rfl (by decide +kernel) rfl rfl (Nat.le_of_ble_eq_true rfl) ((sh_Line cs ad (show v < 4 by omega) _).trans rfl) d_Line_lay_68 rfl ?_
      obtain ⟨J18, hJ18⟩ : ∃ W_ : Wo, W_ = up2 J17 (12 + 6 * v) 5 (c 0 0) := ⟨_, rfl⟩
      refine mk_same hJ18.symm ?_
      have hJ18s : J18 (12 + 6 * v) 5 = c 0 0 := hJ18 ▸ up2_ss J17 (12 + 6 * v) 5 (c 0 0)
      have hJ18o : ∀ a b, (a ≠ (12 + 6 * v) ∨ b ≠ 5) → J18 a b = J17 a b := hJ18 ▸ up2_o J17 (12 + 6 * v) 5 (c 0 0)
      refine mk_aloadn (nx := 72) X 1 d_Line_lay_71 rfl rfl ?_
      refine mk_iconst (nx := 73) X d_Line_lay_72 rfl ?_
      refine mk_putf (nx := 76) (ty := .int) X t_Line t_Line_ok n_Line (12 + 6 * v) (by omega) (sh_Line cs ad (show v < 4 by omega) _) rfl in_Line 6 (by decide) wd_141 rfl rfl (by decide +kernel) rfl rfl (Nat.le_of_ble_eq_true rfl) ((sh_Line cs ad (show v < 4 by omega) _).trans rfl) d_Line_lay_73 rfl ?_
      obtain ⟨J19, hJ19⟩ : ∃ W_ : Wo, W_ = up2 J18 (12 + 6 * v) 6 0 := ⟨_, rfl⟩
      refine mk_same hJ19.symm ?_
      have hJ19s : J19 (12 + 6 * v) 6 = 0 := hJ19 ▸ up2_ss J18 (12 + 6 * v) 6 0
      have hJ19o : ∀ a b, (a ≠ (12 + 6 * v) ∨ b ≠ 6) → J19 a b = J18 a b := hJ19 ▸ up2_o J18 (12 + 6 * v) 6 0
      refine mk_iconst (nx := 77) X d_Line_lay_76 rfl ?_
      refine mk_istore (nx := 79) X [(5, .int (zi 0)), (4, .int (zi 0)), (0, .ref (ad (12 + 6 * v))), (1, .ref (ad 1)), (2, .ref (ad (44 + v))), (3, .int (zi (c 0 6)))] d_Line_lay_77 (by decide) rfl rfl ?_
      refine mk_lv [2, 3, 4, 5, 1, 0] rfl ?_
      exact L79 _ 0 0 J19 (by omega) (by omega) (by first | exact ly_init (by rw [hJ19, hJ18, hJ17, hJ16, hJ15, hJ14, hJ7]) (by rw [if_pos (by omega)]) | exact ly_init (by rw [hJ19, hJ18, hJ17, hJ16, hJ15, hJ14, hJ7]) (by rw [if_neg (by omega)]) | (rw [hJ19, hJ18, hJ17, hJ16, hJ15, hJ14, hJ7]; exact ly_step hI rfl rfl rfl)) (Nat.lt_succ_self _)
  · skip
    refine mk_iconst (nx := 10) X d_Line_lay_9 rfl ?_
    refine mk_goto (tgt := 14) X d_Line_lay_10 (by decide) ?_
    refine mk_istore (nx := 16) X [(4, .int (zi 1)), (0, .ref (ad (12 + 6 * v))), (1, .ref (ad 1)), (2, .ref (ad (44 + v))), (3, .int (zi (c 0 6)))] d_Line_lay_14 (by decide) rfl rfl ?_
    refine mk_aloadn (nx := 17) X 1 d_Line_lay_16 rfl rfl ?_
    refine mk_aloadn (nx := 18) X 3 d_Line_lay_17 rfl rfl ?_
    refine mk_get (nx := 21) (v := .int (zi (I (44 + v) 0))) X (44 + v) (by omega) (sh_Voice cs ad (show v < 4 by omega) _) rfl in_Voice 0 (by decide) wd_266 rfl rfl d_Line_lay_18 rfl ?_
    rw [show I (44 + v) 0 = c (3 + v) 0 from hVo.1]
    refine mk_putf (nx := 24) (ty := .boolean) X t_Line t_Line_ok n_Line (12 + 6 * v) (by omega) (sh_Line cs ad (show v < 4 by omega) _) rfl in_Line 10 (by decide) wd_148 rfl rfl (by decide +kernel) (zi_nb (by omega)) (zi_fb (by omega)) (Nat.le_of_ble_eq_true rfl) ((sh_Line cs ad (show v < 4 by omega) _).trans rfl) d_Line_lay_21 rfl ?_
    obtain ⟨J20, hJ20⟩ : ∃ W_ : Wo, W_ = up2 I (12 + 6 * v) 10 (c (3 + v) 0) := ⟨_, rfl⟩
    refine mk_same hJ20.symm ?_
    have hJ20s : J20 (12 + 6 * v) 10 = c (3 + v) 0 := hJ20 ▸ up2_ss I (12 + 6 * v) 10 (c (3 + v) 0)
    have hJ20o : ∀ a b, (a ≠ (12 + 6 * v) ∨ b ≠ 10) → J20 a b = I a b := hJ20 ▸ up2_o I (12 + 6 * v) 10 (c (3 + v) 0)
    refine mk_aloadn (nx := 25) X 1 d_Line_lay_24 rfl rfl ?_
    refine mk_aloadn (nx := 26) X 3 d_Line_lay_25 rfl rfl ?_
    refine mk_get (nx := 29) (v := .int (zi (J20 (44 + v) 3))) X (44 + v) (by omega) (sh_Voice cs ad (show v < 4 by omega) _) rfl in_Voice 3 (by decide) wd_271 rfl rfl d_Line_lay_26 rfl ?_
    rw [show J20 (44 + v) 3 = I (44 + v) 3 from hJ20o (44 + v) 3 (Or.inl (by omega))]
    rw [show I (44 + v) 3 = c (3 + v) 3 from hVo.2.2.2.1]
    refine mk_iconst (nx := 30) X d_Line_lay_29 rfl ?_
    refine mk_iand (nx := 31) X d_Line_lay_30 rfl ?_
    refine mk_if_eq (tgt := 38) (nx := 34) X d_Line_lay_31 (by exact zi_rng _) (by decide) rfl (fun c31 => ?_) (fun c31 => ?_)
    · skip
      refine mk_iconst (nx := 39) X d_Line_lay_38 rfl ?_
      refine mk_putf (nx := 42) (ty := .boolean) X t_Line t_Line_ok n_Line (12 + 6 * v) (by omega) (sh_Line cs ad (show v < 4 by omega) _) rfl in_Line 11 (by decide) wd_150 rfl rfl (by decide +kernel) (zi_nb (by omega)) (zi_fb (by omega)) (Nat.le_of_ble_eq_true rfl) ((sh_Line cs ad (show v < 4 by omega) _).trans rfl) d_Line_lay_39 rfl ?_
      obtain ⟨J21, hJ21⟩ : ∃ W_ : Wo, W_ = up2 J20 (12 + 6 * v) 11 0 := ⟨_, rfl⟩
      refine mk_same hJ21.symm ?_
      have hJ21s : J21 (12 + 6 * v) 11 = 0 := hJ21 ▸ up2_ss J20 (12 + 6 * v) 11 0
      have hJ21o : ∀ a b, (a ≠ (12 + 6 * v) ∨ b ≠ 11) → J21 a b = J20 a b := hJ21 ▸ up2_o J20 (12 + 6 * v) 11 0
      refine mk_aloadn (nx := 43) X 1 d_Line_lay_42 rfl rfl ?_
      refine mk_aloadn (nx := 44) X 3 d_Line_lay_43 rfl rfl ?_
      refine mk_get (nx := 47) (v := .int (zi (J21 (44 + v) 1))) X (44 + v) (by omega) (sh_Voice cs ad (show v < 4 by omega) _) rfl in_Voice 1 (by decide) wd_267 rfl rfl d_Line_lay_44 rfl ?_
      rw [show J21 (44 + v) 1 = J20 (44 + v) 1 from hJ21o (44 + v) 1 (Or.inl (by omega))]
      rw [show J20 (44 + v) 1 = I (44 + v) 1 from hJ20o (44 + v) 1 (Or.inl (by omega))]
      rw [show I (44 + v) 1 = c (3 + v) 1 from hVo.2.1]
      refine mk_putf (nx := 50) (ty := .int) X t_Line t_Line_ok n_Line (12 + 6 * v) (by omega) (sh_Line cs ad (show v < 4 by omega) _) rfl in_Line 8 (by decide) wd_143 rfl rfl (by decide +kernel) rfl rfl (Nat.le_of_ble_eq_true rfl) ((sh_Line cs ad (show v < 4 by omega) _).trans rfl) d_Line_lay_47 rfl ?_
      obtain ⟨J22, hJ22⟩ : ∃ W_ : Wo, W_ = up2 J21 (12 + 6 * v) 8 (c (3 + v) 1) := ⟨_, rfl⟩
      refine mk_same hJ22.symm ?_
      have hJ22s : J22 (12 + 6 * v) 8 = c (3 + v) 1 := hJ22 ▸ up2_ss J21 (12 + 6 * v) 8 (c (3 + v) 1)
      have hJ22o : ∀ a b, (a ≠ (12 + 6 * v) ∨ b ≠ 8) → J22 a b = J21 a b := hJ22 ▸ up2_o J21 (12 + 6 * v) 8 (c (3 + v) 1)
      refine mk_aloadn (nx := 51) X 1 d_Line_lay_50 rfl rfl ?_
      refine mk_aloadn (nx := 52) X 3 d_Line_lay_51 rfl rfl ?_
      refine mk_get (nx := 55) (v := .int (zi (J22 (44 + v) 2))) X (44 + v) (by omega) (sh_Voice cs ad (show v < 4 by omega) _) rfl in_Voice 2 (by decide) wd_269 rfl rfl d_Line_lay_52 rfl ?_
      rw [show J22 (44 + v) 2 = J21 (44 + v) 2 from hJ22o (44 + v) 2 (Or.inl (by omega))]
      rw [show J21 (44 + v) 2 = J20 (44 + v) 2 from hJ21o (44 + v) 2 (Or.inl (by omega))]
      rw [show J20 (44 + v) 2 = I (44 + v) 2 from hJ20o (44 + v) 2 (Or.inl (by omega))]
      rw [show I (44 + v) 2 = c (3 + v) 2 from hVo.2.2.1]
      refine mk_putf (nx := 58) (ty := .int) X t_Line t_Line_ok n_Line (12 + 6 * v) (by omega) (sh_Line cs ad (show v < 4 by omega) _) rfl in_Line 9 (by decide) wd_145 rfl rfl (by decide +kernel) rfl rfl (Nat.le_of_ble_eq_true rfl) ((sh_Line cs ad (show v < 4 by omega) _).trans rfl) d_Line_lay_55 rfl ?_
      obtain ⟨J23, hJ23⟩ : ∃ W_ : Wo, W_ = up2 J22 (12 + 6 * v) 9 (c (3 + v) 2) := ⟨_, rfl⟩
      refine mk_same hJ23.symm ?_
      have hJ23s : J23 (12 + 6 * v) 9 = c (3 + v) 2 := hJ23 ▸ up2_ss J22 (12 + 6 * v) 9 (c (3 + v) 2)
      have hJ23o : ∀ a b, (a ≠ (12 + 6 * v) ∨ b ≠ 9) → J23 a b = J22 a b := hJ23 ▸ up2_o J22 (12 + 6 * v) 9 (c (3 + v) 2)
      refine mk_aloadn (nx := 59) X 1 d_Line_lay_58 rfl rfl ?_
      refine mk_iloadn (nx := 60) X 4 d_Line_lay_59 rfl rfl ?_
      refine mk_putf (nx := 63) (ty := .int) X t_Line t_Line_ok n_Line (12 + 6 * v) (by omega) (sh_Line cs ad (show v < 4 by omega) _) rfl in_Line 7 (by decide) wd_142 rfl rfl (by decide +kernel) rfl rfl (Nat.le_of_ble_eq_true rfl) ((sh_Line cs ad (show v < 4 by omega) _).trans rfl) d_Line_lay_60 rfl ?_
      obtain ⟨J24, hJ24⟩ : ∃ W_ : Wo, W_ = up2 J23 (12 + 6 * v) 7 (c 0 6) := ⟨_, rfl⟩
      refine mk_same hJ24.symm ?_
      have hJ24s : J24 (12 + 6 * v) 7 = c 0 6 := hJ24 ▸ up2_ss J23 (12 + 6 * v) 7 (c 0 6)
      have hJ24o : ∀ a b, (a ≠ (12 + 6 * v) ∨ b ≠ 7) → J24 a b = J23 a b := hJ24 ▸ up2_o J23 (12 + 6 * v) 7 (c 0 6)
      refine mk_aloadn (nx := 64) X 1 d_Line_lay_63 rfl rfl ?_
      refine mk_aloadn (nx := 65) X 2 d_Line_lay_64 rfl rfl ?_
      refine mk_get (nx := 68) (v := .int (zi (J24 1 2))) X 1 (by decide) (sh_Subject cs ad _) rfl in_Subject 2 (by decide) wd_72 rfl rfl d_Line_lay_65 rfl ?_
      rw [show J24 1 2 = J23 1 2 from hJ24o 1 2 (Or.inl (by omega))]
      rw [show J23 1 2 = J22 1 2 from hJ23o 1 2 (Or.inl (by omega))]
      rw [show J22 1 2 = J21 1 2 from hJ22o 1 2 (Or.inl (by omega))]
      rw [show J21 1 2 = J20 1 2 from hJ21o 1 2 (Or.inl (by omega))]
      rw [show J20 1 2 = I 1 2 from hJ20o 1 2 (Or.inl (by omega))]
      rw [show I 1 2 = c 0 0 from hm.1]
      refine mk_putf (nx := 71) (ty := .int) X t_Line t_Line_ok n_Line (12 + 6 * v) (by omega) (sh_Line cs ad (show v < 4 by omega) _) rfl in_Line 5 (by decide) wd_139 rfl rfl (by decide +kernel) rfl rfl (Nat.le_of_ble_eq_true rfl) ((sh_Line cs ad (show v < 4 by omega) _).trans rfl) d_Line_lay_68 rfl ?_
      obtain ⟨J25, hJ25⟩ : ∃ W_ : Wo, W_ = up2 J24 (12 + 6 * v) 5 (c 0 0) := ⟨_, rfl⟩
      refine mk_same hJ25.symm ?_
      have hJ25s : J25 (12 + 6 * v) 5 = c 0 0 := hJ25 ▸ up2_ss J24 (12 + 6 * v) 5 (c 0 0)
      have hJ25o : ∀ a b, (a ≠ (12 + 6 * v) ∨ b ≠ 5) → J25 a b = J24 a b := hJ25 ▸ up2_o J24 (12 + 6 * v) 5 (c 0 0)
      refine mk_aloadn (nx := 72) X 1 d_Line_lay_71 rfl rfl ?_
      refine mk_iconst (nx := 73) X d_Line_lay_72 rfl ?_
      refine mk_putf (nx := 76) (ty := .int) X t_Line t_Line_ok n_Line (12 + 6 * v) (by omega) (sh_Line cs ad (show v < 4 by omega) _) rfl in_Line 6 (by decide) wd_141 rfl rfl (by decide +kernel) rfl rfl (Nat.le_of_ble_eq_true rfl) ((sh_Line cs ad (show v < 4 by omega) _).trans rfl) d_Line_lay_73 rfl ?_
      obtain ⟨J26, hJ26⟩ : ∃ W_ : Wo, W_ = up2 J25 (12 + 6 * v) 6 0 := ⟨_, rfl⟩
      refine mk_same hJ26.symm ?_
      have hJ26s : J26 (12 + 6 * v) 6 = 0 := hJ26 ▸ up2_ss J25 (12 + 6 * v) 6 0
      have hJ26o : ∀ a b, (a ≠ (12 + 6 * v) ∨ b ≠ 6) → J26 a b = J25 a b := hJ26 ▸ up2_o J25 (12 + 6 * v) 6 0
      refine mk_iconst (nx := 77) X d_Line_lay_76 rfl ?_
      refine mk_istore (nx := 79) X [(5, .int (zi 0)), (4, .int (zi 1)), (0, .ref (ad (12 + 6 * v))), (1, .ref (ad 1)), (2, .ref (ad (44 + v))), (3, .int (zi (c 0 6)))] d_Line_lay_77 (by decide) rfl rfl ?_
      refine mk_lv [2, 3, 4, 5, 1, 0] rfl ?_
      exact L79 _ 0 1 J26 (by omega) (by omega) (by first | exact ly_init (by rw [hJ26, hJ25, hJ24, hJ23, hJ22, hJ21, hJ20]) (by rw [if_pos (by omega)]) | exact ly_init (by rw [hJ26, hJ25, hJ24, hJ23, hJ22, hJ21, hJ20]) (by rw [if_neg (by omega)]) | (rw [hJ26, hJ25, hJ24, hJ23, hJ22, hJ21, hJ20]; exact ly_step hI rfl rfl rfl)) (Nat.lt_succ_self _)
    · skip
      refine mk_iconst (nx := 35) X d_Line_lay_34 rfl ?_
      refine mk_goto (tgt := 39) X d_Line_lay_35 (by decide) ?_
      refine mk_putf (nx := 42) (ty := .boolean) X t_Line t_Line_ok n_Line (12 + 6 * v) (by omega) (sh_Line cs ad (show v < 4 by omega) _) rfl in_Line 11 (by decide) wd_150 rfl rfl (by decide +kernel) (zi_nb (by omega)) (zi_fb (by omega)) (Nat.le_of_ble_eq_true rfl) ((sh_Line cs ad (show v < 4 by omega) _).trans rfl) d_Line_lay_39 rfl ?_
      obtain ⟨J27, hJ27⟩ : ∃ W_ : Wo, W_ = up2 J20 (12 + 6 * v) 11 1 := ⟨_, rfl⟩
      refine mk_same hJ27.symm ?_
      have hJ27s : J27 (12 + 6 * v) 11 = 1 := hJ27 ▸ up2_ss J20 (12 + 6 * v) 11 1
      have hJ27o : ∀ a b, (a ≠ (12 + 6 * v) ∨ b ≠ 11) → J27 a b = J20 a b := hJ27 ▸ up2_o J20 (12 + 6 * v) 11 1
      refine mk_aloadn (nx := 43) X 1 d_Line_lay_42 rfl rfl ?_
      refine mk_aloadn (nx := 44) X 3 d_Line_lay_43 rfl rfl ?_
      refine mk_get (nx := 47) (v := .int (zi (J27 (44 + v) 1))) X (44 + v) (by omega) (sh_Voice cs ad (show v < 4 by omega) _) rfl in_Voice 1 (by decide) wd_267 rfl rfl d_Line_lay_44 rfl ?_
      rw [show J27 (44 + v) 1 = J20 (44 + v) 1 from hJ27o (44 + v) 1 (Or.inl (by omega))]
      rw [show J20 (44 + v) 1 = I (44 + v) 1 from hJ20o (44 + v) 1 (Or.inl (by omega))]
      rw [show I (44 + v) 1 = c (3 + v) 1 from hVo.2.1]
      refine mk_putf (nx := 50) (ty := .int) X t_Line t_Line_ok n_Line (12 + 6 * v) (by omega) (sh_Line cs ad (show v < 4 by omega) _) rfl in_Line 8 (by decide) wd_143 rfl rfl (by decide +kernel) rfl rfl (Nat.le_of_ble_eq_true rfl) ((sh_Line cs ad (show v < 4 by omega) _).trans rfl) d_Line_lay_47 rfl ?_
      obtain ⟨J28, hJ28⟩ : ∃ W_ : Wo, W_ = up2 J27 (12 + 6 * v) 8 (c (3 + v) 1) := ⟨_, rfl⟩
      refine mk_same hJ28.symm ?_
      have hJ28s : J28 (12 + 6 * v) 8 = c (3 + v) 1 := hJ28 ▸ up2_ss J27 (12 + 6 * v) 8 (c (3 + v) 1)
      have hJ28o : ∀ a b, (a ≠ (12 + 6 * v) ∨ b ≠ 8) → J28 a b = J27 a b := hJ28 ▸ up2_o J27 (12 + 6 * v) 8 (c (3 + v) 1)
      refine mk_aloadn (nx := 51) X 1 d_Line_lay_50 rfl rfl ?_
      refine mk_aloadn (nx := 52) X 3 d_Line_lay_51 rfl rfl ?_
      refine mk_get (nx := 55) (v := .int (zi (J28 (44 + v) 2))) X (44 + v) (by omega) (sh_Voice cs ad (show v < 4 by omega) _) rfl in_Voice 2 (by decide) wd_269 rfl rfl d_Line_lay_52 rfl ?_
      rw [show J28 (44 + v) 2 = J27 (44 + v) 2 from hJ28o (44 + v) 2 (Or.inl (by omega))]
      rw [show J27 (44 + v) 2 = J20 (44 + v) 2 from hJ27o (44 + v) 2 (Or.inl (by omega))]
      rw [show J20 (44 + v) 2 = I (44 + v) 2 from hJ20o (44 + v) 2 (Or.inl (by omega))]
      rw [show I (44 + v) 2 = c (3 + v) 2 from hVo.2.2.1]
      refine mk_putf (nx := 58) (ty := .int) X t_Line t_Line_ok n_Line (12 + 6 * v) (by omega) (sh_Line cs ad (show v < 4 by omega) _) rfl in_Line 9 (by decide) wd_145 rfl rfl (by decide +kernel) rfl rfl (Nat.le_of_ble_eq_true rfl) ((sh_Line cs ad (show v < 4 by omega) _).trans rfl) d_Line_lay_55 rfl ?_
      obtain ⟨J29, hJ29⟩ : ∃ W_ : Wo, W_ = up2 J28 (12 + 6 * v) 9 (c (3 + v) 2) := ⟨_, rfl⟩
      refine mk_same hJ29.symm ?_
      have hJ29s : J29 (12 + 6 * v) 9 = c (3 + v) 2 := hJ29 ▸ up2_ss J28 (12 + 6 * v) 9 (c (3 + v) 2)
      have hJ29o : ∀ a b, (a ≠ (12 + 6 * v) ∨ b ≠ 9) → J29 a b = J28 a b := hJ29 ▸ up2_o J28 (12 + 6 * v) 9 (c (3 + v) 2)
      refine mk_aloadn (nx := 59) X 1 d_Line_lay_58 rfl rfl ?_
      refine mk_iloadn (nx := 60) X 4 d_Line_lay_59 rfl rfl ?_
      refine mk_putf (nx := 63) (ty := .int) X t_Line t_Line_ok n_Line (12 + 6 * v) (by omega) (sh_Line cs ad (show v < 4 by omega) _) rfl in_Line 7 (by decide) wd_142 rfl rfl (by decide +kernel) rfl rfl (Nat.le_of_ble_eq_true rfl) ((sh_Line cs ad (show v < 4 by omega) _).trans rfl) d_Line_lay_60 rfl ?_
      obtain ⟨J30, hJ30⟩ : ∃ W_ : Wo, W_ = up2 J29 (12 + 6 * v) 7 (c 0 6) := ⟨_, rfl⟩
      refine mk_same hJ30.symm ?_
      have hJ30s : J30 (12 + 6 * v) 7 = c 0 6 := hJ30 ▸ up2_ss J29 (12 + 6 * v) 7 (c 0 6)
      have hJ30o : ∀ a b, (a ≠ (12 + 6 * v) ∨ b ≠ 7) → J30 a b = J29 a b := hJ30 ▸ up2_o J29 (12 + 6 * v) 7 (c 0 6)
      refine mk_aloadn (nx := 64) X 1 d_Line_lay_63 rfl rfl ?_
      refine mk_aloadn (nx := 65) X 2 d_Line_lay_64 rfl rfl ?_
      refine mk_get (nx := 68) (v := .int (zi (J30 1 2))) X 1 (by decide) (sh_Subject cs ad _) rfl in_Subject 2 (by decide) wd_72 rfl rfl d_Line_lay_65 rfl ?_
      rw [show J30 1 2 = J29 1 2 from hJ30o 1 2 (Or.inl (by omega))]
      rw [show J29 1 2 = J28 1 2 from hJ29o 1 2 (Or.inl (by omega))]
      rw [show J28 1 2 = J27 1 2 from hJ28o 1 2 (Or.inl (by omega))]
      rw [show J27 1 2 = J20 1 2 from hJ27o 1 2 (Or.inl (by omega))]
      rw [show J20 1 2 = I 1 2 from hJ20o 1 2 (Or.inl (by omega))]
      rw [show I 1 2 = c 0 0 from hm.1]
      refine mk_putf (nx := 71) (ty := .int) X t_Line t_Line_ok n_Line (12 + 6 * v) (by omega) (sh_Line cs ad (show v < 4 by omega) _) rfl in_Line 5 (by decide) wd_139 rfl rfl (by decide +kernel) rfl rfl (Nat.le_of_ble_eq_true rfl) ((sh_Line cs ad (show v < 4 by omega) _).trans rfl) d_Line_lay_68 rfl ?_
      obtain ⟨J31, hJ31⟩ : ∃ W_ : Wo, W_ = up2 J30 (12 + 6 * v) 5 (c 0 0) := ⟨_, rfl⟩
      refine mk_same hJ31.symm ?_
      have hJ31s : J31 (12 + 6 * v) 5 = c 0 0 := hJ31 ▸ up2_ss J30 (12 + 6 * v) 5 (c 0 0)
      have hJ31o : ∀ a b, (a ≠ (12 + 6 * v) ∨ b ≠ 5) → J31 a b = J30 a b := hJ31 ▸ up2_o J30 (12 + 6 * v) 5 (c 0 0)
      refine mk_aloadn (nx := 72) X 1 d_Line_lay_71 rfl rfl ?_
      refine mk_iconst (nx := 73) X d_Line_lay_72 rfl ?_
      refine mk_putf (nx := 76) (ty := .int) X t_Line t_Line_ok n_Line (12 + 6 * v) (by omega) (sh_Line cs ad (show v < 4 by omega) _) rfl in_Line 6 (by decide) wd_141 rfl rfl (by decide +kernel) rfl rfl (Nat.le_of_ble_eq_true rfl) ((sh_Line cs ad (show v < 4 by omega) _).trans rfl) d_Line_lay_73 rfl ?_
      obtain ⟨J32, hJ32⟩ : ∃ W_ : Wo, W_ = up2 J31 (12 + 6 * v) 6 0 := ⟨_, rfl⟩
      refine mk_same hJ32.symm ?_
      have hJ32s : J32 (12 + 6 * v) 6 = 0 := hJ32 ▸ up2_ss J31 (12 + 6 * v) 6 0
      have hJ32o : ∀ a b, (a ≠ (12 + 6 * v) ∨ b ≠ 6) → J32 a b = J31 a b := hJ32 ▸ up2_o J31 (12 + 6 * v) 6 0
      refine mk_iconst (nx := 77) X d_Line_lay_76 rfl ?_
      refine mk_istore (nx := 79) X [(5, .int (zi 0)), (4, .int (zi 1)), (0, .ref (ad (12 + 6 * v))), (1, .ref (ad 1)), (2, .ref (ad (44 + v))), (3, .int (zi (c 0 6)))] d_Line_lay_77 (by decide) rfl rfl ?_
      refine mk_lv [2, 3, 4, 5, 1, 0] rfl ?_
      exact L79 _ 0 1 J32 (by omega) (by omega) (by first | exact ly_init (by rw [hJ32, hJ31, hJ30, hJ29, hJ28, hJ27, hJ20]) (by rw [if_pos (by omega)]) | exact ly_init (by rw [hJ32, hJ31, hJ30, hJ29, hJ28, hJ27, hJ20]) (by rw [if_neg (by omega)]) | (rw [hJ32, hJ31, hJ30, hJ29, hJ28, hJ27, hJ20]; exact ly_step hI rfl rfl rfl)) (Nat.lt_succ_self _)
