/-! JUDGING, in words: STRUCK, sounding, the neighbours' pitches -/
def hsk (c : Wo) (v : Nat) (t : Int) : Prop := c (3 + v) 0 = 1 ∧ csk c v t = 1
def hso (c : Wo) (v : Nat) (t : Int) : Prop := c (3 + v) 0 = 1 ∧ ¬ cpt c v t = 1000
def ob (c : Wo) (v : Nat) (t : Int) : Int := cbs c v (cpl c v t) (-1)
def nb (c : Wo) (v : Nat) (t : Int) : Int := cbs c v (cpl c v t) 1
def leap (d : Int) : Prop := 12 < d ∨ d = 6 ∨ d = 10 ∨ d = 11
/-- a fault of one VOICE -/
def brA (c : Wo) (rule : Int) (v : Nat) (t : Int) : Prop := hsk c v t ∧ ¬ cpt c v t = 1001 ∧ ((rule = 1 ∧ (cpt c v t < c 0 1 ∨ c 0 2 < cpt c v t)) ∨ (rule = 2 ∧ ziand (zishr (c 0 3) (cpt c v t % 12)) 1 = 0) ∨ (rule = 128 ∧ ob c v t < 1000 ∧ leap ((cpt c v t - ob c v t).natAbs : Int)))
/-- how a NOTE goes on: 0 not in steps, or lonely; 1 in steps; 2 open -/
def gst (p o n : Int) : Int := if o = 1000 ∨ n = 1000 then 0 else if o = 1001 ∨ n = 1001 then 2 else if (1 ≤ p - o ∧ p - o ≤ 2 ∧ 1 ≤ n - p ∧ n - p ≤ 2) ∨ (p - o ≤ -1 ∧ -2 ≤ p - o ∧ n - p ≤ -1 ∧ -2 ≤ n - p) then 1 else 0
theorem lineat {c I : Wo} {v : Nat} (h : MlL c I v (cn c)) {y : Int} (hy : 0 ≤ y ∧ y < cn c) {q : Nat} (hq : (q : Int) = 24 * v + y) : I 11 q = clp c v y.toNat := by
  obtain rfl : q = 24 * v + y.toNat := by omega
  exact h _ (by omega)
theorem cbs_b {c : Wo} {v : Nat} (h : wfN c) (hV : wfV c) (hv : v < 4) (hp : 0 < cn c) (p way : Int) : -200 ≤ cbs c v p way ∧ cbs c v p way ≤ 1001 := by
  have hcn := cn_e h
  unfold cbs
  by_cases a : 0 ≤ p + way ∧ p + way < c 0 0
  · rw [if_pos a]; exact clp_b h hV hv (by omega)
  · rw [if_neg a]
    by_cases b : c 0 6 = 0 ∨ ¬ an_size c * c (3 + v) 4 = c 0 6
    · rw [if_pos b]; omega
    · rw [if_neg b]
      by_cases d : p + way < 0
      · rw [if_pos d]; exact clp_b h hV hv (by omega)
      · rw [if_neg d]; exact clp_b h hV hv (by omega)
theorem csk_pl {c : Wo} {v : Nat} {t : Int} (h : csk c v t = 1) : ¬ cpl c v t = -1 ∧ ¬ cpt c v t = 1000 := by
  unfold csk at h
  by_cases a : cpl c v t = -1
  · rw [if_pos a] at h; omega
  · rw [if_neg a] at h
    refine ⟨a, ?_⟩
    by_cases b : csn c v t = cbg c v (cpl c v t).toNat ∧ ¬ clp c v (cpl c v t).toNat = 1000
    · unfold cpt; rw [if_neg a]; exact b.2
    · rw [if_neg b] at h; omega
theorem mod12 (p : Int) : Int.tmod (Int.tmod p 12 + 12) 12 = p % 12 := by
  have h := tmod_fm (x := p) (y := 12) (by omega)
  have h1 := Int.tmod_lt_of_pos p (show (0 : Int) < 12 by omega)
  have h2 := Int.lt_tmod_of_pos p (show (0 : Int) < 12 by omega)
  rw [Int.tmod_eq_emod_of_nonneg (by omega)]
  split at h <;> omega

-- CanonMakerModel.beside(III)I
theorem d_Mo_beside_0 : decode prog_9_method_24_code 0 = .ok (.aload_n 0, 1) := by decide +kernel
theorem d_Mo_beside_1 : decode prog_9_method_24_code 1 = .ok (.getfield 48, 3) := by decide +kernel
theorem d_Mo_beside_4 : decode prog_9_method_24_code 4 = .ok (.sipush 1300, 3) := by decide +kernel
theorem d_Mo_beside_7 : decode prog_9_method_24_code 7 = .ok (.iload_n 1, 1) := by decide +kernel
theorem d_Mo_beside_8 : decode prog_9_method_24_code 8 = .ok (.imul, 1) := by decide +kernel
theorem d_Mo_beside_9 : decode prog_9_method_24_code 9 = .ok (.iload_n 2, 1) := by decide +kernel
theorem d_Mo_beside_10 : decode prog_9_method_24_code 10 = .ok (.iadd, 1) := by decide +kernel
theorem d_Mo_beside_11 : decode prog_9_method_24_code 11 = .ok (.iaload, 1) := by decide +kernel
theorem d_Mo_beside_12 : decode prog_9_method_24_code 12 = .ok (.iload_n 3, 1) := by decide +kernel
theorem d_Mo_beside_13 : decode prog_9_method_24_code 13 = .ok (.iadd, 1) := by decide +kernel
theorem d_Mo_beside_14 : decode prog_9_method_24_code 14 = .ok (.istore 4, 2) := by decide +kernel
theorem d_Mo_beside_16 : decode prog_9_method_24_code 16 = .ok (.iload 4, 2) := by decide +kernel
theorem d_Mo_beside_18 : decode prog_9_method_24_code 18 = .ok (.ifCond .lt 12, 3) := by decide +kernel
theorem d_Mo_beside_21 : decode prog_9_method_24_code 21 = .ok (.iload 4, 2) := by decide +kernel
theorem d_Mo_beside_23 : decode prog_9_method_24_code 23 = .ok (.aload_n 0, 1) := by decide +kernel
theorem d_Mo_beside_24 : decode prog_9_method_24_code 24 = .ok (.getfield 66, 3) := by decide +kernel
theorem d_Mo_beside_27 : decode prog_9_method_24_code 27 = .ok (.if_icmp .lt 43, 3) := by decide +kernel
theorem d_Mo_beside_30 : decode prog_9_method_24_code 30 = .ok (.aload_n 0, 1) := by decide +kernel
theorem d_Mo_beside_31 : decode prog_9_method_24_code 31 = .ok (.getfield 72, 3) := by decide +kernel
theorem d_Mo_beside_34 : decode prog_9_method_24_code 34 = .ok (.ifCond .eq 15, 3) := by decide +kernel
theorem d_Mo_beside_37 : decode prog_9_method_24_code 37 = .ok (.aload_n 0, 1) := by decide +kernel
theorem d_Mo_beside_38 : decode prog_9_method_24_code 38 = .ok (.iload_n 1, 1) := by decide +kernel
theorem d_Mo_beside_39 : decode prog_9_method_24_code 39 = .ok (.invokevirtual 89, 3) := by decide +kernel
theorem d_Mo_beside_42 : decode prog_9_method_24_code 42 = .ok (.aload_n 0, 1) := by decide +kernel
theorem d_Mo_beside_43 : decode prog_9_method_24_code 43 = .ok (.getfield 72, 3) := by decide +kernel
theorem d_Mo_beside_46 : decode prog_9_method_24_code 46 = .ok (.if_icmp .eq 7, 3) := by decide +kernel
theorem d_Mo_beside_49 : decode prog_9_method_24_code 49 = .ok (.sipush 1000, 3) := by decide +kernel
theorem d_Mo_beside_52 : decode prog_9_method_24_code 52 = .ok (.ireturn, 1) := by decide +kernel
theorem d_Mo_beside_53 : decode prog_9_method_24_code 53 = .ok (.iload 4, 2) := by decide +kernel
theorem d_Mo_beside_55 : decode prog_9_method_24_code 55 = .ok (.ifCond .ge 12, 3) := by decide +kernel
theorem d_Mo_beside_58 : decode prog_9_method_24_code 58 = .ok (.aload_n 0, 1) := by decide +kernel
theorem d_Mo_beside_59 : decode prog_9_method_24_code 59 = .ok (.getfield 66, 3) := by decide +kernel
theorem d_Mo_beside_62 : decode prog_9_method_24_code 62 = .ok (.iconst 1, 1) := by decide +kernel
theorem d_Mo_beside_63 : decode prog_9_method_24_code 63 = .ok (.isub, 1) := by decide +kernel
theorem d_Mo_beside_64 : decode prog_9_method_24_code 64 = .ok (.goto 4, 3) := by decide +kernel
theorem d_Mo_beside_67 : decode prog_9_method_24_code 67 = .ok (.iconst 0, 1) := by decide +kernel
theorem d_Mo_beside_68 : decode prog_9_method_24_code 68 = .ok (.istore 4, 2) := by decide +kernel
theorem d_Mo_beside_70 : decode prog_9_method_24_code 70 = .ok (.aload_n 0, 1) := by decide +kernel
theorem d_Mo_beside_71 : decode prog_9_method_24_code 71 = .ok (.getfield 51, 3) := by decide +kernel
theorem d_Mo_beside_74 : decode prog_9_method_24_code 74 = .ok (.bipush 24, 2) := by decide +kernel
theorem d_Mo_beside_76 : decode prog_9_method_24_code 76 = .ok (.iload_n 1, 1) := by decide +kernel
theorem d_Mo_beside_77 : decode prog_9_method_24_code 77 = .ok (.imul, 1) := by decide +kernel
theorem d_Mo_beside_78 : decode prog_9_method_24_code 78 = .ok (.iload 4, 2) := by decide +kernel
theorem d_Mo_beside_80 : decode prog_9_method_24_code 80 = .ok (.iadd, 1) := by decide +kernel
theorem d_Mo_beside_81 : decode prog_9_method_24_code 81 = .ok (.iaload, 1) := by decide +kernel
theorem d_Mo_beside_82 : decode prog_9_method_24_code 82 = .ok (.ireturn, 1) := by decide +kernel
abbrev rm_Mo_beside : Room := { frames := 2, cells := 0, slots := 0, locals := 43 }
set_option maxHeartbeats 4000000 in
set_option maxRecDepth 100000 in
theorem c_Mo_beside (l : Launch) (D : va_G) (cs : Nat → ClassId) (ad : Nat → Nat) (hi : mo_inj ad) (c I : Wo) (h : moR c I) (hL : MoL c I) (v : Nat) (hv : v < 4) (t : Nat) (ht : (t : Int) < an_end c) (hon : c (3 + v) 0 = 1) (hp : ¬ cpl c v t = -1) (way : Int) (hw : way = -1 ∨ way = 1) : mo_C l D cs ad y_Mo_beside ws_Mo_beside rm_Mo_beside [.ref (ad 0), .int (zi (v : Int)), .int (zi (t : Int)), .int (zi way)] I (mk_pi (fun r J => I = J ∧ r = cbs c v (cpl c v t) way)) := by
  refine mk_meti (own := "CanonMakerModel") (Ts := wA) hi (Nat.le_refl _) (by decide) rfl (fun w h => List.mem_cons_of_mem _ h) rfl (Nat.le_of_ble_eq_true rfl) [(0, .ref (ad 0)), (1, .int (zi (v : Int))), (2, .int (zi (t : Int))), (3, .int (zi way))] rfl ?_
  intro p_ e_ s_ m_ as_ bl_ me_ co_ Q_ X hret
  obtain ⟨⟨⟨hn, hN⟩, ⟨hlo, hsc, hbt, hru, hrd, hst⟩, ⟨hV, hV0⟩, ⟨hfc, hF⟩⟩, ⟨i12, iN⟩, ⟨⟨i50, i51, i52, i53, i54⟩, i07, i09⟩, iV, ⟨i010, iF⟩⟩ := id h
  have heb := an_end_b h.1.1 h.1.2.1 h.1.2.2.1
  have hcn := cn_e h.1.1
  have hv5 := hV v hv
  have hpb := cpt_b h.1.1 h.1.2.2.1 hv (t : Int)
  have hsb := csk_b c v (t : Int)
  have hlb := cpl_b h.1.1 h.1.2.2.1 hv (t : Int)
  have hsz := an_size_b h.1.1
  have hm := mul_rng hsz hv5.2.2.2.2
  refine mk_aloadn (nx := 1) X 0 d_Mo_beside_0 rfl rfl ?_
  refine mk_get (nx := 4) (v := .ref (ad 10)) X 0 (by decide) (mh_Mo cs ad _) rfl in_Mo 17 (by decide) wd_612 rfl rfl d_Mo_beside_1 rfl ?_
  refine mk_sipush (nx := 7) X d_Mo_beside_4 (by decide) rfl ?_
  refine mk_iloadn (nx := 8) X 1 d_Mo_beside_7 rfl rfl ?_
  refine mk_imul (nx := 9) X d_Mo_beside_8 rfl ?_
  refine mk_iloadn (nx := 10) X 2 d_Mo_beside_9 rfl rfl ?_
  refine mk_iadd (nx := 11) X d_Mo_beside_10 rfl ?_
  refine mk_iald (nx := 12) (j := ((1300 * v) + t)) X 10 0 (by decide) (mh_noteAt cs ad _) rfl (by omega) (by omega) (by decide) (by omega) d_Mo_beside_11 rfl ?_
  rw [show I 10 ((1300 * v) + t) = cpl c v (t : Int) from ((hL.2 v hv hon).2 t ht).1]
  refine mk_iloadn (nx := 13) X 3 d_Mo_beside_12 rfl rfl ?_
  refine mk_iadd (nx := 14) X d_Mo_beside_13 rfl ?_
  refine mk_istore (nx := 16) X [(4, .int (zi ((cpl c v (t : Int)) + way))), (0, .ref (ad 0)), (1, .int (zi (v : Int))), (2, .int (zi (t : Int))), (3, .int (zi way))] d_Mo_beside_14 (by decide) rfl rfl ?_
  refine mk_iload (nx := 18) X 0 d_Mo_beside_16 rfl rfl ?_
  refine mk_if_lt (tgt := 30) (nx := 21) X d_Mo_beside_18 (by omega) (by decide) rfl (fun c18 => ?_) (fun c18 => ?_)
  · skip
    refine mk_aloadn (nx := 31) X 1 d_Mo_beside_30 rfl rfl ?_
    refine mk_get (nx := 34) (v := .int (zi (I 0 12))) X 0 (by decide) (mh_Mo cs ad _) rfl in_Mo 12 (by decide) wd_607 rfl rfl d_Mo_beside_31 rfl ?_
    rw [show I 0 12 = c 0 6 from i07]
    refine mk_if_eq (tgt := 49) (nx := 37) X d_Mo_beside_34 (by omega) (by decide) rfl (fun c34 => ?_) (fun c34 => ?_)
    · skip
      refine mk_sipush (nx := 52) X d_Mo_beside_49 (by decide) rfl ?_
      exact hret _ _ _ _ d_Mo_beside_52 (by exact ⟨rfl, by rw [cbs, if_neg (by omega), if_pos (by omega)]⟩)
    · skip
      refine mk_aloadn (nx := 38) X 1 d_Mo_beside_37 rfl rfl ?_
      refine mk_iloadn (nx := 39) X 2 d_Mo_beside_38 rfl rfl ?_
      refine mk_callVi (nx := 42) (n := 1) (As := [.int (zi (v : Int))]) (rest := []) X 0 (by decide) (mh_Mo cs ad _) rfl (c_Mo_lineSize l D cs ad hi c I h v hv) (g_Mo_lineSize wd_739) rfl ⟨rfl, rfl⟩ (by decide +kernel) ⟨by decide, by decide⟩ rfl (Nat.le_of_ble_eq_true rfl) rfl d_Mo_beside_39 rfl ?_
      intro r39 J1 hJ1
      obtain ⟨rfl, rfl⟩ := hJ1
      refine mk_aloadn (nx := 43) X 1 d_Mo_beside_42 rfl rfl ?_
      refine mk_get (nx := 46) (v := .int (zi (I 0 12))) X 0 (by decide) (mh_Mo cs ad _) rfl in_Mo 12 (by decide) wd_607 rfl rfl d_Mo_beside_43 rfl ?_
      rw [show I 0 12 = c 0 6 from i07]
      refine mk_icmp_eq (tgt := 53) (nx := 49) X d_Mo_beside_46 (by omega) (by omega) (by decide) rfl (fun c46 => ?_) (fun c46 => ?_)
      · skip
        refine mk_iload (nx := 55) X 0 d_Mo_beside_53 rfl rfl ?_
        refine mk_if_ge (tgt := 67) (nx := 58) X d_Mo_beside_55 (by omega) (by decide) rfl (fun c55 => ?_) (fun c55 => ?_)
        · skip
          refine mk_iconst (nx := 68) X d_Mo_beside_67 rfl ?_
          refine mk_istore (nx := 70) X [(4, .int (zi 0)), (0, .ref (ad 0)), (1, .int (zi (v : Int))), (2, .int (zi (t : Int))), (3, .int (zi way))] d_Mo_beside_68 (by decide) rfl rfl ?_
          refine mk_aloadn (nx := 71) X 1 d_Mo_beside_70 rfl rfl ?_
          refine mk_get (nx := 74) (v := .ref (ad 11)) X 0 (by decide) (mh_Mo cs ad _) rfl in_Mo 18 (by decide) wd_613 rfl rfl d_Mo_beside_71 rfl ?_
          refine mk_bipush (nx := 76) X d_Mo_beside_74 (by decide) rfl ?_
          refine mk_iloadn (nx := 77) X 2 d_Mo_beside_76 rfl rfl ?_
          refine mk_imul (nx := 78) X d_Mo_beside_77 rfl ?_
          refine mk_iload (nx := 80) X 0 d_Mo_beside_78 rfl rfl ?_
          refine mk_iadd (nx := 81) X d_Mo_beside_80 rfl ?_
          refine mk_iald (nx := 82) (j := ((24 * v) + 0)) X 11 0 (by decide) (mh_line cs ad _) rfl (by omega) (by omega) (by decide) (by omega) d_Mo_beside_81 rfl ?_
          exact hret _ _ _ _ d_Mo_beside_82 (by first | exact ⟨rfl, by rw [cbs, if_pos (by omega)]; exact lineat (hL.2 v hv hon).1 (y := cpl c v (t : Int) + way) (by omega) (by omega)⟩ | exact ⟨rfl, by rw [cbs, if_neg (by omega), if_neg (by omega), if_pos (by omega), show cn c - 1 = (c 0 0 - 1).toNat by unfold cn; omega]; exact lineat (hL.2 v hv hon).1 (y := c 0 0 - 1) (by omega) (by omega)⟩ | exact ⟨rfl, by rw [cbs, if_neg (by omega), if_neg (by omega), if_neg (by omega)]; exact lineat (hL.2 v hv hon).1 (y := 0) (by omega) (by omega)⟩)
        · skip
          refine mk_aloadn (nx := 59) X 1 d_Mo_beside_58 rfl rfl ?_
          refine mk_get (nx := 62) (v := .int (zi (I 0 2))) X 0 (by decide) (mh_Mo cs ad _) rfl in_Mo 2 (by decide) wd_597 rfl rfl d_Mo_beside_59 rfl ?_
          rw [show I 0 2 = c 0 0 from i12]
          refine mk_iconst (nx := 63) X d_Mo_beside_62 rfl ?_
          refine mk_isub (nx := 64) X d_Mo_beside_63 rfl ?_
          refine mk_goto (tgt := 68) X d_Mo_beside_64 (by decide) ?_
          refine mk_istore (nx := 70) X [(4, .int (zi ((c 0 0) - 1))), (0, .ref (ad 0)), (1, .int (zi (v : Int))), (2, .int (zi (t : Int))), (3, .int (zi way))] d_Mo_beside_68 (by decide) rfl rfl ?_
          refine mk_aloadn (nx := 71) X 1 d_Mo_beside_70 rfl rfl ?_
          refine mk_get (nx := 74) (v := .ref (ad 11)) X 0 (by decide) (mh_Mo cs ad _) rfl in_Mo 18 (by decide) wd_613 rfl rfl d_Mo_beside_71 rfl ?_
          refine mk_bipush (nx := 76) X d_Mo_beside_74 (by decide) rfl ?_
          refine mk_iloadn (nx := 77) X 2 d_Mo_beside_76 rfl rfl ?_
          refine mk_imul (nx := 78) X d_Mo_beside_77 rfl ?_
          refine mk_iload (nx := 80) X 0 d_Mo_beside_78 rfl rfl ?_
          refine mk_iadd (nx := 81) X d_Mo_beside_80 rfl ?_
          refine mk_iald (nx := 82) (j := ((24 * (v : Int)) + ((c 0 0) - 1)).toNat) X 11 0 (by decide) (mh_line cs ad _) rfl (by omega) (by omega) (by decide) rfl d_Mo_beside_81 rfl ?_
          exact hret _ _ _ _ d_Mo_beside_82 (by first | exact ⟨rfl, by rw [cbs, if_pos (by omega)]; exact lineat (hL.2 v hv hon).1 (y := cpl c v (t : Int) + way) (by omega) (by omega)⟩ | exact ⟨rfl, by rw [cbs, if_neg (by omega), if_neg (by omega), if_pos (by omega), show cn c - 1 = (c 0 0 - 1).toNat by unfold cn; omega]; exact lineat (hL.2 v hv hon).1 (y := c 0 0 - 1) (by omega) (by omega)⟩ | exact ⟨rfl, by rw [cbs, if_neg (by omega), if_neg (by omega), if_neg (by omega)]; exact lineat (hL.2 v hv hon).1 (y := 0) (by omega) (by omega)⟩)
      · skip
        refine mk_sipush (nx := 52) X d_Mo_beside_49 (by decide) rfl ?_
        exact hret _ _ _ _ d_Mo_beside_52 (by exact ⟨rfl, by rw [cbs, if_neg (by omega), if_pos (by omega)]⟩)
  · skip
    refine mk_iload (nx := 23) X 0 d_Mo_beside_21 rfl rfl ?_
    refine mk_aloadn (nx := 24) X 1 d_Mo_beside_23 rfl rfl ?_
    refine mk_get (nx := 27) (v := .int (zi (I 0 2))) X 0 (by decide) (mh_Mo cs ad _) rfl in_Mo 2 (by decide) wd_597 rfl rfl d_Mo_beside_24 rfl ?_
    rw [show I 0 2 = c 0 0 from i12]
    refine mk_icmp_lt (tgt := 70) (nx := 30) X d_Mo_beside_27 (by omega) (by omega) (by decide) rfl (fun c27 => ?_) (fun c27 => ?_)
    · skip
      refine mk_aloadn (nx := 71) X 1 d_Mo_beside_70 rfl rfl ?_
      refine mk_get (nx := 74) (v := .ref (ad 11)) X 0 (by decide) (mh_Mo cs ad _) rfl in_Mo 18 (by decide) wd_613 rfl rfl d_Mo_beside_71 rfl ?_
      refine mk_bipush (nx := 76) X d_Mo_beside_74 (by decide) rfl ?_
      refine mk_iloadn (nx := 77) X 2 d_Mo_beside_76 rfl rfl ?_
      refine mk_imul (nx := 78) X d_Mo_beside_77 rfl ?_
      refine mk_iload (nx := 80) X 0 d_Mo_beside_78 rfl rfl ?_
      refine mk_iadd (nx := 81) X d_Mo_beside_80 rfl ?_
      refine mk_iald (nx := 82) (j := ((24 * (v : Int)) + ((cpl c v (t : Int)) + way)).toNat) X 11 0 (by decide) (mh_line cs ad _) rfl (by omega) (by omega) (by decide) rfl d_Mo_beside_81 rfl ?_
      exact hret _ _ _ _ d_Mo_beside_82 (by first | exact ⟨rfl, by rw [cbs, if_pos (by omega)]; exact lineat (hL.2 v hv hon).1 (y := cpl c v (t : Int) + way) (by omega) (by omega)⟩ | exact ⟨rfl, by rw [cbs, if_neg (by omega), if_neg (by omega), if_pos (by omega), show cn c - 1 = (c 0 0 - 1).toNat by unfold cn; omega]; exact lineat (hL.2 v hv hon).1 (y := c 0 0 - 1) (by omega) (by omega)⟩ | exact ⟨rfl, by rw [cbs, if_neg (by omega), if_neg (by omega), if_neg (by omega)]; exact lineat (hL.2 v hv hon).1 (y := 0) (by omega) (by omega)⟩)
    · skip
      refine mk_aloadn (nx := 31) X 1 d_Mo_beside_30 rfl rfl ?_
      refine mk_get (nx := 34) (v := .int (zi (I 0 12))) X 0 (by decide) (mh_Mo cs ad _) rfl in_Mo 12 (by decide) wd_607 rfl rfl d_Mo_beside_31 rfl ?_
      rw [show I 0 12 = c 0 6 from i07]
      refine mk_if_eq (tgt := 49) (nx := 37) X d_Mo_beside_34 (by omega) (by decide) rfl (fun c34 => ?_) (fun c34 => ?_)
      · skip
        refine mk_sipush (nx := 52) X d_Mo_beside_49 (by decide) rfl ?_
        exact hret _ _ _ _ d_Mo_beside_52 (by exact ⟨rfl, by rw [cbs, if_neg (by omega), if_pos (by omega)]⟩)
      · skip
        refine mk_aloadn (nx := 38) X 1 d_Mo_beside_37 rfl rfl ?_
        refine mk_iloadn (nx := 39) X 2 d_Mo_beside_38 rfl rfl ?_
        refine mk_callVi (nx := 42) (n := 1) (As := [.int (zi (v : Int))]) (rest := []) X 0 (by decide) (mh_Mo cs ad _) rfl (c_Mo_lineSize l D cs ad hi c I h v hv) (g_Mo_lineSize wd_739) rfl ⟨rfl, rfl⟩ (by decide +kernel) ⟨by decide, by decide⟩ rfl (Nat.le_of_ble_eq_true rfl) rfl d_Mo_beside_39 rfl ?_
        intro r39 J2 hJ2
        obtain ⟨rfl, rfl⟩ := hJ2
        refine mk_aloadn (nx := 43) X 1 d_Mo_beside_42 rfl rfl ?_
        refine mk_get (nx := 46) (v := .int (zi (I 0 12))) X 0 (by decide) (mh_Mo cs ad _) rfl in_Mo 12 (by decide) wd_607 rfl rfl d_Mo_beside_43 rfl ?_
        rw [show I 0 12 = c 0 6 from i07]
        refine mk_icmp_eq (tgt := 53) (nx := 49) X d_Mo_beside_46 (by omega) (by omega) (by decide) rfl (fun c46 => ?_) (fun c46 => ?_)
        · skip
          refine mk_iload (nx := 55) X 0 d_Mo_beside_53 rfl rfl ?_
          refine mk_if_ge (tgt := 67) (nx := 58) X d_Mo_beside_55 (by omega) (by decide) rfl (fun c55 => ?_) (fun c55 => ?_)
          · skip
            refine mk_iconst (nx := 68) X d_Mo_beside_67 rfl ?_
            refine mk_istore (nx := 70) X [(4, .int (zi 0)), (0, .ref (ad 0)), (1, .int (zi (v : Int))), (2, .int (zi (t : Int))), (3, .int (zi way))] d_Mo_beside_68 (by decide) rfl rfl ?_
            refine mk_aloadn (nx := 71) X 1 d_Mo_beside_70 rfl rfl ?_
            refine mk_get (nx := 74) (v := .ref (ad 11)) X 0 (by decide) (mh_Mo cs ad _) rfl in_Mo 18 (by decide) wd_613 rfl rfl d_Mo_beside_71 rfl ?_
            refine mk_bipush (nx := 76) X d_Mo_beside_74 (by decide) rfl ?_
            refine mk_iloadn (nx := 77) X 2 d_Mo_beside_76 rfl rfl ?_
            refine mk_imul (nx := 78) X d_Mo_beside_77 rfl ?_
            refine mk_iload (nx := 80) X 0 d_Mo_beside_78 rfl rfl ?_
            refine mk_iadd (nx := 81) X d_Mo_beside_80 rfl ?_
            refine mk_iald (nx := 82) (j := ((24 * v) + 0)) X 11 0 (by decide) (mh_line cs ad _) rfl (by omega) (by omega) (by decide) (by omega) d_Mo_beside_81 rfl ?_
            exact hret _ _ _ _ d_Mo_beside_82 (by first | exact ⟨rfl, by rw [cbs, if_pos (by omega)]; exact lineat (hL.2 v hv hon).1 (y := cpl c v (t : Int) + way) (by omega) (by omega)⟩ | exact ⟨rfl, by rw [cbs, if_neg (by omega), if_neg (by omega), if_pos (by omega), show cn c - 1 = (c 0 0 - 1).toNat by unfold cn; omega]; exact lineat (hL.2 v hv hon).1 (y := c 0 0 - 1) (by omega) (by omega)⟩ | exact ⟨rfl, by rw [cbs, if_neg (by omega), if_neg (by omega), if_neg (by omega)]; exact lineat (hL.2 v hv hon).1 (y := 0) (by omega) (by omega)⟩)
          · skip
            refine mk_aloadn (nx := 59) X 1 d_Mo_beside_58 rfl rfl ?_
            refine mk_get (nx := 62) (v := .int (zi (I 0 2))) X 0 (by decide) (mh_Mo cs ad _) rfl in_Mo 2 (by decide) wd_597 rfl rfl d_Mo_beside_59 rfl ?_
            rw [show I 0 2 = c 0 0 from i12]
            refine mk_iconst (nx := 63) X d_Mo_beside_62 rfl ?_
            refine mk_isub (nx := 64) X d_Mo_beside_63 rfl ?_
            refine mk_goto (tgt := 68) X d_Mo_beside_64 (by decide) ?_
            refine mk_istore (nx := 70) X [(4, .int (zi ((c 0 0) - 1))), (0, .ref (ad 0)), (1, .int (zi (v : Int))), (2, .int (zi (t : Int))), (3, .int (zi way))] d_Mo_beside_68 (by decide) rfl rfl ?_
            refine mk_aloadn (nx := 71) X 1 d_Mo_beside_70 rfl rfl ?_
            refine mk_get (nx := 74) (v := .ref (ad 11)) X 0 (by decide) (mh_Mo cs ad _) rfl in_Mo 18 (by decide) wd_613 rfl rfl d_Mo_beside_71 rfl ?_
            refine mk_bipush (nx := 76) X d_Mo_beside_74 (by decide) rfl ?_
            refine mk_iloadn (nx := 77) X 2 d_Mo_beside_76 rfl rfl ?_
            refine mk_imul (nx := 78) X d_Mo_beside_77 rfl ?_
            refine mk_iload (nx := 80) X 0 d_Mo_beside_78 rfl rfl ?_
            refine mk_iadd (nx := 81) X d_Mo_beside_80 rfl ?_
            refine mk_iald (nx := 82) (j := ((24 * (v : Int)) + ((c 0 0) - 1)).toNat) X 11 0 (by decide) (mh_line cs ad _) rfl (by omega) (by omega) (by decide) rfl d_Mo_beside_81 rfl ?_
            exact hret _ _ _ _ d_Mo_beside_82 (by first | exact ⟨rfl, by rw [cbs, if_pos (by omega)]; exact lineat (hL.2 v hv hon).1 (y := cpl c v (t : Int) + way) (by omega) (by omega)⟩ | exact ⟨rfl, by rw [cbs, if_neg (by omega), if_neg (by omega), if_pos (by omega), show cn c - 1 = (c 0 0 - 1).toNat by unfold cn; omega]; exact lineat (hL.2 v hv hon).1 (y := c 0 0 - 1) (by omega) (by omega)⟩ | exact ⟨rfl, by rw [cbs, if_neg (by omega), if_neg (by omega), if_neg (by omega)]; exact lineat (hL.2 v hv hon).1 (y := 0) (by omega) (by omega)⟩)
        · skip
          refine mk_sipush (nx := 52) X d_Mo_beside_49 (by decide) rfl ?_
          exact hret _ _ _ _ d_Mo_beside_52 (by exact ⟨rfl, by rw [cbs, if_neg (by omega), if_pos (by omega)]⟩)

-- CanonMakerModel.steps(II)I
theorem d_Mo_stepsAt_0 : decode prog_9_method_27_code 0 = .ok (.aload_n 0, 1) := by decide +kernel
theorem d_Mo_stepsAt_1 : decode prog_9_method_27_code 1 = .ok (.iload_n 1, 1) := by decide +kernel
theorem d_Mo_stepsAt_2 : decode prog_9_method_27_code 2 = .ok (.iload_n 2, 1) := by decide +kernel
theorem d_Mo_stepsAt_3 : decode prog_9_method_27_code 3 = .ok (.iconst (-1), 1) := by decide +kernel
theorem d_Mo_stepsAt_4 : decode prog_9_method_27_code 4 = .ok (.invokevirtual 107, 3) := by decide +kernel
theorem d_Mo_stepsAt_7 : decode prog_9_method_27_code 7 = .ok (.istore_n 3, 1) := by decide +kernel
theorem d_Mo_stepsAt_8 : decode prog_9_method_27_code 8 = .ok (.aload_n 0, 1) := by decide +kernel
theorem d_Mo_stepsAt_9 : decode prog_9_method_27_code 9 = .ok (.iload_n 1, 1) := by decide +kernel
theorem d_Mo_stepsAt_10 : decode prog_9_method_27_code 10 = .ok (.iload_n 2, 1) := by decide +kernel
theorem d_Mo_stepsAt_11 : decode prog_9_method_27_code 11 = .ok (.iconst 1, 1) := by decide +kernel
theorem d_Mo_stepsAt_12 : decode prog_9_method_27_code 12 = .ok (.invokevirtual 107, 3) := by decide +kernel
theorem d_Mo_stepsAt_15 : decode prog_9_method_27_code 15 = .ok (.istore 4, 2) := by decide +kernel
theorem d_Mo_stepsAt_17 : decode prog_9_method_27_code 17 = .ok (.aload_n 0, 1) := by decide +kernel
theorem d_Mo_stepsAt_18 : decode prog_9_method_27_code 18 = .ok (.getfield 42, 3) := by decide +kernel
theorem d_Mo_stepsAt_21 : decode prog_9_method_27_code 21 = .ok (.sipush 1300, 3) := by decide +kernel
theorem d_Mo_stepsAt_24 : decode prog_9_method_27_code 24 = .ok (.iload_n 1, 1) := by decide +kernel
theorem d_Mo_stepsAt_25 : decode prog_9_method_27_code 25 = .ok (.imul, 1) := by decide +kernel
theorem d_Mo_stepsAt_26 : decode prog_9_method_27_code 26 = .ok (.iload_n 2, 1) := by decide +kernel
theorem d_Mo_stepsAt_27 : decode prog_9_method_27_code 27 = .ok (.iadd, 1) := by decide +kernel
theorem d_Mo_stepsAt_28 : decode prog_9_method_27_code 28 = .ok (.iaload, 1) := by decide +kernel
theorem d_Mo_stepsAt_29 : decode prog_9_method_27_code 29 = .ok (.istore 5, 2) := by decide +kernel
theorem d_Mo_stepsAt_31 : decode prog_9_method_27_code 31 = .ok (.iload_n 3, 1) := by decide +kernel
theorem d_Mo_stepsAt_32 : decode prog_9_method_27_code 32 = .ok (.sipush 1000, 3) := by decide +kernel
theorem d_Mo_stepsAt_35 : decode prog_9_method_27_code 35 = .ok (.if_icmp .eq 11, 3) := by decide +kernel
theorem d_Mo_stepsAt_38 : decode prog_9_method_27_code 38 = .ok (.iload 4, 2) := by decide +kernel
theorem d_Mo_stepsAt_40 : decode prog_9_method_27_code 40 = .ok (.sipush 1000, 3) := by decide +kernel
theorem d_Mo_stepsAt_43 : decode prog_9_method_27_code 43 = .ok (.if_icmp .ne 5, 3) := by decide +kernel
theorem d_Mo_stepsAt_46 : decode prog_9_method_27_code 46 = .ok (.iconst 0, 1) := by decide +kernel
theorem d_Mo_stepsAt_47 : decode prog_9_method_27_code 47 = .ok (.ireturn, 1) := by decide +kernel
theorem d_Mo_stepsAt_48 : decode prog_9_method_27_code 48 = .ok (.iload_n 3, 1) := by decide +kernel
theorem d_Mo_stepsAt_49 : decode prog_9_method_27_code 49 = .ok (.sipush 1001, 3) := by decide +kernel
theorem d_Mo_stepsAt_52 : decode prog_9_method_27_code 52 = .ok (.if_icmp .eq 11, 3) := by decide +kernel
theorem d_Mo_stepsAt_55 : decode prog_9_method_27_code 55 = .ok (.iload 4, 2) := by decide +kernel
theorem d_Mo_stepsAt_57 : decode prog_9_method_27_code 57 = .ok (.sipush 1001, 3) := by decide +kernel
theorem d_Mo_stepsAt_60 : decode prog_9_method_27_code 60 = .ok (.if_icmp .ne 5, 3) := by decide +kernel
theorem d_Mo_stepsAt_63 : decode prog_9_method_27_code 63 = .ok (.iconst 2, 1) := by decide +kernel
theorem d_Mo_stepsAt_64 : decode prog_9_method_27_code 64 = .ok (.ireturn, 1) := by decide +kernel
theorem d_Mo_stepsAt_65 : decode prog_9_method_27_code 65 = .ok (.iload 5, 2) := by decide +kernel
theorem d_Mo_stepsAt_67 : decode prog_9_method_27_code 67 = .ok (.iload_n 3, 1) := by decide +kernel
theorem d_Mo_stepsAt_68 : decode prog_9_method_27_code 68 = .ok (.isub, 1) := by decide +kernel
theorem d_Mo_stepsAt_69 : decode prog_9_method_27_code 69 = .ok (.istore 6, 2) := by decide +kernel
theorem d_Mo_stepsAt_71 : decode prog_9_method_27_code 71 = .ok (.iload 4, 2) := by decide +kernel
theorem d_Mo_stepsAt_73 : decode prog_9_method_27_code 73 = .ok (.iload 5, 2) := by decide +kernel
theorem d_Mo_stepsAt_75 : decode prog_9_method_27_code 75 = .ok (.isub, 1) := by decide +kernel
theorem d_Mo_stepsAt_76 : decode prog_9_method_27_code 76 = .ok (.istore 7, 2) := by decide +kernel
theorem d_Mo_stepsAt_78 : decode prog_9_method_27_code 78 = .ok (.iload 6, 2) := by decide +kernel
theorem d_Mo_stepsAt_80 : decode prog_9_method_27_code 80 = .ok (.iconst 1, 1) := by decide +kernel
theorem d_Mo_stepsAt_81 : decode prog_9_method_27_code 81 = .ok (.if_icmp .lt 21, 3) := by decide +kernel
theorem d_Mo_stepsAt_84 : decode prog_9_method_27_code 84 = .ok (.iload 6, 2) := by decide +kernel
theorem d_Mo_stepsAt_86 : decode prog_9_method_27_code 86 = .ok (.iconst 2, 1) := by decide +kernel
theorem d_Mo_stepsAt_87 : decode prog_9_method_27_code 87 = .ok (.if_icmp .gt 15, 3) := by decide +kernel
theorem d_Mo_stepsAt_90 : decode prog_9_method_27_code 90 = .ok (.iload 7, 2) := by decide +kernel
theorem d_Mo_stepsAt_92 : decode prog_9_method_27_code 92 = .ok (.iconst 1, 1) := by decide +kernel
theorem d_Mo_stepsAt_93 : decode prog_9_method_27_code 93 = .ok (.if_icmp .lt 9, 3) := by decide +kernel
theorem d_Mo_stepsAt_96 : decode prog_9_method_27_code 96 = .ok (.iload 7, 2) := by decide +kernel
theorem d_Mo_stepsAt_98 : decode prog_9_method_27_code 98 = .ok (.iconst 2, 1) := by decide +kernel
theorem d_Mo_stepsAt_99 : decode prog_9_method_27_code 99 = .ok (.if_icmp .le 29, 3) := by decide +kernel
theorem d_Mo_stepsAt_102 : decode prog_9_method_27_code 102 = .ok (.iload 6, 2) := by decide +kernel
theorem d_Mo_stepsAt_104 : decode prog_9_method_27_code 104 = .ok (.iconst (-1), 1) := by decide +kernel
theorem d_Mo_stepsAt_105 : decode prog_9_method_27_code 105 = .ok (.if_icmp .gt 27, 3) := by decide +kernel
theorem d_Mo_stepsAt_108 : decode prog_9_method_27_code 108 = .ok (.iload 6, 2) := by decide +kernel
theorem d_Mo_stepsAt_110 : decode prog_9_method_27_code 110 = .ok (.bipush (-2), 2) := by decide +kernel
theorem d_Mo_stepsAt_112 : decode prog_9_method_27_code 112 = .ok (.if_icmp .lt 20, 3) := by decide +kernel
theorem d_Mo_stepsAt_115 : decode prog_9_method_27_code 115 = .ok (.iload 7, 2) := by decide +kernel
theorem d_Mo_stepsAt_117 : decode prog_9_method_27_code 117 = .ok (.iconst (-1), 1) := by decide +kernel
theorem d_Mo_stepsAt_118 : decode prog_9_method_27_code 118 = .ok (.if_icmp .gt 14, 3) := by decide +kernel
theorem d_Mo_stepsAt_121 : decode prog_9_method_27_code 121 = .ok (.iload 7, 2) := by decide +kernel
theorem d_Mo_stepsAt_123 : decode prog_9_method_27_code 123 = .ok (.bipush (-2), 2) := by decide +kernel
theorem d_Mo_stepsAt_125 : decode prog_9_method_27_code 125 = .ok (.if_icmp .lt 7, 3) := by decide +kernel
theorem d_Mo_stepsAt_128 : decode prog_9_method_27_code 128 = .ok (.iconst 1, 1) := by decide +kernel
theorem d_Mo_stepsAt_129 : decode prog_9_method_27_code 129 = .ok (.goto 4, 3) := by decide +kernel
theorem d_Mo_stepsAt_132 : decode prog_9_method_27_code 132 = .ok (.iconst 0, 1) := by decide +kernel
theorem d_Mo_stepsAt_133 : decode prog_9_method_27_code 133 = .ok (.ireturn, 1) := by decide +kernel
abbrev rm_Mo_stepsAt : Room := { frames := 3, cells := 0, slots := 0, locals := 67 }
set_option maxHeartbeats 4000000 in
set_option maxRecDepth 100000 in
theorem c_Mo_stepsAt (l : Launch) (D : va_G) (cs : Nat → ClassId) (ad : Nat → Nat) (hi : mo_inj ad) (c I : Wo) (h : moR c I) (hL : MoL c I) (v : Nat) (hv : v < 4) (t : Nat) (ht : (t : Int) < an_end c) (hon : c (3 + v) 0 = 1) (hp : ¬ cpl c v t = -1) : mo_C l D cs ad y_Mo_stepsAt ws_Mo_stepsAt rm_Mo_stepsAt [.ref (ad 0), .int (zi (v : Int)), .int (zi (t : Int))] I (mk_pi (fun r J => I = J ∧ r = gst (cpt c v t) (ob c v t) (nb c v t))) := by
  refine mk_meti (own := "CanonMakerModel") (Ts := wA) hi (Nat.le_refl _) (by decide) rfl (fun w h => List.mem_cons_of_mem _ h) rfl (Nat.le_of_ble_eq_true rfl) [(0, .ref (ad 0)), (1, .int (zi (v : Int))), (2, .int (zi (t : Int)))] rfl ?_
  intro p_ e_ s_ m_ as_ bl_ me_ co_ Q_ X hret
  obtain ⟨⟨⟨hn, hN⟩, ⟨hlo, hsc, hbt, hru, hrd, hst⟩, ⟨hV, hV0⟩, ⟨hfc, hF⟩⟩, ⟨i12, iN⟩, ⟨⟨i50, i51, i52, i53, i54⟩, i07, i09⟩, iV, ⟨i010, iF⟩⟩ := id h
  have heb := an_end_b h.1.1 h.1.2.1 h.1.2.2.1
  have hcn := cn_e h.1.1
  have hv5 := hV v hv
  have hpb := cpt_b h.1.1 h.1.2.2.1 hv (t : Int)
  have hsb := csk_b c v (t : Int)
  have hlb := cpl_b h.1.1 h.1.2.2.1 hv (t : Int)
  have hcp : 0 < cn c := by omega
  have hob := cbs_b h.1.1 h.1.2.2.1 hv hcp (cpl c v (t : Int)) (-1)
  have hnb := cbs_b h.1.1 h.1.2.2.1 hv hcp (cpl c v (t : Int)) 1
  refine mk_aloadn (nx := 1) X 0 d_Mo_stepsAt_0 rfl rfl ?_
  refine mk_iloadn (nx := 2) X 1 d_Mo_stepsAt_1 rfl rfl ?_
  refine mk_iloadn (nx := 3) X 2 d_Mo_stepsAt_2 rfl rfl ?_
  refine mk_iconst (nx := 4) X d_Mo_stepsAt_3 rfl ?_
  refine mk_callVi (nx := 7) (n := 3) (As := [.int (zi (v : Int)), .int (zi (t : Int)), .int (zi (-1))]) (rest := []) X 0 (by decide) (mh_Mo cs ad _) rfl (c_Mo_beside l D cs ad hi c I h hL v hv t ht hon hp (-1) (by omega)) (g_Mo_beside wd_780) rfl ⟨rfl, rfl⟩ (by decide +kernel) ⟨by decide, by decide⟩ rfl (Nat.le_of_ble_eq_true rfl) rfl d_Mo_stepsAt_4 rfl ?_
  intro r4 J1 hJ1
  obtain ⟨rfl, rfl⟩ := hJ1
  refine mk_istoren (nx := 8) X [(3, .int (zi (cbs c v (cpl c v (t : Int)) (-1)))), (0, .ref (ad 0)), (1, .int (zi (v : Int))), (2, .int (zi (t : Int)))] d_Mo_stepsAt_7 (by decide) rfl rfl ?_
  refine mk_aloadn (nx := 9) X 1 d_Mo_stepsAt_8 rfl rfl ?_
  refine mk_iloadn (nx := 10) X 2 d_Mo_stepsAt_9 rfl rfl ?_
  refine mk_iloadn (nx := 11) X 3 d_Mo_stepsAt_10 rfl rfl ?_
  refine mk_iconst (nx := 12) X d_Mo_stepsAt_11 rfl ?_
  refine mk_callVi (nx := 15) (n := 3) (As := [.int (zi (v : Int)), .int (zi (t : Int)), .int (zi 1)]) (rest := []) X 0 (by decide) (mh_Mo cs ad _) rfl (c_Mo_beside l D cs ad hi c I h hL v hv t ht hon hp (1) (by omega)) (g_Mo_beside wd_780) rfl ⟨rfl, rfl⟩ (by decide +kernel) ⟨by decide, by decide⟩ rfl (Nat.le_of_ble_eq_true rfl) rfl d_Mo_stepsAt_12 rfl ?_
  intro r12 J2 hJ2
  obtain ⟨rfl, rfl⟩ := hJ2
  refine mk_istore (nx := 17) X [(4, .int (zi (cbs c v (cpl c v (t : Int)) (1)))), (3, .int (zi (cbs c v (cpl c v (t : Int)) (-1)))), (0, .ref (ad 0)), (1, .int (zi (v : Int))), (2, .int (zi (t : Int)))] d_Mo_stepsAt_15 (by decide) rfl rfl ?_
  refine mk_aloadn (nx := 18) X 2 d_Mo_stepsAt_17 rfl rfl ?_
  refine mk_get (nx := 21) (v := .ref (ad 8)) X 0 (by decide) (mh_Mo cs ad _) rfl in_Mo 15 (by decide) wd_610 rfl rfl d_Mo_stepsAt_18 rfl ?_
  refine mk_sipush (nx := 24) X d_Mo_stepsAt_21 (by decide) rfl ?_
  refine mk_iloadn (nx := 25) X 3 d_Mo_stepsAt_24 rfl rfl ?_
  refine mk_imul (nx := 26) X d_Mo_stepsAt_25 rfl ?_
  refine mk_iloadn (nx := 27) X 4 d_Mo_stepsAt_26 rfl rfl ?_
  refine mk_iadd (nx := 28) X d_Mo_stepsAt_27 rfl ?_
  refine mk_iald (nx := 29) (j := ((1300 * v) + t)) X 8 0 (by decide) (mh_pitchAt cs ad _) rfl (by omega) (by omega) (by decide) (by omega) d_Mo_stepsAt_28 rfl ?_
  rw [show I 8 ((1300 * v) + t) = cpt c v (t : Int) from ((hL.2 v hv hon).2 t ht).2.1]
  refine mk_istore (nx := 31) X [(5, .int (zi (cpt c v (t : Int)))), (4, .int (zi (cbs c v (cpl c v (t : Int)) (1)))), (3, .int (zi (cbs c v (cpl c v (t : Int)) (-1)))), (0, .ref (ad 0)), (1, .int (zi (v : Int))), (2, .int (zi (t : Int)))] d_Mo_stepsAt_29 (by decide) rfl rfl ?_
  refine mk_iloadn (nx := 32) X 2 d_Mo_stepsAt_31 rfl rfl ?_
  refine mk_sipush (nx := 35) X d_Mo_stepsAt_32 (by decide) rfl ?_
  refine mk_icmp_eq (tgt := 46) (nx := 38) X d_Mo_stepsAt_35 (by omega) (by omega) (by decide) rfl (fun c35 => ?_) (fun c35 => ?_)
  · skip
    refine mk_iconst (nx := 47) X d_Mo_stepsAt_46 rfl ?_
    exact hret _ _ _ _ d_Mo_stepsAt_47 (by first | (exfalso; omega) | exact ⟨rfl, by unfold gst ob nb; rw [if_pos (by omega)]⟩ | exact ⟨rfl, by unfold gst ob nb; rw [if_neg (by omega), if_pos (by omega)]⟩ | exact ⟨rfl, by unfold gst ob nb; rw [if_neg (by omega), if_neg (by omega), if_pos (by omega)]⟩ | exact ⟨rfl, by unfold gst ob nb; rw [if_neg (by omega), if_neg (by omega), if_neg (by omega)]⟩)
  · skip
    refine mk_iload (nx := 40) X 1 d_Mo_stepsAt_38 rfl rfl ?_
    refine mk_sipush (nx := 43) X d_Mo_stepsAt_40 (by decide) rfl ?_
    refine mk_icmp_ne (tgt := 48) (nx := 46) X d_Mo_stepsAt_43 (by omega) (by omega) (by decide) rfl (fun c43 => ?_) (fun c43 => ?_)
    · skip
      refine mk_iloadn (nx := 49) X 2 d_Mo_stepsAt_48 rfl rfl ?_
      refine mk_sipush (nx := 52) X d_Mo_stepsAt_49 (by decide) rfl ?_
      refine mk_icmp_eq (tgt := 63) (nx := 55) X d_Mo_stepsAt_52 (by omega) (by omega) (by decide) rfl (fun c52 => ?_) (fun c52 => ?_)
      · skip
        refine mk_iconst (nx := 64) X d_Mo_stepsAt_63 rfl ?_
        exact hret _ _ _ _ d_Mo_stepsAt_64 (by first | (exfalso; omega) | exact ⟨rfl, by unfold gst ob nb; rw [if_pos (by omega)]⟩ | exact ⟨rfl, by unfold gst ob nb; rw [if_neg (by omega), if_pos (by omega)]⟩ | exact ⟨rfl, by unfold gst ob nb; rw [if_neg (by omega), if_neg (by omega), if_pos (by omega)]⟩ | exact ⟨rfl, by unfold gst ob nb; rw [if_neg (by omega), if_neg (by omega), if_neg (by omega)]⟩)
      · skip
        refine mk_iload (nx := 57) X 1 d_Mo_stepsAt_55 rfl rfl ?_
        refine mk_sipush (nx := 60) X d_Mo_stepsAt_57 (by decide) rfl ?_
        refine mk_icmp_ne (tgt := 65) (nx := 63) X d_Mo_stepsAt_60 (by omega) (by omega) (by decide) rfl (fun c60 => ?_) (fun c60 => ?_)
        · skip
          refine mk_iload (nx := 67) X 0 d_Mo_stepsAt_65 rfl rfl ?_
          refine mk_iloadn (nx := 68) X 2 d_Mo_stepsAt_67 rfl rfl ?_
          refine mk_isub (nx := 69) X d_Mo_stepsAt_68 rfl ?_
          refine mk_istore (nx := 71) X [(6, .int (zi ((cpt c v (t : Int)) - (cbs c v (cpl c v (t : Int)) (-1))))), (5, .int (zi (cpt c v (t : Int)))), (4, .int (zi (cbs c v (cpl c v (t : Int)) (1)))), (3, .int (zi (cbs c v (cpl c v (t : Int)) (-1)))), (0, .ref (ad 0)), (1, .int (zi (v : Int))), (2, .int (zi (t : Int)))] d_Mo_stepsAt_69 (by decide) rfl rfl ?_
          refine mk_iload (nx := 73) X 2 d_Mo_stepsAt_71 rfl rfl ?_
          refine mk_iload (nx := 75) X 1 d_Mo_stepsAt_73 rfl rfl ?_
          refine mk_isub (nx := 76) X d_Mo_stepsAt_75 rfl ?_
          refine mk_istore (nx := 78) X [(7, .int (zi ((cbs c v (cpl c v (t : Int)) (1)) - (cpt c v (t : Int))))), (6, .int (zi ((cpt c v (t : Int)) - (cbs c v (cpl c v (t : Int)) (-1))))), (5, .int (zi (cpt c v (t : Int)))), (4, .int (zi (cbs c v (cpl c v (t : Int)) (1)))), (3, .int (zi (cbs c v (cpl c v (t : Int)) (-1)))), (0, .ref (ad 0)), (1, .int (zi (v : Int))), (2, .int (zi (t : Int)))] d_Mo_stepsAt_76 (by decide) rfl rfl ?_
          refine mk_iload (nx := 80) X 1 d_Mo_stepsAt_78 rfl rfl ?_
          refine mk_iconst (nx := 81) X d_Mo_stepsAt_80 rfl ?_
          refine mk_icmp_lt (tgt := 102) (nx := 84) X d_Mo_stepsAt_81 (by omega) (by omega) (by decide) rfl (fun c81 => ?_) (fun c81 => ?_)
          · skip
            refine mk_iload (nx := 104) X 1 d_Mo_stepsAt_102 rfl rfl ?_
            refine mk_iconst (nx := 105) X d_Mo_stepsAt_104 rfl ?_
            refine mk_icmp_gt (tgt := 132) (nx := 108) X d_Mo_stepsAt_105 (by omega) (by omega) (by decide) rfl (fun c105 => ?_) (fun c105 => ?_)
            · skip
              refine mk_iconst (nx := 133) X d_Mo_stepsAt_132 rfl ?_
              exact hret _ _ _ _ d_Mo_stepsAt_133 (by first | (exfalso; omega) | exact ⟨rfl, by unfold gst ob nb; rw [if_pos (by omega)]⟩ | exact ⟨rfl, by unfold gst ob nb; rw [if_neg (by omega), if_pos (by omega)]⟩ | exact ⟨rfl, by unfold gst ob nb; rw [if_neg (by omega), if_neg (by omega), if_pos (by omega)]⟩ | exact ⟨rfl, by unfold gst ob nb; rw [if_neg (by omega), if_neg (by omega), if_neg (by omega)]⟩)
            · skip
              refine mk_iload (nx := 110) X 1 d_Mo_stepsAt_108 rfl rfl ?_
              refine mk_bipush (nx := 112) X d_Mo_stepsAt_110 (by decide) rfl ?_
              refine mk_icmp_lt (tgt := 132) (nx := 115) X d_Mo_stepsAt_112 (by omega) (by omega) (by decide) rfl (fun c112 => ?_) (fun c112 => ?_)
              · skip
                refine mk_iconst (nx := 133) X d_Mo_stepsAt_132 rfl ?_
                exact hret _ _ _ _ d_Mo_stepsAt_133 (by first | (exfalso; omega) | exact ⟨rfl, by unfold gst ob nb; rw [if_pos (by omega)]⟩ | exact ⟨rfl, by unfold gst ob nb; rw [if_neg (by omega), if_pos (by omega)]⟩ | exact ⟨rfl, by unfold gst ob nb; rw [if_neg (by omega), if_neg (by omega), if_pos (by omega)]⟩ | exact ⟨rfl, by unfold gst ob nb; rw [if_neg (by omega), if_neg (by omega), if_neg (by omega)]⟩)
              · skip
                refine mk_iload (nx := 117) X 0 d_Mo_stepsAt_115 rfl rfl ?_
                refine mk_iconst (nx := 118) X d_Mo_stepsAt_117 rfl ?_
                refine mk_icmp_gt (tgt := 132) (nx := 121) X d_Mo_stepsAt_118 (by omega) (by omega) (by decide) rfl (fun c118 => ?_) (fun c118 => ?_)
                · skip
                  refine mk_iconst (nx := 133) X d_Mo_stepsAt_132 rfl ?_
                  exact hret _ _ _ _ d_Mo_stepsAt_133 (by first | (exfalso; omega) | exact ⟨rfl, by unfold gst ob nb; rw [if_pos (by omega)]⟩ | exact ⟨rfl, by unfold gst ob nb; rw [if_neg (by omega), if_pos (by omega)]⟩ | exact ⟨rfl, by unfold gst ob nb; rw [if_neg (by omega), if_neg (by omega), if_pos (by omega)]⟩ | exact ⟨rfl, by unfold gst ob nb; rw [if_neg (by omega), if_neg (by omega), if_neg (by omega)]⟩)
                · skip
                  refine mk_iload (nx := 123) X 0 d_Mo_stepsAt_121 rfl rfl ?_
                  refine mk_bipush (nx := 125) X d_Mo_stepsAt_123 (by decide) rfl ?_
                  refine mk_icmp_lt (tgt := 132) (nx := 128) X d_Mo_stepsAt_125 (by omega) (by omega) (by decide) rfl (fun c125 => ?_) (fun c125 => ?_)
                  · skip
                    refine mk_iconst (nx := 133) X d_Mo_stepsAt_132 rfl ?_
                    exact hret _ _ _ _ d_Mo_stepsAt_133 (by first | (exfalso; omega) | exact ⟨rfl, by unfold gst ob nb; rw [if_pos (by omega)]⟩ | exact ⟨rfl, by unfold gst ob nb; rw [if_neg (by omega), if_pos (by omega)]⟩ | exact ⟨rfl, by unfold gst ob nb; rw [if_neg (by omega), if_neg (by omega), if_pos (by omega)]⟩ | exact ⟨rfl, by unfold gst ob nb; rw [if_neg (by omega), if_neg (by omega), if_neg (by omega)]⟩)
                  · skip
                    refine mk_iconst (nx := 129) X d_Mo_stepsAt_128 rfl ?_
                    refine mk_goto (tgt := 133) X d_Mo_stepsAt_129 (by decide) ?_
                    exact hret _ _ _ _ d_Mo_stepsAt_133 (by first | (exfalso; omega) | exact ⟨rfl, by unfold gst ob nb; rw [if_pos (by omega)]⟩ | exact ⟨rfl, by unfold gst ob nb; rw [if_neg (by omega), if_pos (by omega)]⟩ | exact ⟨rfl, by unfold gst ob nb; rw [if_neg (by omega), if_neg (by omega), if_pos (by omega)]⟩ | exact ⟨rfl, by unfold gst ob nb; rw [if_neg (by omega), if_neg (by omega), if_neg (by omega)]⟩)
          · skip
            refine mk_iload (nx := 86) X 1 d_Mo_stepsAt_84 rfl rfl ?_
            refine mk_iconst (nx := 87) X d_Mo_stepsAt_86 rfl ?_
            refine mk_icmp_gt (tgt := 102) (nx := 90) X d_Mo_stepsAt_87 (by omega) (by omega) (by decide) rfl (fun c87 => ?_) (fun c87 => ?_)
            · skip
              refine mk_iload (nx := 104) X 1 d_Mo_stepsAt_102 rfl rfl ?_
              refine mk_iconst (nx := 105) X d_Mo_stepsAt_104 rfl ?_
              refine mk_icmp_gt (tgt := 132) (nx := 108) X d_Mo_stepsAt_105 (by omega) (by omega) (by decide) rfl (fun c105 => ?_) (fun c105 => ?_)
              · skip
                refine mk_iconst (nx := 133) X d_Mo_stepsAt_132 rfl ?_
                exact hret _ _ _ _ d_Mo_stepsAt_133 (by first | (exfalso; omega) | exact ⟨rfl, by unfold gst ob nb; rw [if_pos (by omega)]⟩ | exact ⟨rfl, by unfold gst ob nb; rw [if_neg (by omega), if_pos (by omega)]⟩ | exact ⟨rfl, by unfold gst ob nb; rw [if_neg (by omega), if_neg (by omega), if_pos (by omega)]⟩ | exact ⟨rfl, by unfold gst ob nb; rw [if_neg (by omega), if_neg (by omega), if_neg (by omega)]⟩)
              · skip
                refine mk_iload (nx := 110) X 1 d_Mo_stepsAt_108 rfl rfl ?_
                refine mk_bipush (nx := 112) X d_Mo_stepsAt_110 (by decide) rfl ?_
                refine mk_icmp_lt (tgt := 132) (nx := 115) X d_Mo_stepsAt_112 (by omega) (by omega) (by decide) rfl (fun c112 => ?_) (fun c112 => ?_)
                · skip
                  refine mk_iconst (nx := 133) X d_Mo_stepsAt_132 rfl ?_
                  exact hret _ _ _ _ d_Mo_stepsAt_133 (by first | (exfalso; omega) | exact ⟨rfl, by unfold gst ob nb; rw [if_pos (by omega)]⟩ | exact ⟨rfl, by unfold gst ob nb; rw [if_neg (by omega), if_pos (by omega)]⟩ | exact ⟨rfl, by unfold gst ob nb; rw [if_neg (by omega), if_neg (by omega), if_pos (by omega)]⟩ | exact ⟨rfl, by unfold gst ob nb; rw [if_neg (by omega), if_neg (by omega), if_neg (by omega)]⟩)
                · skip
                  refine mk_iload (nx := 117) X 0 d_Mo_stepsAt_115 rfl rfl ?_
                  refine mk_iconst (nx := 118) X d_Mo_stepsAt_117 rfl ?_
                  refine mk_icmp_gt (tgt := 132) (nx := 121) X d_Mo_stepsAt_118 (by omega) (by omega) (by decide) rfl (fun c118 => ?_) (fun c118 => ?_)
                  · skip
                    refine mk_iconst (nx := 133) X d_Mo_stepsAt_132 rfl ?_
                    exact hret _ _ _ _ d_Mo_stepsAt_133 (by first | (exfalso; omega) | exact ⟨rfl, by unfold gst ob nb; rw [if_pos (by omega)]⟩ | exact ⟨rfl, by unfold gst ob nb; rw [if_neg (by omega), if_pos (by omega)]⟩ | exact ⟨rfl, by unfold gst ob nb; rw [if_neg (by omega), if_neg (by omega), if_pos (by omega)]⟩ | exact ⟨rfl, by unfold gst ob nb; rw [if_neg (by omega), if_neg (by omega), if_neg (by omega)]⟩)
                  · skip
                    refine mk_iload (nx := 123) X 0 d_Mo_stepsAt_121 rfl rfl ?_
                    refine mk_bipush (nx := 125) X d_Mo_stepsAt_123 (by decide) rfl ?_
                    refine mk_icmp_lt (tgt := 132) (nx := 128) X d_Mo_stepsAt_125 (by omega) (by omega) (by decide) rfl (fun c125 => ?_) (fun c125 => ?_)
                    · skip
                      refine mk_iconst (nx := 133) X d_Mo_stepsAt_132 rfl ?_
                      exact hret _ _ _ _ d_Mo_stepsAt_133 (by first | (exfalso; omega) | exact ⟨rfl, by unfold gst ob nb; rw [if_pos (by omega)]⟩ | exact ⟨rfl, by unfold gst ob nb; rw [if_neg (by omega), if_pos (by omega)]⟩ | exact ⟨rfl, by unfold gst ob nb; rw [if_neg (by omega), if_neg (by omega), if_pos (by omega)]⟩ | exact ⟨rfl, by unfold gst ob nb; rw [if_neg (by omega), if_neg (by omega), if_neg (by omega)]⟩)
                    · skip
                      refine mk_iconst (nx := 129) X d_Mo_stepsAt_128 rfl ?_
                      refine mk_goto (tgt := 133) X d_Mo_stepsAt_129 (by decide) ?_
                      exact hret _ _ _ _ d_Mo_stepsAt_133 (by first | (exfalso; omega) | exact ⟨rfl, by unfold gst ob nb; rw [if_pos (by omega)]⟩ | exact ⟨rfl, by unfold gst ob nb; rw [if_neg (by omega), if_pos (by omega)]⟩ | exact ⟨rfl, by unfold gst ob nb; rw [if_neg (by omega), if_neg (by omega), if_pos (by omega)]⟩ | exact ⟨rfl, by unfold gst ob nb; rw [if_neg (by omega), if_neg (by omega), if_neg (by omega)]⟩)
            · skip
              refine mk_iload (nx := 92) X 0 d_Mo_stepsAt_90 rfl rfl ?_
              refine mk_iconst (nx := 93) X d_Mo_stepsAt_92 rfl ?_
              refine mk_icmp_lt (tgt := 102) (nx := 96) X d_Mo_stepsAt_93 (by omega) (by omega) (by decide) rfl (fun c93 => ?_) (fun c93 => ?_)
              · skip
                refine mk_iload (nx := 104) X 1 d_Mo_stepsAt_102 rfl rfl ?_
                refine mk_iconst (nx := 105) X d_Mo_stepsAt_104 rfl ?_
                refine mk_icmp_gt (tgt := 132) (nx := 108) X d_Mo_stepsAt_105 (by omega) (by omega) (by decide) rfl (fun c105 => ?_) (fun c105 => ?_)
                · skip
                  refine mk_iconst (nx := 133) X d_Mo_stepsAt_132 rfl ?_
                  exact hret _ _ _ _ d_Mo_stepsAt_133 (by first | (exfalso; omega) | exact ⟨rfl, by unfold gst ob nb; rw [if_pos (by omega)]⟩ | exact ⟨rfl, by unfold gst ob nb; rw [if_neg (by omega), if_pos (by omega)]⟩ | exact ⟨rfl, by unfold gst ob nb; rw [if_neg (by omega), if_neg (by omega), if_pos (by omega)]⟩ | exact ⟨rfl, by unfold gst ob nb; rw [if_neg (by omega), if_neg (by omega), if_neg (by omega)]⟩)
                · skip
                  refine mk_iload (nx := 110) X 1 d_Mo_stepsAt_108 rfl rfl ?_
                  refine mk_bipush (nx := 112) X d_Mo_stepsAt_110 (by decide) rfl ?_
                  refine mk_icmp_lt (tgt := 132) (nx := 115) X d_Mo_stepsAt_112 (by omega) (by omega) (by decide) rfl (fun c112 => ?_) (fun c112 => ?_)
                  · skip
                    refine mk_iconst (nx := 133) X d_Mo_stepsAt_132 rfl ?_
                    exact hret _ _ _ _ d_Mo_stepsAt_133 (by first | (exfalso; omega) | exact ⟨rfl, by unfold gst ob nb; rw [if_pos (by omega)]⟩ | exact ⟨rfl, by unfold gst ob nb; rw [if_neg (by omega), if_pos (by omega)]⟩ | exact ⟨rfl, by unfold gst ob nb; rw [if_neg (by omega), if_neg (by omega), if_pos (by omega)]⟩ | exact ⟨rfl, by unfold gst ob nb; rw [if_neg (by omega), if_neg (by omega), if_neg (by omega)]⟩)
                  · skip
                    refine mk_iload (nx := 117) X 0 d_Mo_stepsAt_115 rfl rfl ?_
                    refine mk_iconst (nx := 118) X d_Mo_stepsAt_117 rfl ?_
                    refine mk_icmp_gt (tgt := 132) (nx := 121) X d_Mo_stepsAt_118 (by omega) (by omega) (by decide) rfl (fun c118 => ?_) (fun c118 => ?_)
                    · skip
                      refine mk_iconst (nx := 133) X d_Mo_stepsAt_132 rfl ?_
                      exact hret _ _ _ _ d_Mo_stepsAt_133 (by first | (exfalso; omega) | exact ⟨rfl, by unfold gst ob nb; rw [if_pos (by omega)]⟩ | exact ⟨rfl, by unfold gst ob nb; rw [if_neg (by omega), if_pos (by omega)]⟩ | exact ⟨rfl, by unfold gst ob nb; rw [if_neg (by omega), if_neg (by omega), if_pos (by omega)]⟩ | exact ⟨rfl, by unfold gst ob nb; rw [if_neg (by omega), if_neg (by omega), if_neg (by omega)]⟩)
                    · skip
                      refine mk_iload (nx := 123) X 0 d_Mo_stepsAt_121 rfl rfl ?_
                      refine mk_bipush (nx := 125) X d_Mo_stepsAt_123 (by decide) rfl ?_
                      refine mk_icmp_lt (tgt := 132) (nx := 128) X d_Mo_stepsAt_125 (by omega) (by omega) (by decide) rfl (fun c125 => ?_) (fun c125 => ?_)
                      · skip
                        refine mk_iconst (nx := 133) X d_Mo_stepsAt_132 rfl ?_
                        exact hret _ _ _ _ d_Mo_stepsAt_133 (by first | (exfalso; omega) | exact ⟨rfl, by unfold gst ob nb; rw [if_pos (by omega)]⟩ | exact ⟨rfl, by unfold gst ob nb; rw [if_neg (by omega), if_pos (by omega)]⟩ | exact ⟨rfl, by unfold gst ob nb; rw [if_neg (by omega), if_neg (by omega), if_pos (by omega)]⟩ | exact ⟨rfl, by unfold gst ob nb; rw [if_neg (by omega), if_neg (by omega), if_neg (by omega)]⟩)
                      · skip
                        refine mk_iconst (nx := 129) X d_Mo_stepsAt_128 rfl ?_
                        refine mk_goto (tgt := 133) X d_Mo_stepsAt_129 (by decide) ?_
                        exact hret _ _ _ _ d_Mo_stepsAt_133 (by first | (exfalso; omega) | exact ⟨rfl, by unfold gst ob nb; rw [if_pos (by omega)]⟩ | exact ⟨rfl, by unfold gst ob nb; rw [if_neg (by omega), if_pos (by omega)]⟩ | exact ⟨rfl, by unfold gst ob nb; rw [if_neg (by omega), if_neg (by omega), if_pos (by omega)]⟩ | exact ⟨rfl, by unfold gst ob nb; rw [if_neg (by omega), if_neg (by omega), if_neg (by omega)]⟩)
              · skip
                refine mk_iload (nx := 98) X 0 d_Mo_stepsAt_96 rfl rfl ?_
                refine mk_iconst (nx := 99) X d_Mo_stepsAt_98 rfl ?_
                refine mk_icmp_le (tgt := 128) (nx := 102) X d_Mo_stepsAt_99 (by omega) (by omega) (by decide) rfl (fun c99 => ?_) (fun c99 => ?_)
                · skip
                  refine mk_iconst (nx := 129) X d_Mo_stepsAt_128 rfl ?_
                  refine mk_goto (tgt := 133) X d_Mo_stepsAt_129 (by decide) ?_
                  exact hret _ _ _ _ d_Mo_stepsAt_133 (by first | (exfalso; omega) | exact ⟨rfl, by unfold gst ob nb; rw [if_pos (by omega)]⟩ | exact ⟨rfl, by unfold gst ob nb; rw [if_neg (by omega), if_pos (by omega)]⟩ | exact ⟨rfl, by unfold gst ob nb; rw [if_neg (by omega), if_neg (by omega), if_pos (by omega)]⟩ | exact ⟨rfl, by unfold gst ob nb; rw [if_neg (by omega), if_neg (by omega), if_neg (by omega)]⟩)
                · skip
                  refine mk_iload (nx := 104) X 1 d_Mo_stepsAt_102 rfl rfl ?_
                  refine mk_iconst (nx := 105) X d_Mo_stepsAt_104 rfl ?_
                  refine mk_icmp_gt (tgt := 132) (nx := 108) X d_Mo_stepsAt_105 (by omega) (by omega) (by decide) rfl (fun c105 => ?_) (fun c105 => ?_)
                  · skip
                    refine mk_iconst (nx := 133) X d_Mo_stepsAt_132 rfl ?_
                    exact hret _ _ _ _ d_Mo_stepsAt_133 (by first | (exfalso; omega) | exact ⟨rfl, by unfold gst ob nb; rw [if_pos (by omega)]⟩ | exact ⟨rfl, by unfold gst ob nb; rw [if_neg (by omega), if_pos (by omega)]⟩ | exact ⟨rfl, by unfold gst ob nb; rw [if_neg (by omega), if_neg (by omega), if_pos (by omega)]⟩ | exact ⟨rfl, by unfold gst ob nb; rw [if_neg (by omega), if_neg (by omega), if_neg (by omega)]⟩)
                  · skip
                    refine mk_iload (nx := 110) X 1 d_Mo_stepsAt_108 rfl rfl ?_
                    refine mk_bipush (nx := 112) X d_Mo_stepsAt_110 (by decide) rfl ?_
                    refine mk_icmp_lt (tgt := 132) (nx := 115) X d_Mo_stepsAt_112 (by omega) (by omega) (by decide) rfl (fun c112 => ?_) (fun c112 => ?_)
                    · skip
                      refine mk_iconst (nx := 133) X d_Mo_stepsAt_132 rfl ?_
                      exact hret _ _ _ _ d_Mo_stepsAt_133 (by first | (exfalso; omega) | exact ⟨rfl, by unfold gst ob nb; rw [if_pos (by omega)]⟩ | exact ⟨rfl, by unfold gst ob nb; rw [if_neg (by omega), if_pos (by omega)]⟩ | exact ⟨rfl, by unfold gst ob nb; rw [if_neg (by omega), if_neg (by omega), if_pos (by omega)]⟩ | exact ⟨rfl, by unfold gst ob nb; rw [if_neg (by omega), if_neg (by omega), if_neg (by omega)]⟩)
                    · skip
                      refine mk_iload (nx := 117) X 0 d_Mo_stepsAt_115 rfl rfl ?_
                      refine mk_iconst (nx := 118) X d_Mo_stepsAt_117 rfl ?_
                      refine mk_icmp_gt (tgt := 132) (nx := 121) X d_Mo_stepsAt_118 (by omega) (by omega) (by decide) rfl (fun c118 => ?_) (fun c118 => ?_)
                      · skip
                        refine mk_iconst (nx := 133) X d_Mo_stepsAt_132 rfl ?_
                        exact hret _ _ _ _ d_Mo_stepsAt_133 (by first | (exfalso; omega) | exact ⟨rfl, by unfold gst ob nb; rw [if_pos (by omega)]⟩ | exact ⟨rfl, by unfold gst ob nb; rw [if_neg (by omega), if_pos (by omega)]⟩ | exact ⟨rfl, by unfold gst ob nb; rw [if_neg (by omega), if_neg (by omega), if_pos (by omega)]⟩ | exact ⟨rfl, by unfold gst ob nb; rw [if_neg (by omega), if_neg (by omega), if_neg (by omega)]⟩)
                      · skip
                        refine mk_iload (nx := 123) X 0 d_Mo_stepsAt_121 rfl rfl ?_
                        refine mk_bipush (nx := 125) X d_Mo_stepsAt_123 (by decide) rfl ?_
                        refine mk_icmp_lt (tgt := 132) (nx := 128) X d_Mo_stepsAt_125 (by omega) (by omega) (by decide) rfl (fun c125 => ?_) (fun c125 => ?_)
                        · skip
                          refine mk_iconst (nx := 133) X d_Mo_stepsAt_132 rfl ?_
                          exact hret _ _ _ _ d_Mo_stepsAt_133 (by first | (exfalso; omega) | exact ⟨rfl, by unfold gst ob nb; rw [if_pos (by omega)]⟩ | exact ⟨rfl, by unfold gst ob nb; rw [if_neg (by omega), if_pos (by omega)]⟩ | exact ⟨rfl, by unfold gst ob nb; rw [if_neg (by omega), if_neg (by omega), if_pos (by omega)]⟩ | exact ⟨rfl, by unfold gst ob nb; rw [if_neg (by omega), if_neg (by omega), if_neg (by omega)]⟩)
                        · skip
                          refine mk_iconst (nx := 129) X d_Mo_stepsAt_128 rfl ?_
                          refine mk_goto (tgt := 133) X d_Mo_stepsAt_129 (by decide) ?_
                          exact hret _ _ _ _ d_Mo_stepsAt_133 (by first | (exfalso; omega) | exact ⟨rfl, by unfold gst ob nb; rw [if_pos (by omega)]⟩ | exact ⟨rfl, by unfold gst ob nb; rw [if_neg (by omega), if_pos (by omega)]⟩ | exact ⟨rfl, by unfold gst ob nb; rw [if_neg (by omega), if_neg (by omega), if_pos (by omega)]⟩ | exact ⟨rfl, by unfold gst ob nb; rw [if_neg (by omega), if_neg (by omega), if_neg (by omega)]⟩)
        · skip
          refine mk_iconst (nx := 64) X d_Mo_stepsAt_63 rfl ?_
          exact hret _ _ _ _ d_Mo_stepsAt_64 (by first | (exfalso; omega) | exact ⟨rfl, by unfold gst ob nb; rw [if_pos (by omega)]⟩ | exact ⟨rfl, by unfold gst ob nb; rw [if_neg (by omega), if_pos (by omega)]⟩ | exact ⟨rfl, by unfold gst ob nb; rw [if_neg (by omega), if_neg (by omega), if_pos (by omega)]⟩ | exact ⟨rfl, by unfold gst ob nb; rw [if_neg (by omega), if_neg (by omega), if_neg (by omega)]⟩)
    · skip
      refine mk_iconst (nx := 47) X d_Mo_stepsAt_46 rfl ?_
      exact hret _ _ _ _ d_Mo_stepsAt_47 (by first | (exfalso; omega) | exact ⟨rfl, by unfold gst ob nb; rw [if_pos (by omega)]⟩ | exact ⟨rfl, by unfold gst ob nb; rw [if_neg (by omega), if_pos (by omega)]⟩ | exact ⟨rfl, by unfold gst ob nb; rw [if_neg (by omega), if_neg (by omega), if_pos (by omega)]⟩ | exact ⟨rfl, by unfold gst ob nb; rw [if_neg (by omega), if_neg (by omega), if_neg (by omega)]⟩)

-- CanonMakerModel.breaksAlone(III)Z
theorem d_Mo_breaksAlone_0 : decode prog_9_method_26_code 0 = .ok (.aload_n 0, 1) := by decide +kernel
theorem d_Mo_breaksAlone_1 : decode prog_9_method_26_code 1 = .ok (.getfield 42, 3) := by decide +kernel
theorem d_Mo_breaksAlone_4 : decode prog_9_method_26_code 4 = .ok (.sipush 1300, 3) := by decide +kernel
theorem d_Mo_breaksAlone_7 : decode prog_9_method_26_code 7 = .ok (.iload_n 2, 1) := by decide +kernel
theorem d_Mo_breaksAlone_8 : decode prog_9_method_26_code 8 = .ok (.imul, 1) := by decide +kernel
theorem d_Mo_breaksAlone_9 : decode prog_9_method_26_code 9 = .ok (.iload_n 3, 1) := by decide +kernel
theorem d_Mo_breaksAlone_10 : decode prog_9_method_26_code 10 = .ok (.iadd, 1) := by decide +kernel
theorem d_Mo_breaksAlone_11 : decode prog_9_method_26_code 11 = .ok (.iaload, 1) := by decide +kernel
theorem d_Mo_breaksAlone_12 : decode prog_9_method_26_code 12 = .ok (.istore 4, 2) := by decide +kernel
theorem d_Mo_breaksAlone_14 : decode prog_9_method_26_code 14 = .ok (.aload_n 0, 1) := by decide +kernel
theorem d_Mo_breaksAlone_15 : decode prog_9_method_26_code 15 = .ok (.iload_n 2, 1) := by decide +kernel
theorem d_Mo_breaksAlone_16 : decode prog_9_method_26_code 16 = .ok (.iload_n 3, 1) := by decide +kernel
theorem d_Mo_breaksAlone_17 : decode prog_9_method_26_code 17 = .ok (.invokevirtual 103, 3) := by decide +kernel
theorem d_Mo_breaksAlone_20 : decode prog_9_method_26_code 20 = .ok (.ifCond .eq 11, 3) := by decide +kernel
theorem d_Mo_breaksAlone_23 : decode prog_9_method_26_code 23 = .ok (.iload 4, 2) := by decide +kernel
theorem d_Mo_breaksAlone_25 : decode prog_9_method_26_code 25 = .ok (.sipush 1001, 3) := by decide +kernel
theorem d_Mo_breaksAlone_28 : decode prog_9_method_26_code 28 = .ok (.if_icmp .ne 5, 3) := by decide +kernel
theorem d_Mo_breaksAlone_31 : decode prog_9_method_26_code 31 = .ok (.iconst 0, 1) := by decide +kernel
theorem d_Mo_breaksAlone_32 : decode prog_9_method_26_code 32 = .ok (.ireturn, 1) := by decide +kernel
theorem d_Mo_breaksAlone_33 : decode prog_9_method_26_code 33 = .ok (.iload_n 1, 1) := by decide +kernel
theorem d_Mo_breaksAlone_34 : decode prog_9_method_26_code 34 = .ok (.iconst 1, 1) := by decide +kernel
theorem d_Mo_breaksAlone_35 : decode prog_9_method_26_code 35 = .ok (.if_icmp .ne 27, 3) := by decide +kernel
theorem d_Mo_breaksAlone_38 : decode prog_9_method_26_code 38 = .ok (.iload 4, 2) := by decide +kernel
theorem d_Mo_breaksAlone_40 : decode prog_9_method_26_code 40 = .ok (.aload_n 0, 1) := by decide +kernel
theorem d_Mo_breaksAlone_41 : decode prog_9_method_26_code 41 = .ok (.getfield 69, 3) := by decide +kernel
theorem d_Mo_breaksAlone_44 : decode prog_9_method_26_code 44 = .ok (.if_icmp .lt 12, 3) := by decide +kernel
theorem d_Mo_breaksAlone_47 : decode prog_9_method_26_code 47 = .ok (.iload 4, 2) := by decide +kernel
theorem d_Mo_breaksAlone_49 : decode prog_9_method_26_code 49 = .ok (.aload_n 0, 1) := by decide +kernel
theorem d_Mo_breaksAlone_50 : decode prog_9_method_26_code 50 = .ok (.getfield 32, 3) := by decide +kernel
theorem d_Mo_breaksAlone_53 : decode prog_9_method_26_code 53 = .ok (.if_icmp .le 7, 3) := by decide +kernel
theorem d_Mo_breaksAlone_56 : decode prog_9_method_26_code 56 = .ok (.iconst 1, 1) := by decide +kernel
theorem d_Mo_breaksAlone_57 : decode prog_9_method_26_code 57 = .ok (.goto 4, 3) := by decide +kernel
theorem d_Mo_breaksAlone_60 : decode prog_9_method_26_code 60 = .ok (.iconst 0, 1) := by decide +kernel
theorem d_Mo_breaksAlone_61 : decode prog_9_method_26_code 61 = .ok (.ireturn, 1) := by decide +kernel
theorem d_Mo_breaksAlone_62 : decode prog_9_method_26_code 62 = .ok (.iload_n 1, 1) := by decide +kernel
theorem d_Mo_breaksAlone_63 : decode prog_9_method_26_code 63 = .ok (.iconst 2, 1) := by decide +kernel
theorem d_Mo_breaksAlone_64 : decode prog_9_method_26_code 64 = .ok (.if_icmp .ne 30, 3) := by decide +kernel
theorem d_Mo_breaksAlone_67 : decode prog_9_method_26_code 67 = .ok (.aload_n 0, 1) := by decide +kernel
theorem d_Mo_breaksAlone_68 : decode prog_9_method_26_code 68 = .ok (.getfield 36, 3) := by decide +kernel
theorem d_Mo_breaksAlone_71 : decode prog_9_method_26_code 71 = .ok (.iload 4, 2) := by decide +kernel
theorem d_Mo_breaksAlone_73 : decode prog_9_method_26_code 73 = .ok (.bipush 12, 2) := by decide +kernel
theorem d_Mo_breaksAlone_75 : decode prog_9_method_26_code 75 = .ok (.irem, 1) := by decide +kernel
theorem d_Mo_breaksAlone_76 : decode prog_9_method_26_code 76 = .ok (.bipush 12, 2) := by decide +kernel
theorem d_Mo_breaksAlone_78 : decode prog_9_method_26_code 78 = .ok (.iadd, 1) := by decide +kernel
theorem d_Mo_breaksAlone_79 : decode prog_9_method_26_code 79 = .ok (.bipush 12, 2) := by decide +kernel
theorem d_Mo_breaksAlone_81 : decode prog_9_method_26_code 81 = .ok (.irem, 1) := by decide +kernel
theorem d_Mo_breaksAlone_82 : decode prog_9_method_26_code 82 = .ok (.ishr, 1) := by decide +kernel
theorem d_Mo_breaksAlone_83 : decode prog_9_method_26_code 83 = .ok (.iconst 1, 1) := by decide +kernel
theorem d_Mo_breaksAlone_84 : decode prog_9_method_26_code 84 = .ok (.iand, 1) := by decide +kernel
theorem d_Mo_breaksAlone_85 : decode prog_9_method_26_code 85 = .ok (.ifCond .ne 7, 3) := by decide +kernel
theorem d_Mo_breaksAlone_88 : decode prog_9_method_26_code 88 = .ok (.iconst 1, 1) := by decide +kernel
theorem d_Mo_breaksAlone_89 : decode prog_9_method_26_code 89 = .ok (.goto 4, 3) := by decide +kernel
theorem d_Mo_breaksAlone_92 : decode prog_9_method_26_code 92 = .ok (.iconst 0, 1) := by decide +kernel
theorem d_Mo_breaksAlone_93 : decode prog_9_method_26_code 93 = .ok (.ireturn, 1) := by decide +kernel
theorem d_Mo_breaksAlone_94 : decode prog_9_method_26_code 94 = .ok (.aload_n 0, 1) := by decide +kernel
theorem d_Mo_breaksAlone_95 : decode prog_9_method_26_code 95 = .ok (.iload_n 2, 1) := by decide +kernel
theorem d_Mo_breaksAlone_96 : decode prog_9_method_26_code 96 = .ok (.iload_n 3, 1) := by decide +kernel
theorem d_Mo_breaksAlone_97 : decode prog_9_method_26_code 97 = .ok (.iconst (-1), 1) := by decide +kernel
theorem d_Mo_breaksAlone_98 : decode prog_9_method_26_code 98 = .ok (.invokevirtual 107, 3) := by decide +kernel
theorem d_Mo_breaksAlone_101 : decode prog_9_method_26_code 101 = .ok (.istore 5, 2) := by decide +kernel
theorem d_Mo_breaksAlone_103 : decode prog_9_method_26_code 103 = .ok (.iload 5, 2) := by decide +kernel
theorem d_Mo_breaksAlone_105 : decode prog_9_method_26_code 105 = .ok (.sipush 1000, 3) := by decide +kernel
theorem d_Mo_breaksAlone_108 : decode prog_9_method_26_code 108 = .ok (.if_icmp .lt 5, 3) := by decide +kernel
theorem d_Mo_breaksAlone_111 : decode prog_9_method_26_code 111 = .ok (.iconst 0, 1) := by decide +kernel
theorem d_Mo_breaksAlone_112 : decode prog_9_method_26_code 112 = .ok (.ireturn, 1) := by decide +kernel
theorem d_Mo_breaksAlone_113 : decode prog_9_method_26_code 113 = .ok (.iload 4, 2) := by decide +kernel
theorem d_Mo_breaksAlone_115 : decode prog_9_method_26_code 115 = .ok (.iload 5, 2) := by decide +kernel
theorem d_Mo_breaksAlone_117 : decode prog_9_method_26_code 117 = .ok (.if_icmp .ge 11, 3) := by decide +kernel
theorem d_Mo_breaksAlone_120 : decode prog_9_method_26_code 120 = .ok (.iload 5, 2) := by decide +kernel
theorem d_Mo_breaksAlone_122 : decode prog_9_method_26_code 122 = .ok (.iload 4, 2) := by decide +kernel
theorem d_Mo_breaksAlone_124 : decode prog_9_method_26_code 124 = .ok (.isub, 1) := by decide +kernel
theorem d_Mo_breaksAlone_125 : decode prog_9_method_26_code 125 = .ok (.goto 8, 3) := by decide +kernel
theorem d_Mo_breaksAlone_128 : decode prog_9_method_26_code 128 = .ok (.iload 4, 2) := by decide +kernel
theorem d_Mo_breaksAlone_130 : decode prog_9_method_26_code 130 = .ok (.iload 5, 2) := by decide +kernel
theorem d_Mo_breaksAlone_132 : decode prog_9_method_26_code 132 = .ok (.isub, 1) := by decide +kernel
theorem d_Mo_breaksAlone_133 : decode prog_9_method_26_code 133 = .ok (.istore 6, 2) := by decide +kernel
theorem d_Mo_breaksAlone_135 : decode prog_9_method_26_code 135 = .ok (.iload 6, 2) := by decide +kernel
theorem d_Mo_breaksAlone_137 : decode prog_9_method_26_code 137 = .ok (.bipush 12, 2) := by decide +kernel
theorem d_Mo_breaksAlone_139 : decode prog_9_method_26_code 139 = .ok (.if_icmp .gt 24, 3) := by decide +kernel
theorem d_Mo_breaksAlone_142 : decode prog_9_method_26_code 142 = .ok (.iload 6, 2) := by decide +kernel
theorem d_Mo_breaksAlone_144 : decode prog_9_method_26_code 144 = .ok (.bipush 6, 2) := by decide +kernel
theorem d_Mo_breaksAlone_146 : decode prog_9_method_26_code 146 = .ok (.if_icmp .eq 17, 3) := by decide +kernel
theorem d_Mo_breaksAlone_149 : decode prog_9_method_26_code 149 = .ok (.iload 6, 2) := by decide +kernel
theorem d_Mo_breaksAlone_151 : decode prog_9_method_26_code 151 = .ok (.bipush 10, 2) := by decide +kernel
theorem d_Mo_breaksAlone_153 : decode prog_9_method_26_code 153 = .ok (.if_icmp .eq 10, 3) := by decide +kernel
theorem d_Mo_breaksAlone_156 : decode prog_9_method_26_code 156 = .ok (.iload 6, 2) := by decide +kernel
theorem d_Mo_breaksAlone_158 : decode prog_9_method_26_code 158 = .ok (.bipush 11, 2) := by decide +kernel
theorem d_Mo_breaksAlone_160 : decode prog_9_method_26_code 160 = .ok (.if_icmp .ne 7, 3) := by decide +kernel
theorem d_Mo_breaksAlone_163 : decode prog_9_method_26_code 163 = .ok (.iconst 1, 1) := by decide +kernel
theorem d_Mo_breaksAlone_164 : decode prog_9_method_26_code 164 = .ok (.goto 4, 3) := by decide +kernel
theorem d_Mo_breaksAlone_167 : decode prog_9_method_26_code 167 = .ok (.iconst 0, 1) := by decide +kernel
theorem d_Mo_breaksAlone_168 : decode prog_9_method_26_code 168 = .ok (.ireturn, 1) := by decide +kernel
abbrev rm_Mo_breaksAlone : Room := { frames := 3, cells := 0, slots := 0, locals := 67 }
set_option maxHeartbeats 4000000 in
set_option maxRecDepth 100000 in
theorem c_Mo_breaksAlone (l : Launch) (D : va_G) (cs : Nat → ClassId) (ad : Nat → Nat) (hi : mo_inj ad) (c I : Wo) (h : moR c I) (hL : MoL c I) (rule : Int) (hru2 : rule = 1 ∨ rule = 2 ∨ rule = 128) (v : Nat) (hv : v < 4) (t : Nat) (ht : (t : Int) < an_end c) : mo_C l D cs ad y_Mo_breaksAlone ws_Mo_breaksAlone rm_Mo_breaksAlone [.ref (ad 0), .int (zi rule), .int (zi (v : Int)), .int (zi (t : Int))] I (mk_pi (fun r J => I = J ∧ ((r = 1 ∧ brA c rule v t) ∨ (r = 0 ∧ ¬ brA c rule v t)))) := by
  refine mk_metz (own := "CanonMakerModel") (Ts := wA) hi (Nat.le_refl _) (by decide) rfl (fun w h => List.mem_cons_of_mem _ h) rfl (Nat.le_of_ble_eq_true rfl) [(0, .ref (ad 0)), (1, .int (zi rule)), (2, .int (zi (v : Int))), (3, .int (zi (t : Int)))] rfl ?_
  intro p_ e_ s_ m_ as_ bl_ me_ co_ Q_ X hret
  obtain ⟨⟨⟨hn, hN⟩, ⟨hlo, hsc, hbt, hru, hrd, hst⟩, ⟨hV, hV0⟩, ⟨hfc, hF⟩⟩, ⟨i12, iN⟩, ⟨⟨i50, i51, i52, i53, i54⟩, i07, i09⟩, iV, ⟨i010, iF⟩⟩ := id h
  have heb := an_end_b h.1.1 h.1.2.1 h.1.2.2.1
  have hcn := cn_e h.1.1
  have hv5 := hV v hv
  have hpb := cpt_b h.1.1 h.1.2.2.1 hv (t : Int)
  have hsb := csk_b c v (t : Int)
  have hlb := cpl_b h.1.1 h.1.2.2.1 hv (t : Int)
  refine mk_aloadn (nx := 1) X 0 d_Mo_breaksAlone_0 rfl rfl ?_
  refine mk_get (nx := 4) (v := .ref (ad 8)) X 0 (by decide) (mh_Mo cs ad _) rfl in_Mo 15 (by decide) wd_610 rfl rfl d_Mo_breaksAlone_1 rfl ?_
  refine mk_sipush (nx := 7) X d_Mo_breaksAlone_4 (by decide) rfl ?_
  refine mk_iloadn (nx := 8) X 2 d_Mo_breaksAlone_7 rfl rfl ?_
  refine mk_imul (nx := 9) X d_Mo_breaksAlone_8 rfl ?_
  refine mk_iloadn (nx := 10) X 3 d_Mo_breaksAlone_9 rfl rfl ?_
  refine mk_iadd (nx := 11) X d_Mo_breaksAlone_10 rfl ?_
  refine mk_iald (nx := 12) (j := ((1300 * v) + t)) X 8 0 (by decide) (mh_pitchAt cs ad _) rfl (by omega) (by omega) (by decide) (by omega) d_Mo_breaksAlone_11 rfl ?_
  refine mk_istore (nx := 14) X [(4, .int (zi (I 8 ((1300 * v) + t)))), (0, .ref (ad 0)), (1, .int (zi rule)), (2, .int (zi (v : Int))), (3, .int (zi (t : Int)))] d_Mo_breaksAlone_12 (by decide) rfl rfl ?_
  refine mk_aloadn (nx := 15) X 1 d_Mo_breaksAlone_14 rfl rfl ?_
  refine mk_iloadn (nx := 16) X 3 d_Mo_breaksAlone_15 rfl rfl ?_
  refine mk_iloadn (nx := 17) X 4 d_Mo_breaksAlone_16 rfl rfl ?_
  refine mk_callVi (nx := 20) (n := 2) (As := [.int (zi (v : Int)), .int (zi (t : Int))]) (rest := []) X 0 (by decide) (mh_Mo cs ad _) rfl (c_Mo_isStruck l D cs ad hi c I h hL v hv t ht) (g_Mo_isStruck wd_776) rfl ⟨rfl, rfl⟩ (by decide +kernel) ⟨by decide, by decide⟩ rfl (Nat.le_of_ble_eq_true rfl) rfl d_Mo_breaksAlone_17 rfl ?_
  intro r17 J1 hJ1
  obtain ⟨rfl, hr17⟩ := hJ1
  refine mk_if_eq (tgt := 31) (nx := 23) X d_Mo_breaksAlone_20 (by omega) (by decide) rfl (fun c20 => ?_) (fun c20 => ?_)
  · skip
    refine mk_iconst (nx := 32) X d_Mo_breaksAlone_31 rfl ?_
    exact hret _ _ _ _ d_Mo_breaksAlone_32 (by omega) (by exact ⟨rfl, Or.inr ⟨rfl, by unfold brA hsk; omega⟩⟩)
  · skip
    have hon : c (3 + v) 0 = 1 := by omega
    have hk1 : csk c v (t : Int) = 1 := by omega
    have hp := (csk_pl hk1).1
    have hcp : 0 < cn c := by omega
    have hob := cbs_b h.1.1 h.1.2.2.1 hv hcp (cpl c v (t : Int)) (-1)
    rw [show I 8 ((1300 * v) + t) = cpt c v (t : Int) from ((hL.2 v hv hon).2 t ht).2.1]
    refine mk_iload (nx := 25) X 0 d_Mo_breaksAlone_23 rfl rfl ?_
    refine mk_sipush (nx := 28) X d_Mo_breaksAlone_25 (by decide) rfl ?_
    refine mk_icmp_ne (tgt := 33) (nx := 31) X d_Mo_breaksAlone_28 (by omega) (by omega) (by decide) rfl (fun c28 => ?_) (fun c28 => ?_)
    · skip
      refine mk_iloadn (nx := 34) X 2 d_Mo_breaksAlone_33 rfl rfl ?_
      refine mk_iconst (nx := 35) X d_Mo_breaksAlone_34 rfl ?_
      refine mk_icmp_ne (tgt := 62) (nx := 38) X d_Mo_breaksAlone_35 (by omega) (by omega) (by decide) rfl (fun c35 => ?_) (fun c35 => ?_)
      · skip
        refine mk_iloadn (nx := 63) X 2 d_Mo_breaksAlone_62 rfl rfl ?_
        refine mk_iconst (nx := 64) X d_Mo_breaksAlone_63 rfl ?_
        refine mk_icmp_ne (tgt := 94) (nx := 67) X d_Mo_breaksAlone_64 (by omega) (by omega) (by decide) rfl (fun c64 => ?_) (fun c64 => ?_)
        · skip
          refine mk_aloadn (nx := 95) X 1 d_Mo_breaksAlone_94 rfl rfl ?_
          refine mk_iloadn (nx := 96) X 3 d_Mo_breaksAlone_95 rfl rfl ?_
          refine mk_iloadn (nx := 97) X 4 d_Mo_breaksAlone_96 rfl rfl ?_
          refine mk_iconst (nx := 98) X d_Mo_breaksAlone_97 rfl ?_
          refine mk_callVi (nx := 101) (n := 3) (As := [.int (zi (v : Int)), .int (zi (t : Int)), .int (zi (-1))]) (rest := []) X 0 (by decide) (mh_Mo cs ad _) rfl (c_Mo_beside l D cs ad hi c I h hL v hv t ht hon hp (-1) (by omega)) (g_Mo_beside wd_780) rfl ⟨rfl, rfl⟩ (by decide +kernel) ⟨by decide, by decide⟩ rfl (Nat.le_of_ble_eq_true rfl) rfl d_Mo_breaksAlone_98 rfl ?_
          intro r98 J2 hJ2
          obtain ⟨rfl, rfl⟩ := hJ2
          refine mk_istore (nx := 103) X [(5, .int (zi (cbs c v (cpl c v (t : Int)) (-1)))), (4, .int (zi (cpt c v (t : Int)))), (0, .ref (ad 0)), (1, .int (zi rule)), (2, .int (zi (v : Int))), (3, .int (zi (t : Int)))] d_Mo_breaksAlone_101 (by decide) rfl rfl ?_
          refine mk_iload (nx := 105) X 0 d_Mo_breaksAlone_103 rfl rfl ?_
          refine mk_sipush (nx := 108) X d_Mo_breaksAlone_105 (by decide) rfl ?_
          refine mk_icmp_lt (tgt := 113) (nx := 111) X d_Mo_breaksAlone_108 (by omega) (by omega) (by decide) rfl (fun c108 => ?_) (fun c108 => ?_)
          · skip
            refine mk_iload (nx := 115) X 1 d_Mo_breaksAlone_113 rfl rfl ?_
            refine mk_iload (nx := 117) X 0 d_Mo_breaksAlone_115 rfl rfl ?_
            refine mk_icmp_ge (tgt := 128) (nx := 120) X d_Mo_breaksAlone_117 (by omega) (by omega) (by decide) rfl (fun c117 => ?_) (fun c117 => ?_)
            · skip
              refine mk_iload (nx := 130) X 1 d_Mo_breaksAlone_128 rfl rfl ?_
              refine mk_iload (nx := 132) X 0 d_Mo_breaksAlone_130 rfl rfl ?_
              refine mk_isub (nx := 133) X d_Mo_breaksAlone_132 rfl ?_
              refine mk_istore (nx := 135) X [(6, .int (zi ((cpt c v (t : Int)) - (cbs c v (cpl c v (t : Int)) (-1))))), (5, .int (zi (cbs c v (cpl c v (t : Int)) (-1)))), (4, .int (zi (cpt c v (t : Int)))), (0, .ref (ad 0)), (1, .int (zi rule)), (2, .int (zi (v : Int))), (3, .int (zi (t : Int)))] d_Mo_breaksAlone_133 (by decide) rfl rfl ?_
              refine mk_iload (nx := 137) X 0 d_Mo_breaksAlone_135 rfl rfl ?_
              refine mk_bipush (nx := 139) X d_Mo_breaksAlone_137 (by decide) rfl ?_
              refine mk_icmp_gt (tgt := 163) (nx := 142) X d_Mo_breaksAlone_139 (by omega) (by omega) (by decide) rfl (fun c139 => ?_) (fun c139 => ?_)
              · skip
                refine mk_iconst (nx := 164) X d_Mo_breaksAlone_163 rfl ?_
                refine mk_goto (tgt := 168) X d_Mo_breaksAlone_164 (by decide) ?_
                exact hret _ _ _ _ d_Mo_breaksAlone_168 (by omega) (by exact ⟨rfl, by unfold brA hsk ob leap; omega⟩)
              · skip
                refine mk_iload (nx := 144) X 0 d_Mo_breaksAlone_142 rfl rfl ?_
                refine mk_bipush (nx := 146) X d_Mo_breaksAlone_144 (by decide) rfl ?_
                refine mk_icmp_eq (tgt := 163) (nx := 149) X d_Mo_breaksAlone_146 (by omega) (by omega) (by decide) rfl (fun c146 => ?_) (fun c146 => ?_)
                · skip
                  refine mk_iconst (nx := 164) X d_Mo_breaksAlone_163 rfl ?_
                  refine mk_goto (tgt := 168) X d_Mo_breaksAlone_164 (by decide) ?_
                  exact hret _ _ _ _ d_Mo_breaksAlone_168 (by omega) (by exact ⟨rfl, by unfold brA hsk ob leap; omega⟩)
                · skip
                  refine mk_iload (nx := 151) X 0 d_Mo_breaksAlone_149 rfl rfl ?_
                  refine mk_bipush (nx := 153) X d_Mo_breaksAlone_151 (by decide) rfl ?_
                  refine mk_icmp_eq (tgt := 163) (nx := 156) X d_Mo_breaksAlone_153 (by omega) (by omega) (by decide) rfl (fun c153 => ?_) (fun c153 => ?_)
                  · skip
                    refine mk_iconst (nx := 164) X d_Mo_breaksAlone_163 rfl ?_
                    refine mk_goto (tgt := 168) X d_Mo_breaksAlone_164 (by decide) ?_
                    exact hret _ _ _ _ d_Mo_breaksAlone_168 (by omega) (by exact ⟨rfl, by unfold brA hsk ob leap; omega⟩)
                  · skip
                    refine mk_iload (nx := 158) X 0 d_Mo_breaksAlone_156 rfl rfl ?_
                    refine mk_bipush (nx := 160) X d_Mo_breaksAlone_158 (by decide) rfl ?_
                    refine mk_icmp_ne (tgt := 167) (nx := 163) X d_Mo_breaksAlone_160 (by omega) (by omega) (by decide) rfl (fun c160 => ?_) (fun c160 => ?_)
                    · skip
                      refine mk_iconst (nx := 168) X d_Mo_breaksAlone_167 rfl ?_
                      exact hret _ _ _ _ d_Mo_breaksAlone_168 (by omega) (by exact ⟨rfl, by unfold brA hsk ob leap; omega⟩)
                    · skip
                      refine mk_iconst (nx := 164) X d_Mo_breaksAlone_163 rfl ?_
                      refine mk_goto (tgt := 168) X d_Mo_breaksAlone_164 (by decide) ?_
                      exact hret _ _ _ _ d_Mo_breaksAlone_168 (by omega) (by exact ⟨rfl, by unfold brA hsk ob leap; omega⟩)
            · skip
              refine mk_iload (nx := 122) X 0 d_Mo_breaksAlone_120 rfl rfl ?_
              refine mk_iload (nx := 124) X 1 d_Mo_breaksAlone_122 rfl rfl ?_
              refine mk_isub (nx := 125) X d_Mo_breaksAlone_124 rfl ?_
              refine mk_goto (tgt := 133) X d_Mo_breaksAlone_125 (by decide) ?_
              refine mk_istore (nx := 135) X [(6, .int (zi ((cbs c v (cpl c v (t : Int)) (-1)) - (cpt c v (t : Int))))), (5, .int (zi (cbs c v (cpl c v (t : Int)) (-1)))), (4, .int (zi (cpt c v (t : Int)))), (0, .ref (ad 0)), (1, .int (zi rule)), (2, .int (zi (v : Int))), (3, .int (zi (t : Int)))] d_Mo_breaksAlone_133 (by decide) rfl rfl ?_
              refine mk_iload (nx := 137) X 0 d_Mo_breaksAlone_135 rfl rfl ?_
              refine mk_bipush (nx := 139) X d_Mo_breaksAlone_137 (by decide) rfl ?_
              refine mk_icmp_gt (tgt := 163) (nx := 142) X d_Mo_breaksAlone_139 (by omega) (by omega) (by decide) rfl (fun c139 => ?_) (fun c139 => ?_)
              · skip
                refine mk_iconst (nx := 164) X d_Mo_breaksAlone_163 rfl ?_
                refine mk_goto (tgt := 168) X d_Mo_breaksAlone_164 (by decide) ?_
                exact hret _ _ _ _ d_Mo_breaksAlone_168 (by omega) (by exact ⟨rfl, by unfold brA hsk ob leap; omega⟩)
              · skip
                refine mk_iload (nx := 144) X 0 d_Mo_breaksAlone_142 rfl rfl ?_
                refine mk_bipush (nx := 146) X d_Mo_breaksAlone_144 (by decide) rfl ?_
                refine mk_icmp_eq (tgt := 163) (nx := 149) X d_Mo_breaksAlone_146 (by omega) (by omega) (by decide) rfl (fun c146 => ?_) (fun c146 => ?_)
                · skip
                  refine mk_iconst (nx := 164) X d_Mo_breaksAlone_163 rfl ?_
                  refine mk_goto (tgt := 168) X d_Mo_breaksAlone_164 (by decide) ?_
                  exact hret _ _ _ _ d_Mo_breaksAlone_168 (by omega) (by exact ⟨rfl, by unfold brA hsk ob leap; omega⟩)
                · skip
                  refine mk_iload (nx := 151) X 0 d_Mo_breaksAlone_149 rfl rfl ?_
                  refine mk_bipush (nx := 153) X d_Mo_breaksAlone_151 (by decide) rfl ?_
                  refine mk_icmp_eq (tgt := 163) (nx := 156) X d_Mo_breaksAlone_153 (by omega) (by omega) (by decide) rfl (fun c153 => ?_) (fun c153 => ?_)
                  · skip
                    refine mk_iconst (nx := 164) X d_Mo_breaksAlone_163 rfl ?_
                    refine mk_goto (tgt := 168) X d_Mo_breaksAlone_164 (by decide) ?_
                    exact hret _ _ _ _ d_Mo_breaksAlone_168 (by omega) (by exact ⟨rfl, by unfold brA hsk ob leap; omega⟩)
                  · skip
                    refine mk_iload (nx := 158) X 0 d_Mo_breaksAlone_156 rfl rfl ?_
                    refine mk_bipush (nx := 160) X d_Mo_breaksAlone_158 (by decide) rfl ?_
                    refine mk_icmp_ne (tgt := 167) (nx := 163) X d_Mo_breaksAlone_160 (by omega) (by omega) (by decide) rfl (fun c160 => ?_) (fun c160 => ?_)
                    · skip
                      refine mk_iconst (nx := 168) X d_Mo_breaksAlone_167 rfl ?_
                      exact hret _ _ _ _ d_Mo_breaksAlone_168 (by omega) (by exact ⟨rfl, by unfold brA hsk ob leap; omega⟩)
                    · skip
                      refine mk_iconst (nx := 164) X d_Mo_breaksAlone_163 rfl ?_
                      refine mk_goto (tgt := 168) X d_Mo_breaksAlone_164 (by decide) ?_
                      exact hret _ _ _ _ d_Mo_breaksAlone_168 (by omega) (by exact ⟨rfl, by unfold brA hsk ob leap; omega⟩)
          · skip
            refine mk_iconst (nx := 112) X d_Mo_breaksAlone_111 rfl ?_
            exact hret _ _ _ _ d_Mo_breaksAlone_112 (by omega) (by exact ⟨rfl, Or.inr ⟨rfl, by unfold brA hsk ob; omega⟩⟩)
        · skip
          refine mk_aloadn (nx := 68) X 1 d_Mo_breaksAlone_67 rfl rfl ?_
          refine mk_get (nx := 71) (v := .int (zi (I 0 10))) X 0 (by decide) (mh_Mo cs ad _) rfl in_Mo 10 (by decide) wd_605 rfl rfl d_Mo_breaksAlone_68 rfl ?_
          rw [show I 0 10 = c 0 3 from i52]
          refine mk_iload (nx := 73) X 0 d_Mo_breaksAlone_71 rfl rfl ?_
          refine mk_bipush (nx := 75) X d_Mo_breaksAlone_73 (by decide) rfl ?_
          have tm1 := Int.tmod_lt_of_pos (cpt c v (t : Int)) (show (0 : Int) < 12 by omega)
          have tm2 := Int.lt_tmod_of_pos (cpt c v (t : Int)) (show (0 : Int) < 12 by omega)
          refine mk_irem (nx := 76) X d_Mo_breaksAlone_75 (by omega) (by omega) (by omega) rfl ?_
          refine mk_bipush (nx := 78) X d_Mo_breaksAlone_76 (by decide) rfl ?_
          refine mk_iadd (nx := 79) X d_Mo_breaksAlone_78 rfl ?_
          refine mk_bipush (nx := 81) X d_Mo_breaksAlone_79 (by decide) rfl ?_
          refine mk_irem (nx := 82) X d_Mo_breaksAlone_81 (by omega) (by omega) (by omega) rfl ?_
          rw [show Int.tmod ((Int.tmod (cpt c v (t : Int)) 12) + 12) 12 = (cpt c v (t : Int)) % 12 from mod12 _]
          refine mk_ishr (nx := 83) X d_Mo_breaksAlone_82 rfl ?_
          refine mk_iconst (nx := 84) X d_Mo_breaksAlone_83 rfl ?_
          refine mk_iand (nx := 85) X d_Mo_breaksAlone_84 rfl ?_
          refine mk_if_ne (tgt := 92) (nx := 88) X d_Mo_breaksAlone_85 (by exact zi_rng _) (by decide) rfl (fun c85 => ?_) (fun c85 => ?_)
          · skip
            refine mk_iconst (nx := 93) X d_Mo_breaksAlone_92 rfl ?_
            exact hret _ _ _ _ d_Mo_breaksAlone_93 (by omega) (by exact ⟨rfl, by unfold brA hsk; omega⟩)
          · skip
            refine mk_iconst (nx := 89) X d_Mo_breaksAlone_88 rfl ?_
            refine mk_goto (tgt := 93) X d_Mo_breaksAlone_89 (by decide) ?_
            exact hret _ _ _ _ d_Mo_breaksAlone_93 (by omega) (by exact ⟨rfl, by unfold brA hsk; omega⟩)
      · skip
        refine mk_iload (nx := 40) X 0 d_Mo_breaksAlone_38 rfl rfl ?_
        refine mk_aloadn (nx := 41) X 1 d_Mo_breaksAlone_40 rfl rfl ?_
        refine mk_get (nx := 44) (v := .int (zi (I 0 8))) X 0 (by decide) (mh_Mo cs ad _) rfl in_Mo 8 (by decide) wd_603 rfl rfl d_Mo_breaksAlone_41 rfl ?_
        rw [show I 0 8 = c 0 1 from i50]
        refine mk_icmp_lt (tgt := 56) (nx := 47) X d_Mo_breaksAlone_44 (by omega) (by omega) (by decide) rfl (fun c44 => ?_) (fun c44 => ?_)
        · skip
          refine mk_iconst (nx := 57) X d_Mo_breaksAlone_56 rfl ?_
          refine mk_goto (tgt := 61) X d_Mo_breaksAlone_57 (by decide) ?_
          exact hret _ _ _ _ d_Mo_breaksAlone_61 (by omega) (by exact ⟨rfl, by unfold brA hsk; omega⟩)
        · skip
          refine mk_iload (nx := 49) X 0 d_Mo_breaksAlone_47 rfl rfl ?_
          refine mk_aloadn (nx := 50) X 1 d_Mo_breaksAlone_49 rfl rfl ?_
          refine mk_get (nx := 53) (v := .int (zi (I 0 9))) X 0 (by decide) (mh_Mo cs ad _) rfl in_Mo 9 (by decide) wd_604 rfl rfl d_Mo_breaksAlone_50 rfl ?_
          rw [show I 0 9 = c 0 2 from i51]
          refine mk_icmp_le (tgt := 60) (nx := 56) X d_Mo_breaksAlone_53 (by omega) (by omega) (by decide) rfl (fun c53 => ?_) (fun c53 => ?_)
          · skip
            refine mk_iconst (nx := 61) X d_Mo_breaksAlone_60 rfl ?_
            exact hret _ _ _ _ d_Mo_breaksAlone_61 (by omega) (by exact ⟨rfl, by unfold brA hsk; omega⟩)
          · skip
            refine mk_iconst (nx := 57) X d_Mo_breaksAlone_56 rfl ?_
            refine mk_goto (tgt := 61) X d_Mo_breaksAlone_57 (by decide) ?_
            exact hret _ _ _ _ d_Mo_breaksAlone_61 (by omega) (by exact ⟨rfl, by unfold brA hsk; omega⟩)
    · skip
      refine mk_iconst (nx := 32) X d_Mo_breaksAlone_31 rfl ?_
      exact hret _ _ _ _ d_Mo_breaksAlone_32 (by omega) (by exact ⟨rfl, Or.inr ⟨rfl, by unfold brA hsk; omega⟩⟩)
