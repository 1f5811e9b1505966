/-- a VOICE's PITCH at a time, as its LINE tells it; STRUCK there -/
def cpt (c : Wo) (v : Nat) (t : Int) : Int := if cpl c v t = -1 then 1000 else clp c v (cpl c v t).toNat
def csk (c : Wo) (v : Nat) (t : Int) : Int := if cpl c v t = -1 then 0 else if csn c v t = cbg c v (cpl c v t).toNat ∧ ¬ clp c v (cpl c v t).toNat = 1000 then 1 else 0
def an_at (c : Wo) (v t : Int) : Int := if v < 0 ∨ 3 < v ∨ c (3 + v.toNat) 0 = 0 then 1002 else if t < 0 ∨ an_end c ≤ t then 1000 else cpt c v.toNat t
theorem an_end_b {c : Wo} (h : wfN c) (hS : wfS c) (hV : wfV c) : 0 ≤ an_end c ∧ an_end c ≤ 1252 := by
  have h1 := eo_b h hV 4 (Nat.le_refl _)
  have h2 := hS.2.2.2.2.1
  unfold an_end
  split <;> omega
theorem cpl_b {c : Wo} {v : Nat} (h : wfN c) (hV : wfV c) (hv : v < 4) (t : Int) : cpl c v t = -1 ∨ (0 ≤ cpl c v t ∧ cpl c v t < cn c) := by
  unfold cpl
  rcases plc_spec h hV hv (csn c v t) with q | ⟨p, a, b, _⟩
  · exact Or.inl q.2
  · rw [b]; exact Or.inr (by omega)
theorem cmR_fr {c I J : Wo} (h : ∀ a b, (a < 6 ∨ 42 < a) → ¬ (a = 0 ∧ b = 8) → J a b = I a b) (hR : cmR c I) : cmR c J := by
  obtain ⟨hw, h1, h2, h3, h4⟩ := hR
  refine ⟨hw, ⟨by rw [h 1 2 (by omega) (by omega)]; exact h1.1, fun j hj => by rw [h 2 j (by omega) (by omega), h 3 j (by omega) (by omega)]; exact h1.2 j hj⟩, ?_, fun v hv => ?_, ⟨by rw [h 0 10 (by omega) (by omega)]; exact h4.1, fun k hk => by rw [h 43 k (by omega) (by omega)]; exact h4.2 k hk⟩⟩
  · unfold cmS at h2 ⊢
    rw [h 5 0 (by omega) (by omega), h 5 1 (by omega) (by omega), h 5 2 (by omega) (by omega), h 5 3 (by omega) (by omega), h 5 4 (by omega) (by omega), h 0 7 (by omega) (by omega), h 0 9 (by omega) (by omega)]
    exact h2
  · have := h3 v hv
    rw [h (44 + v) 0 (by omega) (by omega), h (44 + v) 1 (by omega) (by omega), h (44 + v) 2 (by omega) (by omega), h (44 + v) 3 (by omega) (by omega), h (44 + v) 4 (by omega) (by omega)]
    exact this

-- CanonMaker.at(II)I
theorem d_CM_at_0 : decode prog_1_method_15_code 0 = .ok (.iload_n 1, 1) := by decide +kernel
theorem d_CM_at_1 : decode prog_1_method_15_code 1 = .ok (.ifCond .lt 20, 3) := by decide +kernel
theorem d_CM_at_4 : decode prog_1_method_15_code 4 = .ok (.iload_n 1, 1) := by decide +kernel
theorem d_CM_at_5 : decode prog_1_method_15_code 5 = .ok (.iconst 4, 1) := by decide +kernel
theorem d_CM_at_6 : decode prog_1_method_15_code 6 = .ok (.if_icmp .ge 15, 3) := by decide +kernel
theorem d_CM_at_9 : decode prog_1_method_15_code 9 = .ok (.aload_n 0, 1) := by decide +kernel
theorem d_CM_at_10 : decode prog_1_method_15_code 10 = .ok (.getfield 18, 3) := by decide +kernel
theorem d_CM_at_13 : decode prog_1_method_15_code 13 = .ok (.iload_n 1, 1) := by decide +kernel
theorem d_CM_at_14 : decode prog_1_method_15_code 14 = .ok (.aaload, 1) := by decide +kernel
theorem d_CM_at_15 : decode prog_1_method_15_code 15 = .ok (.getfield 53, 3) := by decide +kernel
theorem d_CM_at_18 : decode prog_1_method_15_code 18 = .ok (.ifCond .ne 7, 3) := by decide +kernel
theorem d_CM_at_21 : decode prog_1_method_15_code 21 = .ok (.sipush 1002, 3) := by decide +kernel
theorem d_CM_at_24 : decode prog_1_method_15_code 24 = .ok (.ireturn, 1) := by decide +kernel
theorem d_CM_at_25 : decode prog_1_method_15_code 25 = .ok (.iload_n 2, 1) := by decide +kernel
theorem d_CM_at_26 : decode prog_1_method_15_code 26 = .ok (.ifCond .lt 11, 3) := by decide +kernel
theorem d_CM_at_29 : decode prog_1_method_15_code 29 = .ok (.iload_n 2, 1) := by decide +kernel
theorem d_CM_at_30 : decode prog_1_method_15_code 30 = .ok (.aload_n 0, 1) := by decide +kernel
theorem d_CM_at_31 : decode prog_1_method_15_code 31 = .ok (.invokevirtual 111, 3) := by decide +kernel
theorem d_CM_at_34 : decode prog_1_method_15_code 34 = .ok (.if_icmp .lt 7, 3) := by decide +kernel
theorem d_CM_at_37 : decode prog_1_method_15_code 37 = .ok (.sipush 1000, 3) := by decide +kernel
theorem d_CM_at_40 : decode prog_1_method_15_code 40 = .ok (.ireturn, 1) := by decide +kernel
theorem d_CM_at_41 : decode prog_1_method_15_code 41 = .ok (.aload_n 0, 1) := by decide +kernel
theorem d_CM_at_42 : decode prog_1_method_15_code 42 = .ok (.getfield 32, 3) := by decide +kernel
theorem d_CM_at_45 : decode prog_1_method_15_code 45 = .ok (.getfield 114, 3) := by decide +kernel
theorem d_CM_at_48 : decode prog_1_method_15_code 48 = .ok (.iload_n 1, 1) := by decide +kernel
theorem d_CM_at_49 : decode prog_1_method_15_code 49 = .ok (.aaload, 1) := by decide +kernel
theorem d_CM_at_50 : decode prog_1_method_15_code 50 = .ok (.astore_n 3, 1) := by decide +kernel
theorem d_CM_at_51 : decode prog_1_method_15_code 51 = .ok (.aload_n 3, 1) := by decide +kernel
theorem d_CM_at_52 : decode prog_1_method_15_code 52 = .ok (.aload_n 0, 1) := by decide +kernel
theorem d_CM_at_53 : decode prog_1_method_15_code 53 = .ok (.getfield 12, 3) := by decide +kernel
theorem d_CM_at_56 : decode prog_1_method_15_code 56 = .ok (.aload_n 0, 1) := by decide +kernel
theorem d_CM_at_57 : decode prog_1_method_15_code 57 = .ok (.getfield 18, 3) := by decide +kernel
theorem d_CM_at_60 : decode prog_1_method_15_code 60 = .ok (.iload_n 1, 1) := by decide +kernel
theorem d_CM_at_61 : decode prog_1_method_15_code 61 = .ok (.aaload, 1) := by decide +kernel
theorem d_CM_at_62 : decode prog_1_method_15_code 62 = .ok (.aload_n 0, 1) := by decide +kernel
theorem d_CM_at_63 : decode prog_1_method_15_code 63 = .ok (.getfield 105, 3) := by decide +kernel
theorem d_CM_at_66 : decode prog_1_method_15_code 66 = .ok (.invokevirtual 118, 3) := by decide +kernel
theorem d_CM_at_69 : decode prog_1_method_15_code 69 = .ok (.aload_n 3, 1) := by decide +kernel
theorem d_CM_at_70 : decode prog_1_method_15_code 70 = .ok (.aload_n 0, 1) := by decide +kernel
theorem d_CM_at_71 : decode prog_1_method_15_code 71 = .ok (.getfield 12, 3) := by decide +kernel
theorem d_CM_at_74 : decode prog_1_method_15_code 74 = .ok (.invokevirtual 124, 3) := by decide +kernel
theorem d_CM_at_77 : decode prog_1_method_15_code 77 = .ok (.aload_n 3, 1) := by decide +kernel
theorem d_CM_at_78 : decode prog_1_method_15_code 78 = .ok (.iload_n 2, 1) := by decide +kernel
theorem d_CM_at_79 : decode prog_1_method_15_code 79 = .ok (.invokevirtual 128, 3) := by decide +kernel
theorem d_CM_at_82 : decode prog_1_method_15_code 82 = .ok (.istore 4, 2) := by decide +kernel
theorem d_CM_at_84 : decode prog_1_method_15_code 84 = .ok (.iload 4, 2) := by decide +kernel
theorem d_CM_at_86 : decode prog_1_method_15_code 86 = .ok (.iconst (-1), 1) := by decide +kernel
theorem d_CM_at_87 : decode prog_1_method_15_code 87 = .ok (.if_icmp .ne 9, 3) := by decide +kernel
theorem d_CM_at_90 : decode prog_1_method_15_code 90 = .ok (.sipush 1000, 3) := by decide +kernel
theorem d_CM_at_93 : decode prog_1_method_15_code 93 = .ok (.goto 10, 3) := by decide +kernel
theorem d_CM_at_96 : decode prog_1_method_15_code 96 = .ok (.aload_n 3, 1) := by decide +kernel
theorem d_CM_at_97 : decode prog_1_method_15_code 97 = .ok (.getfield 132, 3) := by decide +kernel
theorem d_CM_at_100 : decode prog_1_method_15_code 100 = .ok (.iload 4, 2) := by decide +kernel
theorem d_CM_at_102 : decode prog_1_method_15_code 102 = .ok (.iaload, 1) := by decide +kernel
theorem d_CM_at_103 : decode prog_1_method_15_code 103 = .ok (.ireturn, 1) := by decide +kernel
abbrev rm_CM_at : Room := { frames := 3, cells := 0, slots := 0, locals := 73 }
set_option maxHeartbeats 4000000 in
set_option maxRecDepth 100000 in
theorem c_CM_at (l : Launch) (D : va_G) (cs : Nat → ClassId) (ad : Nat → Nat) (zt : Nat) (hi : cm_inj ad) (c I : Wo) (h : cmR c I) (v : Int) (h_v : -2147483648 ≤ v ∧ v < 2147483648) (t : Int) (h_t : -2147483648 ≤ t ∧ t < 2147483648) : cm_C l D cs ad zt y_CM_at ws_CM_at rm_CM_at [.ref (ad 0), .int (zi v), .int (zi t)] I (mk_pi (fun r J => r = an_at c v t ∧ cmR c J)) := by
  refine mk_meti (own := "CanonMaker") (Ts := wA) hi (Nat.le_refl _) (by decide) rfl (fun w h => List.mem_cons_of_mem _ h) rfl (Nat.le_of_ble_eq_true rfl) [(0, .ref (ad 0)), (1, .int (zi v)), (2, .int (zi t))] rfl ?_
  intro p_ e_ s_ m_ as_ bl_ me_ co_ Q_ X hret
  obtain ⟨⟨⟨hn, hN⟩, ⟨hlo, hsc, hbt, hru, hrd, hst⟩, ⟨hV, hV0⟩, ⟨hfc, hF⟩⟩, ⟨i12, iN⟩, ⟨⟨i50, i51, i52, i53, i54⟩, i07, i09⟩, iV, ⟨i010, iF⟩⟩ := id h
  refine mk_iloadn (nx := 1) X 1 d_CM_at_0 rfl rfl ?_
  refine mk_if_lt (tgt := 21) (nx := 4) X d_CM_at_1 (by omega) (by decide) rfl (fun c1 => ?_) (fun c1 => ?_)
  · skip
    refine mk_sipush (nx := 24) X d_CM_at_21 (by decide) rfl ?_
    exact hret _ _ _ _ d_CM_at_24 (by exact ⟨by rw [an_at, if_pos (by omega)], h⟩)
  · skip
    refine mk_iloadn (nx := 5) X 1 d_CM_at_4 rfl rfl ?_
    refine mk_iconst (nx := 6) X d_CM_at_5 rfl ?_
    refine mk_icmp_ge (tgt := 21) (nx := 9) X d_CM_at_6 (by omega) (by omega) (by decide) rfl (fun c6 => ?_) (fun c6 => ?_)
    · skip
      refine mk_sipush (nx := 24) X d_CM_at_21 (by decide) rfl ?_
      exact hret _ _ _ _ d_CM_at_24 (by exact ⟨by rw [an_at, if_pos (by omega)], h⟩)
    · skip
      have hv4 := iV v.toNat (by omega)
      have hv5 := hV v.toNat (by omega)
      refine mk_aloadn (nx := 10) X 0 d_CM_at_9 rfl rfl ?_
      refine mk_get (nx := 13) (v := .ref (ad 4)) X 0 (by decide) (sh_CM cs ad _) rfl in_CM 1 (by decide) wd_288 rfl rfl d_CM_at_10 rfl ?_
      refine mk_iloadn (nx := 14) X 1 d_CM_at_13 rfl rfl ?_
      refine mk_aald (nx := 15) (j := v.toNat) X 4 2 (by decide) (sh_voices cs ad _) rfl (by omega) (by omega) (by decide) rfl rfl d_CM_at_14 rfl ?_
      refine mk_get (nx := 18) (v := .int (zi (I (44 + v.toNat) 0))) X (44 + v.toNat) (by omega) (sh_Voice cs ad (show v.toNat < 4 by omega) _) rfl in_Voice 0 (by decide) wd_265 rfl rfl d_CM_at_15 rfl ?_
      refine mk_if_ne (tgt := 25) (nx := 21) X d_CM_at_18 (by omega) (by decide) rfl (fun c18 => ?_) (fun c18 => ?_)
      · skip
        have heb := an_end_b h.1.1 h.1.2.1 h.1.2.2.1
        have hcn := cn_e h.1.1
        have hplb := cpl_b h.1.1 h.1.2.2.1 (show v.toNat < 4 by omega) t
        refine mk_iloadn (nx := 26) X 2 d_CM_at_25 rfl rfl ?_
        refine mk_if_lt (tgt := 37) (nx := 29) X d_CM_at_26 (by omega) (by decide) rfl (fun c26 => ?_) (fun c26 => ?_)
        · skip
          refine mk_sipush (nx := 40) X d_CM_at_37 (by decide) rfl ?_
          exact hret _ _ _ _ d_CM_at_40 (by exact ⟨by rw [an_at, if_neg (by omega), if_pos (by omega)], h⟩)
        · skip
          refine mk_iloadn (nx := 30) X 2 d_CM_at_29 rfl rfl ?_
          refine mk_aloadn (nx := 31) X 0 d_CM_at_30 rfl rfl ?_
          refine mk_callVi (nx := 34) (n := 0) (As := []) (rest := [.int (zi t)]) X 0 (by decide) (sh_CM cs ad _) rfl (c_CM_countTimes l D cs ad zt hi c I h) (g_CM_countTimes wd_387) rfl ⟨rfl, rfl⟩ (by decide +kernel) ⟨by decide, by decide⟩ rfl (Nat.le_of_ble_eq_true rfl) rfl d_CM_at_31 rfl ?_
          intro r31 J1 hJ1
          obtain ⟨rfl, rfl⟩ := hJ1
          refine mk_icmp_lt (tgt := 41) (nx := 37) X d_CM_at_34 (by omega) (by omega) (by decide) rfl (fun c34 => ?_) (fun c34 => ?_)
          · skip
            refine mk_aloadn (nx := 42) X 0 d_CM_at_41 rfl rfl ?_
            refine mk_get (nx := 45) (v := .ref (ad 6)) X 0 (by decide) (sh_CM cs ad _) rfl in_CM 3 (by decide) wd_290 rfl rfl d_CM_at_42 rfl ?_
            refine mk_get (nx := 48) (v := .ref (ad 7)) X 6 (by decide) (sh_Score cs ad _) rfl in_Score 0 (by decide) wd_179 rfl rfl d_CM_at_45 rfl ?_
            refine mk_iloadn (nx := 49) X 1 d_CM_at_48 rfl rfl ?_
            refine mk_aald (nx := 50) (j := v.toNat) X 7 3 (by decide) (sh_lines cs ad _) rfl (by omega) (by omega) (by decide) rfl rfl d_CM_at_49 rfl ?_
            refine mk_astoren (nx := 51) X [(3, .ref (ad (12 + 6 * v.toNat))), (0, .ref (ad 0)), (1, .int (zi v)), (2, .int (zi t))] d_CM_at_50 (by decide) rfl rfl ?_
            refine mk_aloadn (nx := 52) X 0 d_CM_at_51 rfl rfl ?_
            refine mk_aloadn (nx := 53) X 1 d_CM_at_52 rfl rfl ?_
            refine mk_get (nx := 56) (v := .ref (ad 1)) X 0 (by decide) (sh_CM cs ad _) rfl in_CM 0 (by decide) wd_287 rfl rfl d_CM_at_53 rfl ?_
            refine mk_aloadn (nx := 57) X 1 d_CM_at_56 rfl rfl ?_
            refine mk_get (nx := 60) (v := .ref (ad 4)) X 0 (by decide) (sh_CM cs ad _) rfl in_CM 1 (by decide) wd_288 rfl rfl d_CM_at_57 rfl ?_
            refine mk_iloadn (nx := 61) X 2 d_CM_at_60 rfl rfl ?_
            refine mk_aald (nx := 62) (j := v.toNat) X 4 2 (by decide) (sh_voices cs ad _) rfl (by omega) (by omega) (by decide) rfl rfl d_CM_at_61 rfl ?_
            refine mk_aloadn (nx := 63) X 1 d_CM_at_62 rfl rfl ?_
            refine mk_get (nx := 66) (v := .int (zi (I 0 7))) X 0 (by decide) (sh_CM cs ad _) rfl in_CM 7 (by decide) wd_294 rfl rfl d_CM_at_63 rfl ?_
            rw [show I 0 7 = c 0 6 from i07]
            refine mk_callVv (nx := 69) (n := 3) (As := [.ref (ad 1), .ref (ad (44 + v.toNat)), .int (zi (c 0 6))]) (rest := []) X (12 + 6 * v.toNat) (by omega) (sh_Line cs ad (show v.toNat < 4 by omega) _) rfl (c_Line_lay l D cs ad zt hi c I h.1.1 h.1.2.1 h.1.2.2.1 h.2.1 v.toNat (by omega) (iV v.toNat (by omega))) (g_Line_lay wd_398) rfl ⟨rfl, rfl⟩ (by decide +kernel) ⟨by decide, by decide⟩ rfl (Nat.le_of_ble_eq_true rfl) rfl d_CM_at_66 rfl ?_
            intro JA hJA
            refine mk_aloadn (nx := 70) X 0 d_CM_at_69 rfl rfl ?_
            refine mk_aloadn (nx := 71) X 1 d_CM_at_70 rfl rfl ?_
            refine mk_get (nx := 74) (v := .ref (ad 1)) X 0 (by decide) (sh_CM cs ad _) rfl in_CM 0 (by decide) wd_287 rfl rfl d_CM_at_71 rfl ?_
            refine mk_callVv (nx := 77) (n := 1) (As := [.ref (ad 1)]) (rest := []) X (12 + 6 * v.toNat) (by omega) (sh_Line cs ad (show v.toNat < 4 by omega) _) rfl (c_Line_tune l D cs ad zt hi c JA h.1.1 h.1.2.1 h.1.2.2.1 (cmN_fr (fun a b x => hJA.2.2.2 a b (Or.inl (by omega))) h.2.1) v.toNat (by omega) hJA.1 hJA.2.1) (g_Line_tune wd_409) rfl ⟨rfl, rfl⟩ (by decide +kernel) ⟨by decide, by decide⟩ rfl (Nat.le_of_ble_eq_true rfl) rfl d_CM_at_74 rfl ?_
            intro JB hJB
            refine mk_aloadn (nx := 78) X 0 d_CM_at_77 rfl rfl ?_
            refine mk_iloadn (nx := 79) X 3 d_CM_at_78 rfl rfl ?_
            refine mk_callVi (nx := 82) (n := 1) (As := [.int (zi t)]) (rest := []) X (12 + 6 * v.toNat) (by omega) (sh_Line cs ad (show v.toNat < 4 by omega) _) rfl (c_Line_placeAt l D cs ad zt hi c JB h.1.1 h.1.2.1 h.1.2.2.1 v.toNat (by omega) (LnF_fr (fun b => hJB.2 _ b (by omega)) hJA.1) (LnB_fr (fun b => ⟨hJB.2 _ b (by omega), hJB.2 _ b (by omega)⟩) hJA.2.1) t (by omega)) (g_Line_placeAt wd_417) rfl ⟨rfl, rfl⟩ (by decide +kernel) ⟨by decide, by decide⟩ rfl (Nat.le_of_ble_eq_true rfl) rfl d_CM_at_79 rfl ?_
            intro r79 J2 hJ2
            obtain ⟨rfl, rfl⟩ := hJ2
            refine mk_istore (nx := 84) X [(4, .int (zi (cpl c v.toNat t))), (3, .ref (ad (12 + 6 * v.toNat))), (0, .ref (ad 0)), (1, .int (zi v)), (2, .int (zi t))] d_CM_at_82 (by decide) rfl rfl ?_
            refine mk_iload (nx := 86) X 0 d_CM_at_84 rfl rfl ?_
            refine mk_iconst (nx := 87) X d_CM_at_86 rfl ?_
            refine mk_icmp_ne (tgt := 96) (nx := 90) X d_CM_at_87 (by omega) (by omega) (by decide) rfl (fun c87 => ?_) (fun c87 => ?_)
            · skip
              refine mk_aloadn (nx := 97) X 1 d_CM_at_96 rfl rfl ?_
              refine mk_get (nx := 100) (v := .ref (ad (15 + 6 * v.toNat))) X (12 + 6 * v.toNat) (by omega) (sh_Line cs ad (show v.toNat < 4 by omega) _) rfl in_Line 2 (by decide) wd_132 rfl rfl d_CM_at_97 rfl ?_
              refine mk_iload (nx := 102) X 0 d_CM_at_100 rfl rfl ?_
              refine mk_iald (nx := 103) (j := (cpl c v.toNat t).toNat) X (15 + 6 * v.toNat) 0 (by omega) (sh_Lpit cs ad (show v.toNat < 4 by omega) _) rfl (by omega) (by omega) (by decide) rfl d_CM_at_102 rfl ?_
              rw [show JB (15 + 6 * v.toNat) ((cpl c v.toNat t).toNat) = clp c v.toNat ((cpl c v.toNat t).toNat) from (hJB.1 ((cpl c v.toNat t).toNat) (by omega))]
              exact hret _ _ _ _ d_CM_at_103 (by exact ⟨by rw [an_at, if_neg (by omega), if_neg (by omega)]; unfold cpt; first | rw [if_pos (by omega)] | rw [if_neg (by omega)], cmR_fr (fun a b x _ => (hJB.2 a b (by omega)).trans (hJA.2.2.2 a b (by omega))) h⟩)
            · skip
              refine mk_sipush (nx := 93) X d_CM_at_90 (by decide) rfl ?_
              refine mk_goto (tgt := 103) X d_CM_at_93 (by decide) ?_
              exact hret _ _ _ _ d_CM_at_103 (by exact ⟨by rw [an_at, if_neg (by omega), if_neg (by omega)]; unfold cpt; first | rw [if_pos (by omega)] | rw [if_neg (by omega)], cmR_fr (fun a b x _ => (hJB.2 a b (by omega)).trans (hJA.2.2.2 a b (by omega))) h⟩)
          · skip
            refine mk_sipush (nx := 40) X d_CM_at_37 (by decide) rfl ?_
            exact hret _ _ _ _ d_CM_at_40 (by exact ⟨by rw [an_at, if_neg (by omega), if_pos (by omega)], h⟩)
      · skip
        refine mk_sipush (nx := 24) X d_CM_at_21 (by decide) rfl ?_
        exact hret _ _ _ _ d_CM_at_24 (by exact ⟨by rw [an_at, if_pos (by omega)], h⟩)
