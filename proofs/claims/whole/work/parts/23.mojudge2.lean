theorem rul_d {i : Nat} (h : i ≤ 8) : 1 ≤ rul i ∧ rul i ≤ 256 ∧ (i < 8 → rul i ≤ 128) ∧ (i = 8 → rul i = 256) := by
  rcases (show i = 0 ∨ i = 1 ∨ i = 2 ∨ i = 3 ∨ i = 4 ∨ i = 5 ∨ i = 6 ∨ i = 7 ∨ i = 8 by omega) with rfl | rfl | rfl | rfl | rfl | rfl | rfl | rfl | rfl <;> decide
theorem MoL_jd {c I J : Wo} (hO : ∀ a b, ¬ (a = 0 ∧ 19 < b ∧ b < 24) → J a b = I a b) (h : MoL c I) : MoL c J := by
  refine ⟨by rw [hO 0 19 (by omega)]; exact h.1, fun v hv hon => ?_⟩
  obtain ⟨h1, h2⟩ := h.2 v hv hon
  exact ⟨fun q hq => by rw [hO _ _ (by omega)]; exact h1 q hq, fun x hx => by rw [hO _ _ (by omega), hO _ _ (by omega), hO _ _ (by omega)]; exact h2 x hx⟩
section LEN
variable {c : Wo}
theorem ifL_len (P : Prop) (x : Ft) : (ifL P x).length ≤ 1 := by
  by_cases h : P
  · rw [ifL_y h]; simp
  · rw [ifL_n h]; simp
theorem fbs_len {t rule : Int} {a : Nat} : ∀ m, (fbs c t rule a m).length ≤ m := by
  intro m
  induction m with
  | zero => simp [fbs]
  | succ m ih =>
    simp only [fbs, List.length_append]
    have := ifL_len (brP c rule a m t) (t, rule, a, m)
    split <;> simp <;> omega
theorem fas_len {t rule : Int} : ∀ a, (fas c t rule a).length ≤ 4 * a := by
  intro a
  induction a with
  | zero => simp [fas]
  | succ a ih =>
    simp only [fas, List.length_append]
    have h1 := ifL_len (brA c rule a t) (t, rule, a, a)
    have h2 := fbs_len (c := c) (t := t) (rule := rule) (a := a) 4
    split <;> omega
theorem frs_len {t : Int} : ∀ i, (frs c t i).length ≤ 16 * i := by
  intro i
  induction i with
  | zero => simp [frs]
  | succ i ih =>
    simp only [frs, List.length_append]
    have h2 := fas_len (c := c) (t := t) (rule := rul i) 4
    split <;> simp <;> omega
theorem fts_len : ∀ t, (fts c t).length ≤ 128 * t := by
  intro t
  induction t with
  | zero => simp [fts]
  | succ t ih =>
    simp only [fts, List.length_append]
    have h2 := frs_len (c := c) (t := (t : Int)) 8
    omega
theorem LD_len {t i a b : Nat} {al : Int} (hb : b ≤ 4) : (LD c t i al a b).length ≤ 128 * t + 16 * i + 4 * a + 4 := by
  have h1 := fts_len (c := c) t
  have h2 := frs_len (c := c) (t := (t : Int)) i
  have h3 := fas_len (c := c) (t := (t : Int)) (rule := rul i) a
  have h4 : (fb2 c t (rul i) al a b).length ≤ 4 := by
    unfold fb2
    have h5 := ifL_len (brA c (rul i) a t) ((t : Int), rul i, a, a)
    have h6 := fbs_len (c := c) (t := (t : Int)) (rule := rul i) (a := a) b
    split
    · split
      · simp
      · omega
    · omega
  unfold LD
  simp only [List.length_append]
  omega
end LEN

-- CanonMakerModel.judge(I)I
theorem d_Mo_judge_0 : decode prog_9_method_30_code 0 = .ok (.iconst 0, 1) := by decide +kernel
theorem d_Mo_judge_1 : decode prog_9_method_30_code 1 = .ok (.istore_n 2, 1) := by decide +kernel
theorem d_Mo_judge_2 : decode prog_9_method_30_code 2 = .ok (.iconst 0, 1) := by decide +kernel
theorem d_Mo_judge_3 : decode prog_9_method_30_code 3 = .ok (.istore_n 3, 1) := by decide +kernel
theorem d_Mo_judge_4 : decode prog_9_method_30_code 4 = .ok (.iload_n 3, 1) := by decide +kernel
theorem d_Mo_judge_5 : decode prog_9_method_30_code 5 = .ok (.aload_n 0, 1) := by decide +kernel
theorem d_Mo_judge_6 : decode prog_9_method_30_code 6 = .ok (.getfield 82, 3) := by decide +kernel
theorem d_Mo_judge_9 : decode prog_9_method_30_code 9 = .ok (.if_icmp .ge 192, 3) := by decide +kernel
theorem d_Mo_judge_12 : decode prog_9_method_30_code 12 = .ok (.iconst 1, 1) := by decide +kernel
theorem d_Mo_judge_13 : decode prog_9_method_30_code 13 = .ok (.istore 4, 2) := by decide +kernel
theorem d_Mo_judge_15 : decode prog_9_method_30_code 15 = .ok (.iload 4, 2) := by decide +kernel
theorem d_Mo_judge_17 : decode prog_9_method_30_code 17 = .ok (.sipush 256, 3) := by decide +kernel
theorem d_Mo_judge_20 : decode prog_9_method_30_code 20 = .ok (.if_icmp .ge 175, 3) := by decide +kernel
theorem d_Mo_judge_23 : decode prog_9_method_30_code 23 = .ok (.aload_n 0, 1) := by decide +kernel
theorem d_Mo_judge_24 : decode prog_9_method_30_code 24 = .ok (.getfield 75, 3) := by decide +kernel
theorem d_Mo_judge_27 : decode prog_9_method_30_code 27 = .ok (.iload 4, 2) := by decide +kernel
theorem d_Mo_judge_29 : decode prog_9_method_30_code 29 = .ok (.iand, 1) := by decide +kernel
theorem d_Mo_judge_30 : decode prog_9_method_30_code 30 = .ok (.ifCond .eq 156, 3) := by decide +kernel
theorem d_Mo_judge_33 : decode prog_9_method_30_code 33 = .ok (.iload 4, 2) := by decide +kernel
theorem d_Mo_judge_35 : decode prog_9_method_30_code 35 = .ok (.bipush 8, 2) := by decide +kernel
theorem d_Mo_judge_37 : decode prog_9_method_30_code 37 = .ok (.if_icmp .ne 6, 3) := by decide +kernel
theorem d_Mo_judge_40 : decode prog_9_method_30_code 40 = .ok (.goto 146, 3) := by decide +kernel
theorem d_Mo_judge_43 : decode prog_9_method_30_code 43 = .ok (.iload 4, 2) := by decide +kernel
theorem d_Mo_judge_45 : decode prog_9_method_30_code 45 = .ok (.iconst 4, 1) := by decide +kernel
theorem d_Mo_judge_46 : decode prog_9_method_30_code 46 = .ok (.if_icmp .lt 11, 3) := by decide +kernel
theorem d_Mo_judge_49 : decode prog_9_method_30_code 49 = .ok (.iload 4, 2) := by decide +kernel
theorem d_Mo_judge_51 : decode prog_9_method_30_code 51 = .ok (.sipush 128, 3) := by decide +kernel
theorem d_Mo_judge_54 : decode prog_9_method_30_code 54 = .ok (.if_icmp .ne 7, 3) := by decide +kernel
theorem d_Mo_judge_57 : decode prog_9_method_30_code 57 = .ok (.iconst 1, 1) := by decide +kernel
theorem d_Mo_judge_58 : decode prog_9_method_30_code 58 = .ok (.goto 4, 3) := by decide +kernel
theorem d_Mo_judge_61 : decode prog_9_method_30_code 61 = .ok (.iconst 0, 1) := by decide +kernel
theorem d_Mo_judge_62 : decode prog_9_method_30_code 62 = .ok (.istore 5, 2) := by decide +kernel
theorem d_Mo_judge_64 : decode prog_9_method_30_code 64 = .ok (.iconst 0, 1) := by decide +kernel
theorem d_Mo_judge_65 : decode prog_9_method_30_code 65 = .ok (.istore 6, 2) := by decide +kernel
theorem d_Mo_judge_67 : decode prog_9_method_30_code 67 = .ok (.iload 6, 2) := by decide +kernel
theorem d_Mo_judge_69 : decode prog_9_method_30_code 69 = .ok (.iconst 4, 1) := by decide +kernel
theorem d_Mo_judge_70 : decode prog_9_method_30_code 70 = .ok (.if_icmp .ge 116, 3) := by decide +kernel
theorem d_Mo_judge_73 : decode prog_9_method_30_code 73 = .ok (.iload 5, 2) := by decide +kernel
theorem d_Mo_judge_75 : decode prog_9_method_30_code 75 = .ok (.ifCond .eq 8, 3) := by decide +kernel
theorem d_Mo_judge_78 : decode prog_9_method_30_code 78 = .ok (.iload 6, 2) := by decide +kernel
theorem d_Mo_judge_80 : decode prog_9_method_30_code 80 = .ok (.goto 7, 3) := by decide +kernel
theorem d_Mo_judge_83 : decode prog_9_method_30_code 83 = .ok (.iload 6, 2) := by decide +kernel
theorem d_Mo_judge_85 : decode prog_9_method_30_code 85 = .ok (.iconst 1, 1) := by decide +kernel
theorem d_Mo_judge_86 : decode prog_9_method_30_code 86 = .ok (.iadd, 1) := by decide +kernel
theorem d_Mo_judge_87 : decode prog_9_method_30_code 87 = .ok (.istore 7, 2) := by decide +kernel
theorem d_Mo_judge_89 : decode prog_9_method_30_code 89 = .ok (.iload 7, 2) := by decide +kernel
theorem d_Mo_judge_91 : decode prog_9_method_30_code 91 = .ok (.iload 5, 2) := by decide +kernel
theorem d_Mo_judge_93 : decode prog_9_method_30_code 93 = .ok (.ifCond .eq 10, 3) := by decide +kernel
theorem d_Mo_judge_96 : decode prog_9_method_30_code 96 = .ok (.iload 6, 2) := by decide +kernel
theorem d_Mo_judge_98 : decode prog_9_method_30_code 98 = .ok (.iconst 1, 1) := by decide +kernel
theorem d_Mo_judge_99 : decode prog_9_method_30_code 99 = .ok (.iadd, 1) := by decide +kernel
theorem d_Mo_judge_100 : decode prog_9_method_30_code 100 = .ok (.goto 4, 3) := by decide +kernel
theorem d_Mo_judge_103 : decode prog_9_method_30_code 103 = .ok (.iconst 4, 1) := by decide +kernel
theorem d_Mo_judge_104 : decode prog_9_method_30_code 104 = .ok (.if_icmp .ge 76, 3) := by decide +kernel
theorem d_Mo_judge_107 : decode prog_9_method_30_code 107 = .ok (.iload 5, 2) := by decide +kernel
theorem d_Mo_judge_109 : decode prog_9_method_30_code 109 = .ok (.ifCond .eq 18, 3) := by decide +kernel
theorem d_Mo_judge_112 : decode prog_9_method_30_code 112 = .ok (.aload_n 0, 1) := by decide +kernel
theorem d_Mo_judge_113 : decode prog_9_method_30_code 113 = .ok (.iload 4, 2) := by decide +kernel
theorem d_Mo_judge_115 : decode prog_9_method_30_code 115 = .ok (.iload 6, 2) := by decide +kernel
theorem d_Mo_judge_117 : decode prog_9_method_30_code 117 = .ok (.iload_n 3, 1) := by decide +kernel
theorem d_Mo_judge_118 : decode prog_9_method_30_code 118 = .ok (.invokevirtual 124, 3) := by decide +kernel
theorem d_Mo_judge_121 : decode prog_9_method_30_code 121 = .ok (.ifCond .eq 53, 3) := by decide +kernel
theorem d_Mo_judge_124 : decode prog_9_method_30_code 124 = .ok (.goto 17, 3) := by decide +kernel
theorem d_Mo_judge_127 : decode prog_9_method_30_code 127 = .ok (.aload_n 0, 1) := by decide +kernel
theorem d_Mo_judge_128 : decode prog_9_method_30_code 128 = .ok (.iload 4, 2) := by decide +kernel
theorem d_Mo_judge_130 : decode prog_9_method_30_code 130 = .ok (.iload 6, 2) := by decide +kernel
theorem d_Mo_judge_132 : decode prog_9_method_30_code 132 = .ok (.iload 7, 2) := by decide +kernel
theorem d_Mo_judge_134 : decode prog_9_method_30_code 134 = .ok (.iload_n 3, 1) := by decide +kernel
theorem d_Mo_judge_135 : decode prog_9_method_30_code 135 = .ok (.invokevirtual 127, 3) := by decide +kernel
theorem d_Mo_judge_138 : decode prog_9_method_30_code 138 = .ok (.ifCond .eq 36, 3) := by decide +kernel
theorem d_Mo_judge_141 : decode prog_9_method_30_code 141 = .ok (.iinc 2 1, 3) := by decide +kernel
theorem d_Mo_judge_144 : decode prog_9_method_30_code 144 = .ok (.aload_n 0, 1) := by decide +kernel
theorem d_Mo_judge_145 : decode prog_9_method_30_code 145 = .ok (.iload_n 3, 1) := by decide +kernel
theorem d_Mo_judge_146 : decode prog_9_method_30_code 146 = .ok (.putfield 131, 3) := by decide +kernel
theorem d_Mo_judge_149 : decode prog_9_method_30_code 149 = .ok (.aload_n 0, 1) := by decide +kernel
theorem d_Mo_judge_150 : decode prog_9_method_30_code 150 = .ok (.iload 4, 2) := by decide +kernel
theorem d_Mo_judge_152 : decode prog_9_method_30_code 152 = .ok (.putfield 134, 3) := by decide +kernel
theorem d_Mo_judge_155 : decode prog_9_method_30_code 155 = .ok (.aload_n 0, 1) := by decide +kernel
theorem d_Mo_judge_156 : decode prog_9_method_30_code 156 = .ok (.iload 6, 2) := by decide +kernel
theorem d_Mo_judge_158 : decode prog_9_method_30_code 158 = .ok (.putfield 137, 3) := by decide +kernel
theorem d_Mo_judge_161 : decode prog_9_method_30_code 161 = .ok (.aload_n 0, 1) := by decide +kernel
theorem d_Mo_judge_162 : decode prog_9_method_30_code 162 = .ok (.iload 7, 2) := by decide +kernel
theorem d_Mo_judge_164 : decode prog_9_method_30_code 164 = .ok (.putfield 140, 3) := by decide +kernel
theorem d_Mo_judge_167 : decode prog_9_method_30_code 167 = .ok (.iload_n 2, 1) := by decide +kernel
theorem d_Mo_judge_168 : decode prog_9_method_30_code 168 = .ok (.iload_n 1, 1) := by decide +kernel
theorem d_Mo_judge_169 : decode prog_9_method_30_code 169 = .ok (.if_icmp .ne 5, 3) := by decide +kernel
theorem d_Mo_judge_172 : decode prog_9_method_30_code 172 = .ok (.iload_n 2, 1) := by decide +kernel
theorem d_Mo_judge_173 : decode prog_9_method_30_code 173 = .ok (.ireturn, 1) := by decide +kernel
theorem d_Mo_judge_174 : decode prog_9_method_30_code 174 = .ok (.iinc 7 1, 3) := by decide +kernel
theorem d_Mo_judge_177 : decode prog_9_method_30_code 177 = .ok (.goto (-88), 3) := by decide +kernel
theorem d_Mo_judge_180 : decode prog_9_method_30_code 180 = .ok (.iinc 6 1, 3) := by decide +kernel
theorem d_Mo_judge_183 : decode prog_9_method_30_code 183 = .ok (.goto (-116), 3) := by decide +kernel
theorem d_Mo_judge_186 : decode prog_9_method_30_code 186 = .ok (.iload 4, 2) := by decide +kernel
theorem d_Mo_judge_188 : decode prog_9_method_30_code 188 = .ok (.iconst 2, 1) := by decide +kernel
theorem d_Mo_judge_189 : decode prog_9_method_30_code 189 = .ok (.imul, 1) := by decide +kernel
theorem d_Mo_judge_190 : decode prog_9_method_30_code 190 = .ok (.istore 4, 2) := by decide +kernel
theorem d_Mo_judge_192 : decode prog_9_method_30_code 192 = .ok (.goto (-177), 3) := by decide +kernel
theorem d_Mo_judge_195 : decode prog_9_method_30_code 195 = .ok (.iinc 3 1, 3) := by decide +kernel
theorem d_Mo_judge_198 : decode prog_9_method_30_code 198 = .ok (.goto (-194), 3) := by decide +kernel
theorem d_Mo_judge_201 : decode prog_9_method_30_code 201 = .ok (.iload_n 2, 1) := by decide +kernel
theorem d_Mo_judge_202 : decode prog_9_method_30_code 202 = .ok (.ireturn, 1) := by decide +kernel
abbrev rm_Mo_judge : Room := { frames := 6, cells := 0, slots := 0, locals := 159 }
set_option maxHeartbeats 4000000 in
set_option maxRecDepth 100000 in
theorem c_Mo_judge (l : Launch) (D : va_G) (cs : Nat → ClassId) (ad : Nat → Nat) (hi : mo_inj ad) (c I : Wo) (h : moR c I) (hL : MoL c I) (till : Int) (htl : -2147483648 ≤ till ∧ till < 2147483648) : mo_C l D cs ad y_Mo_judge ws_Mo_judge rm_Mo_judge [.ref (ad 0), .int (zi till)] I (mk_pi (fun r J => jdP c I till r J)) := by
  refine mk_meti (own := "CanonMakerModel") (Ts := wA) hi (Nat.le_refl _) (by decide) rfl (fun w h => List.mem_cons_of_mem _ h) rfl (Nat.le_of_ble_eq_true rfl) [(0, .ref (ad 0)), (1, .int (zi till))] rfl ?_
  intro p_ e_ s_ m_ as_ bl_ me_ co_ Q_ X hret
  obtain ⟨⟨⟨hnn, hN⟩, ⟨hlo, hsc, hbt, hru, hrd, hst0⟩, ⟨hV, hV0⟩, ⟨hfc, hF⟩⟩, ⟨i12, iN⟩, ⟨⟨i50, i51, i52, i53, i54⟩, i07, i09⟩, iV, ⟨i010, iF⟩⟩ := id h
  have heb := an_end_b h.1.1 h.1.2.1 h.1.2.2.1
  have L4 : ∀ nf : Nat, ∀ (t : Nat) (n : Int) (Ja : Wo), ((t : Int) ≤ an_end c) → (JdI I Ja till (fts c t) n) → 1300 - t < nf → mk_A p_ l e_ rm_Mo_judge s_ m_ as_ bl_ me_ co_ Q_ 8 D cmcl (mo_sh cs ad) 16 16 ad Ja [(0, .ref (ad 0)), (1, .int (zi till)), (2, .int (zi n)), (3, .int (zi (t : Int)))] 4 [] := by
    intro nf
    induction nf with
    | zero => intro t n Ja ht hJa hn; exact absurd hn (Nat.not_lt_zero _)
    | succ nf ih4 =>
      intro t n Ja ht hJa hn4
      have L15 : ∀ nf : Nat, ∀ (i : Nat) (rl : Int) (n1 : Int) (Jb : Wo), (i ≤ 8) → (rl = rul i) → ((t : Int) < an_end c) → (JdI I Jb till (fts c t ++ frs c t i) n1) → 8 - i < nf → mk_A p_ l e_ rm_Mo_judge s_ m_ as_ bl_ me_ co_ Q_ 8 D cmcl (mo_sh cs ad) 16 16 ad Jb [(0, .ref (ad 0)), (1, .int (zi till)), (2, .int (zi n1)), (3, .int (zi (t : Int))), (4, .int (zi rl))] 15 [] := by
        intro nf
        induction nf with
        | zero => intro i rl n1 Jb hi9 hrl htt hJb hn; exact absurd hn (Nat.not_lt_zero _)
        | succ nf ih15 =>
          intro i rl n1 Jb hi9 hrl htt hJb hn15
          have hrd2 := rul_d hi9
          have L67 : ∀ nf : Nat, ∀ (a : Nat) (al : Int) (n2 : Int) (Jc : Wo), (a ≤ 4) → (i < 8) → (¬ i = 3) → (¬ ziand (c 0 5) (rul i) = 0) → ((al = 1 ∧ (rul i < 4 ∨ rul i = 128)) ∨ (al = 0 ∧ ¬ (rul i < 4 ∨ rul i = 128))) → (JdI I Jc till (LC c t i a) n2) → 4 - a < nf → mk_A p_ l e_ rm_Mo_judge s_ m_ as_ bl_ me_ co_ Q_ 8 D cmcl (mo_sh cs ad) 16 16 ad Jc [(0, .ref (ad 0)), (1, .int (zi till)), (2, .int (zi n2)), (3, .int (zi (t : Int))), (4, .int (zi rl)), (5, .int (zi al)), (6, .int (zi (a : Int)))] 67 [] := by
            intro nf
            induction nf with
            | zero => intro a al n2 Jc haq hi8 hi3 hon hal hJc hn; exact absurd hn (Nat.not_lt_zero _)
            | succ nf ih67 =>
              intro a al n2 Jc haq hi8 hi3 hon hal hJc hn67
              have L89 : ∀ nf : Nat, ∀ (b : Nat) (n3 : Int) (Jd : Wo), ((al = 1 ∧ (b = a ∨ b = a + 1)) ∨ (al = 0 ∧ a + 1 ≤ b ∧ b ≤ 4)) → (a < 4) → (JdI I Jd till (LD c t i al a b) n3) → 5 - b < nf → mk_A p_ l e_ rm_Mo_judge s_ m_ as_ bl_ me_ co_ Q_ 8 D cmcl (mo_sh cs ad) 16 16 ad Jd [(0, .ref (ad 0)), (1, .int (zi till)), (2, .int (zi n3)), (3, .int (zi (t : Int))), (4, .int (zi rl)), (5, .int (zi al)), (6, .int (zi (a : Int))), (7, .int (zi (b : Int)))] 89 [] := by
                intro nf
                induction nf with
                | zero => intro b n3 Jd hab ha4 hJd hn; exact absurd hn (Nat.not_lt_zero _)
                | succ nf ih89 =>
                  intro b n3 Jd hab ha4 hJd hn89
                  have hln := LD_len (c := c) (t := t) (i := i) (a := a) (al := al) (show b ≤ 4 by omega)
                  have hn3 := hJd.1
                  have hrc := rul_c hi8
                  refine mk_iload (nx := 91) X 7 d_Mo_judge_89 rfl rfl ?_
                  refine mk_iload (nx := 93) X 5 d_Mo_judge_91 rfl rfl ?_
                  refine mk_if_eq (tgt := 103) (nx := 96) X d_Mo_judge_93 (by omega) (by decide) rfl (fun c93 => ?_) (fun c93 => ?_)
                  · skip
                    refine mk_iconst (nx := 104) X d_Mo_judge_103 rfl ?_
                    refine mk_icmp_ge (tgt := 180) (nx := 107) X d_Mo_judge_104 (by omega) (by omega) (by decide) rfl (fun c104 => ?_) (fun c104 => ?_)
                    · skip
                      refine mk_iinc (nx := 183) X 6 [(6, .int (zi ((a : Int) + 1))), (0, .ref (ad 0)), (1, .int (zi till)), (2, .int (zi n3)), (3, .int (zi (t : Int))), (4, .int (zi rl)), (5, .int (zi al)), (7, .int (zi (b : Int)))] d_Mo_judge_180 rfl (by decide) rfl rfl ?_
                      refine mk_goto (tgt := 67) X d_Mo_judge_183 (by decide) ?_
                      refine mk_lv [1, 2, 3, 4, 5, 6, 0] rfl ?_
                      exact ih67 (a + 1) al n3 Jd (by omega) (by omega) (by first | omega | exact fun e => absurd ((rul_c (show i < 8 by omega)).2.1.mpr e) (by omega)) (by first | exact hon | (rw [← hrl]; omega)) (by omega) (by first | (rw [LC_0]; exact hJb) | (obtain rfl : b = a + 1 := (by omega); rw [← LD_ea (al := al) (by omega) (by omega)]; exact hJd) | (obtain rfl : b = 4 := (by omega); rw [← LD_ep (al := al) (by omega) (by omega)]; exact hJd)) (by omega)
                    · skip
                      refine mk_iload (nx := 109) X 5 d_Mo_judge_107 rfl rfl ?_
                      refine mk_if_eq (tgt := 127) (nx := 112) X d_Mo_judge_109 (by omega) (by decide) rfl (fun c109 => ?_) (fun c109 => ?_)
                      · skip
                        refine mk_aloadn (nx := 128) X 0 d_Mo_judge_127 rfl rfl ?_
                        refine mk_iload (nx := 130) X 4 d_Mo_judge_128 rfl rfl ?_
                        refine mk_iload (nx := 132) X 6 d_Mo_judge_130 rfl rfl ?_
                        refine mk_iload (nx := 134) X 7 d_Mo_judge_132 rfl rfl ?_
                        refine mk_iloadn (nx := 135) X 3 d_Mo_judge_134 rfl rfl ?_
                        refine mk_callVi (nx := 138) (n := 4) (As := [.int (zi rl), .int (zi (a : Int)), .int (zi (b : Int)), .int (zi (t : Int))]) (rest := []) X 0 (by decide) (mh_Mo cs ad _) rfl (c_Mo_breaks l D cs ad hi c Jd (moR_fr (fun a b x y => hJd.2.2 a b (by omega)) h) (MoL_jd hJd.2.2 hL) rl (by omega) a b ha4 (by omega) t htt) (g_Mo_breaks wd_784) rfl ⟨rfl, rfl⟩ (by decide +kernel) ⟨by decide, by decide⟩ rfl (Nat.le_of_ble_eq_true rfl) rfl d_Mo_judge_135 rfl ?_
                        intro r135 J1 hJ1
                        obtain ⟨rfl, hr135⟩ := hJ1
                        rw [hrl] at hr135
                        refine mk_if_eq (tgt := 174) (nx := 141) X d_Mo_judge_138 (by omega) (by decide) rfl (fun c138 => ?_) (fun c138 => ?_)
                        · skip
                          refine mk_iinc (nx := 177) X 7 [(7, .int (zi ((b : Int) + 1))), (0, .ref (ad 0)), (1, .int (zi till)), (2, .int (zi n3)), (3, .int (zi (t : Int))), (4, .int (zi rl)), (5, .int (zi al)), (6, .int (zi (a : Int)))] d_Mo_judge_174 rfl (by decide) rfl rfl ?_
                          refine mk_goto (tgt := 89) X d_Mo_judge_177 (by decide) ?_
                          refine mk_lv [1, 2, 3, 4, 5, 6, 7, 0] rfl ?_
                          exact ih89 (b + 1) n3 Jd (by omega) (by omega) (by first | (rw [LD_ia (by omega)]; exact hJc) | (rw [LD_ip (by omega)]; exact hJc) | (obtain rfl : b = a := (by omega); first | (rw [LD_an (by omega) (hr118.resolve_left (by omega)).2]; exact hJd) | (rw [LD_ay (by omega) (hr118.resolve_right (by omega)).2]; exact Jd_add hJd (by omega) hJd hJd hJd hJd)) | (rw [LD_pn (by omega) (hr135.resolve_left (by omega)).2 (by omega)]; exact hJd) | (rw [LD_py (by omega) (hr135.resolve_right (by omega)).2 (by omega)]; exact Jd_add hJd (by omega) hJd hJd hJd hJd)) (by omega)
                        · skip
                          refine mk_iinc (nx := 144) X 2 [(2, .int (zi (n3 + 1))), (0, .ref (ad 0)), (1, .int (zi till)), (3, .int (zi (t : Int))), (4, .int (zi rl)), (5, .int (zi al)), (6, .int (zi (a : Int))), (7, .int (zi (b : Int)))] d_Mo_judge_141 rfl (by decide) rfl rfl ?_
                          refine mk_aloadn (nx := 145) X 1 d_Mo_judge_144 rfl rfl ?_
                          refine mk_iloadn (nx := 146) X 3 d_Mo_judge_145 rfl rfl ?_
                          refine mk_putf (nx := 149) (ty := .int) X t_Mo t_Mo_ok n_Mo 0 (by decide) (mh_Mo cs ad _) rfl in_Mo 20 (by decide) wd_615 rfl rfl (by decide +kernel) rfl rfl (Nat.le_of_ble_eq_true rfl) ((mh_Mo cs ad _).trans rfl) d_Mo_judge_146 rfl ?_
                          obtain ⟨J2, hJ2⟩ : ∃ W_ : Wo, W_ = up2 Jd 0 20 (t : Int) := ⟨_, rfl⟩
                          refine mk_same hJ2.symm ?_
                          have hJ2s : J2 0 20 = (t : Int) := hJ2 ▸ up2_ss Jd 0 20 (t : Int)
                          have hJ2o : ∀ a b, (a ≠ 0 ∨ b ≠ 20) → J2 a b = Jd a b := hJ2 ▸ up2_o Jd 0 20 (t : Int)
                          refine mk_aloadn (nx := 150) X 1 d_Mo_judge_149 rfl rfl ?_
                          refine mk_iload (nx := 152) X 4 d_Mo_judge_150 rfl rfl ?_
                          refine mk_putf (nx := 155) (ty := .int) X t_Mo t_Mo_ok n_Mo 0 (by decide) (mh_Mo cs ad _) rfl in_Mo 21 (by decide) wd_616 rfl rfl (by decide +kernel) rfl rfl (Nat.le_of_ble_eq_true rfl) ((mh_Mo cs ad _).trans rfl) d_Mo_judge_152 rfl ?_
                          obtain ⟨J3, hJ3⟩ : ∃ W_ : Wo, W_ = up2 J2 0 21 rl := ⟨_, rfl⟩
                          refine mk_same hJ3.symm ?_
                          have hJ3s : J3 0 21 = rl := hJ3 ▸ up2_ss J2 0 21 rl
                          have hJ3o : ∀ a b, (a ≠ 0 ∨ b ≠ 21) → J3 a b = J2 a b := hJ3 ▸ up2_o J2 0 21 rl
                          refine mk_aloadn (nx := 156) X 1 d_Mo_judge_155 rfl rfl ?_
                          refine mk_iload (nx := 158) X 6 d_Mo_judge_156 rfl rfl ?_
                          refine mk_putf (nx := 161) (ty := .int) X t_Mo t_Mo_ok n_Mo 0 (by decide) (mh_Mo cs ad _) rfl in_Mo 22 (by decide) wd_617 rfl rfl (by decide +kernel) rfl rfl (Nat.le_of_ble_eq_true rfl) ((mh_Mo cs ad _).trans rfl) d_Mo_judge_158 rfl ?_
                          obtain ⟨J4, hJ4⟩ : ∃ W_ : Wo, W_ = up2 J3 0 22 (a : Int) := ⟨_, rfl⟩
                          refine mk_same hJ4.symm ?_
                          have hJ4s : J4 0 22 = (a : Int) := hJ4 ▸ up2_ss J3 0 22 (a : Int)
                          have hJ4o : ∀ a b, (a ≠ 0 ∨ b ≠ 22) → J4 a b = J3 a b := hJ4 ▸ up2_o J3 0 22 (a : Int)
                          refine mk_aloadn (nx := 162) X 1 d_Mo_judge_161 rfl rfl ?_
                          refine mk_iload (nx := 164) X 7 d_Mo_judge_162 rfl rfl ?_
                          refine mk_putf (nx := 167) (ty := .int) X t_Mo t_Mo_ok n_Mo 0 (by decide) (mh_Mo cs ad _) rfl in_Mo 23 (by decide) wd_618 rfl rfl (by decide +kernel) rfl rfl (Nat.le_of_ble_eq_true rfl) ((mh_Mo cs ad _).trans rfl) d_Mo_judge_164 rfl ?_
                          obtain ⟨J5, hJ5⟩ : ∃ W_ : Wo, W_ = up2 J4 0 23 (b : Int) := ⟨_, rfl⟩
                          refine mk_same hJ5.symm ?_
                          have hJ5s : J5 0 23 = (b : Int) := hJ5 ▸ up2_ss J4 0 23 (b : Int)
                          have hJ5o : ∀ a b, (a ≠ 0 ∨ b ≠ 23) → J5 a b = J4 a b := hJ5 ▸ up2_o J4 0 23 (b : Int)
                          refine mk_iloadn (nx := 168) X 0 d_Mo_judge_167 rfl rfl ?_
                          refine mk_iloadn (nx := 169) X 2 d_Mo_judge_168 rfl rfl ?_
                          refine mk_icmp_ne (tgt := 174) (nx := 172) X d_Mo_judge_169 (by omega) (by omega) (by decide) rfl (fun c169 => ?_) (fun c169 => ?_)
                          · skip
                            refine mk_iinc (nx := 177) X 7 [(7, .int (zi ((b : Int) + 1))), (2, .int (zi (n3 + 1))), (0, .ref (ad 0)), (1, .int (zi till)), (3, .int (zi (t : Int))), (4, .int (zi rl)), (5, .int (zi al)), (6, .int (zi (a : Int)))] d_Mo_judge_174 rfl (by decide) rfl rfl ?_
                            refine mk_goto (tgt := 89) X d_Mo_judge_177 (by decide) ?_
                            refine mk_lv [2, 3, 1, 4, 5, 6, 7, 0] rfl ?_
                            exact ih89 (b + 1) (n3 + 1) J5 (by omega) (by omega) (by first | (rw [LD_ia (by omega)]; exact hJc) | (rw [LD_ip (by omega)]; exact hJc) | (obtain rfl : b = a := (by omega); first | (rw [LD_an (by omega) (hr118.resolve_left (by omega)).2]; exact hJd) | (rw [LD_ay (by omega) (hr118.resolve_right (by omega)).2]; exact Jd_add hJd (by omega) hJ2 hJ3 hJ4 hJ5)) | (rw [LD_pn (by omega) (hr135.resolve_left (by omega)).2 (by omega)]; exact hJd) | (rw [LD_py (by omega) (hr135.resolve_right (by omega)).2 (by omega)]; exact Jd_add hJd (by omega) hJ2 hJ3 hJ4 hJ5)) (by omega)
                          · skip
                            refine mk_iloadn (nx := 173) X 0 d_Mo_judge_172 rfl rfl ?_
                            exact hret _ _ _ _ d_Mo_judge_173 (by first | (obtain rfl : b = a := (by omega); exact Jd_ret (x := ((t : Int), rul i, b, b)) hJd (by omega) (by rw [← LD_ay (by omega) (hr118.resolve_right (by omega)).2]; exact LD_pre htt hi8 hi3 hon ha4 (by omega)) hJ2 (by rw [← hrl]; exact hJ3) hJ4 hJ5) | exact Jd_ret (x := ((t : Int), rul i, a, b)) hJd (by omega) (by rw [← LD_py (by omega) (hr135.resolve_right (by omega)).2 (by omega)]; exact LD_pre htt hi8 hi3 hon ha4 (by omega)) hJ2 (by rw [← hrl]; exact hJ3) hJ4 hJ5)
                      · skip
                        refine mk_aloadn (nx := 113) X 0 d_Mo_judge_112 rfl rfl ?_
                        refine mk_iload (nx := 115) X 4 d_Mo_judge_113 rfl rfl ?_
                        refine mk_iload (nx := 117) X 6 d_Mo_judge_115 rfl rfl ?_
                        refine mk_iloadn (nx := 118) X 3 d_Mo_judge_117 rfl rfl ?_
                        refine mk_callVi (nx := 121) (n := 3) (As := [.int (zi rl), .int (zi (a : Int)), .int (zi (t : Int))]) (rest := []) X 0 (by decide) (mh_Mo cs ad _) rfl (c_Mo_breaksAlone l D cs ad hi c Jd (moR_fr (fun a b x y => hJd.2.2 a b (by omega)) h) (MoL_jd hJd.2.2 hL) rl (by omega) a ha4 t htt) (g_Mo_breaksAlone wd_772) rfl ⟨rfl, rfl⟩ (by decide +kernel) ⟨by decide, by decide⟩ rfl (Nat.le_of_ble_eq_true rfl) rfl d_Mo_judge_118 rfl ?_
                        intro r118 J6 hJ6
                        obtain ⟨rfl, hr118⟩ := hJ6
                        rw [hrl] at hr118
                        refine mk_if_eq (tgt := 174) (nx := 124) X d_Mo_judge_121 (by omega) (by decide) rfl (fun c121 => ?_) (fun c121 => ?_)
                        · skip
                          refine mk_iinc (nx := 177) X 7 [(7, .int (zi ((b : Int) + 1))), (0, .ref (ad 0)), (1, .int (zi till)), (2, .int (zi n3)), (3, .int (zi (t : Int))), (4, .int (zi rl)), (5, .int (zi al)), (6, .int (zi (a : Int)))] d_Mo_judge_174 rfl (by decide) rfl rfl ?_
                          refine mk_goto (tgt := 89) X d_Mo_judge_177 (by decide) ?_
                          refine mk_lv [1, 2, 3, 4, 5, 6, 7, 0] rfl ?_
                          exact ih89 (b + 1) n3 Jd (by omega) (by omega) (by first | (rw [LD_ia (by omega)]; exact hJc) | (rw [LD_ip (by omega)]; exact hJc) | (obtain rfl : b = a := (by omega); first | (rw [LD_an (by omega) (hr118.resolve_left (by omega)).2]; exact hJd) | (rw [LD_ay (by omega) (hr118.resolve_right (by omega)).2]; exact Jd_add hJd (by omega) hJd hJd hJd hJd)) | (rw [LD_pn (by omega) (hr135.resolve_left (by omega)).2 (by omega)]; exact hJd) | (rw [LD_py (by omega) (hr135.resolve_right (by omega)).2 (by omega)]; exact Jd_add hJd (by omega) hJd hJd hJd hJd)) (by omega)
                        · skip
                          refine mk_goto (tgt := 141) X d_Mo_judge_124 (by decide) ?_
                          refine mk_iinc (nx := 144) X 2 [(2, .int (zi (n3 + 1))), (0, .ref (ad 0)), (1, .int (zi till)), (3, .int (zi (t : Int))), (4, .int (zi rl)), (5, .int (zi al)), (6, .int (zi (a : Int))), (7, .int (zi (b : Int)))] d_Mo_judge_141 rfl (by decide) rfl rfl ?_
                          refine mk_aloadn (nx := 145) X 1 d_Mo_judge_144 rfl rfl ?_
                          refine mk_iloadn (nx := 146) X 3 d_Mo_judge_145 rfl rfl ?_
                          refine mk_putf (nx := 149) (ty := .int) X t_Mo t_Mo_ok n_Mo 0 (by decide) (mh_Mo cs ad _) rfl in_Mo 20 (by decide) wd_615 rfl rfl (by decide +kernel) rfl rfl (Nat.le_of_ble_eq_true rfl) ((mh_Mo cs ad _).trans rfl) d_Mo_judge_146 rfl ?_
                          obtain ⟨J7, hJ7⟩ : ∃ W_ : Wo, W_ = up2 Jd 0 20 (t : Int) := ⟨_, rfl⟩
                          refine mk_same hJ7.symm ?_
                          have hJ7s : J7 0 20 = (t : Int) := hJ7 ▸ up2_ss Jd 0 20 (t : Int)
                          have hJ7o : ∀ a b, (a ≠ 0 ∨ b ≠ 20) → J7 a b = Jd a b := hJ7 ▸ up2_o Jd 0 20 (t : Int)
                          refine mk_aloadn (nx := 150) X 1 d_Mo_judge_149 rfl rfl ?_
                          refine mk_iload (nx := 152) X 4 d_Mo_judge_150 rfl rfl ?_
                          refine mk_putf (nx := 155) (ty := .int) X t_Mo t_Mo_ok n_Mo 0 (by decide) (mh_Mo cs ad _) rfl in_Mo 21 (by decide) wd_616 rfl rfl (by decide +kernel) rfl rfl (Nat.le_of_ble_eq_true rfl) ((mh_Mo cs ad _).trans rfl) d_Mo_judge_152 rfl ?_
                          obtain ⟨J8, hJ8⟩ : ∃ W_ : Wo, W_ = up2 J7 0 21 rl := ⟨_, rfl⟩
                          refine mk_same hJ8.symm ?_
                          have hJ8s : J8 0 21 = rl := hJ8 ▸ up2_ss J7 0 21 rl
                          have hJ8o : ∀ a b, (a ≠ 0 ∨ b ≠ 21) → J8 a b = J7 a b := hJ8 ▸ up2_o J7 0 21 rl
                          refine mk_aloadn (nx := 156) X 1 d_Mo_judge_155 rfl rfl ?_
                          refine mk_iload (nx := 158) X 6 d_Mo_judge_156 rfl rfl ?_
                          refine mk_putf (nx := 161) (ty := .int) X t_Mo t_Mo_ok n_Mo 0 (by decide) (mh_Mo cs ad _) rfl in_Mo 22 (by decide) wd_617 rfl rfl (by decide +kernel) rfl rfl (Nat.le_of_ble_eq_true rfl) ((mh_Mo cs ad _).trans rfl) d_Mo_judge_158 rfl ?_
                          obtain ⟨J9, hJ9⟩ : ∃ W_ : Wo, W_ = up2 J8 0 22 (a : Int) := ⟨_, rfl⟩
                          refine mk_same hJ9.symm ?_
                          have hJ9s : J9 0 22 = (a : Int) := hJ9 ▸ up2_ss J8 0 22 (a : Int)
                          have hJ9o : ∀ a b, (a ≠ 0 ∨ b ≠ 22) → J9 a b = J8 a b := hJ9 ▸ up2_o J8 0 22 (a : Int)
                          refine mk_aloadn (nx := 162) X 1 d_Mo_judge_161 rfl rfl ?_
                          refine mk_iload (nx := 164) X 7 d_Mo_judge_162 rfl rfl ?_
                          refine mk_putf (nx := 167) (ty := .int) X t_Mo t_Mo_ok n_Mo 0 (by decide) (mh_Mo cs ad _) rfl in_Mo 23 (by decide) wd_618 rfl rfl (by decide +kernel) rfl rfl (Nat.le_of_ble_eq_true rfl) ((mh_Mo cs ad _).trans rfl) d_Mo_judge_164 rfl ?_
                          obtain ⟨J10, hJ10⟩ : ∃ W_ : Wo, W_ = up2 J9 0 23 (b : Int) := ⟨_, rfl⟩
                          refine mk_same hJ10.symm ?_
                          have hJ10s : J10 0 23 = (b : Int) := hJ10 ▸ up2_ss J9 0 23 (b : Int)
                          have hJ10o : ∀ a b, (a ≠ 0 ∨ b ≠ 23) → J10 a b = J9 a b := hJ10 ▸ up2_o J9 0 23 (b : Int)
                          refine mk_iloadn (nx := 168) X 0 d_Mo_judge_167 rfl rfl ?_
                          refine mk_iloadn (nx := 169) X 2 d_Mo_judge_168 rfl rfl ?_
                          refine mk_icmp_ne (tgt := 174) (nx := 172) X d_Mo_judge_169 (by omega) (by omega) (by decide) rfl (fun c169 => ?_) (fun c169 => ?_)
                          · skip
                            refine mk_iinc (nx := 177) X 7 [(7, .int (zi ((b : Int) + 1))), (2, .int (zi (n3 + 1))), (0, .ref (ad 0)), (1, .int (zi till)), (3, .int (zi (t : Int))), (4, .int (zi rl)), (5, .int (zi al)), (6, .int (zi (a : Int)))] d_Mo_judge_174 rfl (by decide) rfl rfl ?_
                            refine mk_goto (tgt := 89) X d_Mo_judge_177 (by decide) ?_
                            refine mk_lv [2, 3, 1, 4, 5, 6, 7, 0] rfl ?_
                            exact ih89 (b + 1) (n3 + 1) J10 (by omega) (by omega) (by first | (rw [LD_ia (by omega)]; exact hJc) | (rw [LD_ip (by omega)]; exact hJc) | (obtain rfl : b = a := (by omega); first | (rw [LD_an (by omega) (hr118.resolve_left (by omega)).2]; exact hJd) | (rw [LD_ay (by omega) (hr118.resolve_right (by omega)).2]; exact Jd_add hJd (by omega) hJ7 hJ8 hJ9 hJ10)) | (rw [LD_pn (by omega) (hr135.resolve_left (by omega)).2 (by omega)]; exact hJd) | (rw [LD_py (by omega) (hr135.resolve_right (by omega)).2 (by omega)]; exact Jd_add hJd (by omega) hJ7 hJ8 hJ9 hJ10)) (by omega)
                          · skip
                            refine mk_iloadn (nx := 173) X 0 d_Mo_judge_172 rfl rfl ?_
                            exact hret _ _ _ _ d_Mo_judge_173 (by first | (obtain rfl : b = a := (by omega); exact Jd_ret (x := ((t : Int), rul i, b, b)) hJd (by omega) (by rw [← LD_ay (by omega) (hr118.resolve_right (by omega)).2]; exact LD_pre htt hi8 hi3 hon ha4 (by omega)) hJ7 (by rw [← hrl]; exact hJ8) hJ9 hJ10) | exact Jd_ret (x := ((t : Int), rul i, a, b)) hJd (by omega) (by rw [← LD_py (by omega) (hr135.resolve_right (by omega)).2 (by omega)]; exact LD_pre htt hi8 hi3 hon ha4 (by omega)) hJ7 (by rw [← hrl]; exact hJ8) hJ9 hJ10)
                  · skip
                    refine mk_iload (nx := 98) X 6 d_Mo_judge_96 rfl rfl ?_
                    refine mk_iconst (nx := 99) X d_Mo_judge_98 rfl ?_
                    refine mk_iadd (nx := 100) X d_Mo_judge_99 rfl ?_
                    refine mk_goto (tgt := 104) X d_Mo_judge_100 (by decide) ?_
                    refine mk_icmp_ge (tgt := 180) (nx := 107) X d_Mo_judge_104 (by omega) (by omega) (by decide) rfl (fun c104 => ?_) (fun c104 => ?_)
                    · skip
                      refine mk_iinc (nx := 183) X 6 [(6, .int (zi ((a : Int) + 1))), (0, .ref (ad 0)), (1, .int (zi till)), (2, .int (zi n3)), (3, .int (zi (t : Int))), (4, .int (zi rl)), (5, .int (zi al)), (7, .int (zi (b : Int)))] d_Mo_judge_180 rfl (by decide) rfl rfl ?_
                      refine mk_goto (tgt := 67) X d_Mo_judge_183 (by decide) ?_
                      refine mk_lv [1, 2, 3, 4, 5, 6, 0] rfl ?_
                      exact ih67 (a + 1) al n3 Jd (by omega) (by omega) (by first | omega | exact fun e => absurd ((rul_c (show i < 8 by omega)).2.1.mpr e) (by omega)) (by first | exact hon | (rw [← hrl]; omega)) (by omega) (by first | (rw [LC_0]; exact hJb) | (obtain rfl : b = a + 1 := (by omega); rw [← LD_ea (al := al) (by omega) (by omega)]; exact hJd) | (obtain rfl : b = 4 := (by omega); rw [← LD_ep (al := al) (by omega) (by omega)]; exact hJd)) (by omega)
                    · skip
                      refine mk_iload (nx := 109) X 5 d_Mo_judge_107 rfl rfl ?_
                      refine mk_if_eq (tgt := 127) (nx := 112) X d_Mo_judge_109 (by omega) (by decide) rfl (fun c109 => ?_) (fun c109 => ?_)
                      · skip
                        refine mk_aloadn (nx := 128) X 0 d_Mo_judge_127 rfl rfl ?_
                        refine mk_iload (nx := 130) X 4 d_Mo_judge_128 rfl rfl ?_
                        refine mk_iload (nx := 132) X 6 d_Mo_judge_130 rfl rfl ?_
                        refine mk_iload (nx := 134) X 7 d_Mo_judge_132 rfl rfl ?_
                        refine mk_iloadn (nx := 135) X 3 d_Mo_judge_134 rfl rfl ?_
                        refine mk_callVi (nx := 138) (n := 4) (As := [.int (zi rl), .int (zi (a : Int)), .int (zi (b : Int)), .int (zi (t : Int))]) (rest := []) X 0 (by decide) (mh_Mo cs ad _) rfl (c_Mo_breaks l D cs ad hi c Jd (moR_fr (fun a b x y => hJd.2.2 a b (by omega)) h) (MoL_jd hJd.2.2 hL) rl (by omega) a b ha4 (by omega) t htt) (g_Mo_breaks wd_784) rfl ⟨rfl, rfl⟩ (by decide +kernel) ⟨by decide, by decide⟩ rfl (Nat.le_of_ble_eq_true rfl) rfl d_Mo_judge_135 rfl ?_
                        intro r135 J11 hJ11
                        obtain ⟨rfl, hr135⟩ := hJ11
                        rw [hrl] at hr135
                        refine mk_if_eq (tgt := 174) (nx := 141) X d_Mo_judge_138 (by omega) (by decide) rfl (fun c138 => ?_) (fun c138 => ?_)
                        · skip
                          refine mk_iinc (nx := 177) X 7 [(7, .int (zi ((b : Int) + 1))), (0, .ref (ad 0)), (1, .int (zi till)), (2, .int (zi n3)), (3, .int (zi (t : Int))), (4, .int (zi rl)), (5, .int (zi al)), (6, .int (zi (a : Int)))] d_Mo_judge_174 rfl (by decide) rfl rfl ?_
                          refine mk_goto (tgt := 89) X d_Mo_judge_177 (by decide) ?_
                          refine mk_lv [1, 2, 3, 4, 5, 6, 7, 0] rfl ?_
                          exact ih89 (b + 1) n3 Jd (by omega) (by omega) (by first | (rw [LD_ia (by omega)]; exact hJc) | (rw [LD_ip (by omega)]; exact hJc) | (obtain rfl : b = a := (by omega); first | (rw [LD_an (by omega) (hr118.resolve_left (by omega)).2]; exact hJd) | (rw [LD_ay (by omega) (hr118.resolve_right (by omega)).2]; exact Jd_add hJd (by omega) hJd hJd hJd hJd)) | (rw [LD_pn (by omega) (hr135.resolve_left (by omega)).2 (by omega)]; exact hJd) | (rw [LD_py (by omega) (hr135.resolve_right (by omega)).2 (by omega)]; exact Jd_add hJd (by omega) hJd hJd hJd hJd)) (by omega)
                        · skip
                          refine mk_iinc (nx := 144) X 2 [(2, .int (zi (n3 + 1))), (0, .ref (ad 0)), (1, .int (zi till)), (3, .int (zi (t : Int))), (4, .int (zi rl)), (5, .int (zi al)), (6, .int (zi (a : Int))), (7, .int (zi (b : Int)))] d_Mo_judge_141 rfl (by decide) rfl rfl ?_
                          refine mk_aloadn (nx := 145) X 1 d_Mo_judge_144 rfl rfl ?_
                          refine mk_iloadn (nx := 146) X 3 d_Mo_judge_145 rfl rfl ?_
                          refine mk_putf (nx := 149) (ty := .int) X t_Mo t_Mo_ok n_Mo 0 (by decide) (mh_Mo cs ad _) rfl in_Mo 20 (by decide) wd_615 rfl rfl (by decide +kernel) rfl rfl (Nat.le_of_ble_eq_true rfl) ((mh_Mo cs ad _).trans rfl) d_Mo_judge_146 rfl ?_
                          obtain ⟨J12, hJ12⟩ : ∃ W_ : Wo, W_ = up2 Jd 0 20 (t : Int) := ⟨_, rfl⟩
                          refine mk_same hJ12.symm ?_
                          have hJ12s : J12 0 20 = (t : Int) := hJ12 ▸ up2_ss Jd 0 20 (t : Int)
                          have hJ12o : ∀ a b, (a ≠ 0 ∨ b ≠ 20) → J12 a b = Jd a b := hJ12 ▸ up2_o Jd 0 20 (t : Int)
                          refine mk_aloadn (nx := 150) X 1 d_Mo_judge_149 rfl rfl ?_
                          refine mk_iload (nx := 152) X 4 d_Mo_judge_150 rfl rfl ?_
                          refine mk_putf (nx := 155) (ty := .int) X t_Mo t_Mo_ok n_Mo 0 (by decide) (mh_Mo cs ad _) rfl in_Mo 21 (by decide) wd_616 rfl rfl (by decide +kernel) rfl rfl (Nat.le_of_ble_eq_true rfl) ((mh_Mo cs ad _).trans rfl) d_Mo_judge_152 rfl ?_
                          obtain ⟨J13, hJ13⟩ : ∃ W_ : Wo, W_ = up2 J12 0 21 rl := ⟨_, rfl⟩
                          refine mk_same hJ13.symm ?_
                          have hJ13s : J13 0 21 = rl := hJ13 ▸ up2_ss J12 0 21 rl
                          have hJ13o : ∀ a b, (a ≠ 0 ∨ b ≠ 21) → J13 a b = J12 a b := hJ13 ▸ up2_o J12 0 21 rl
                          refine mk_aloadn (nx := 156) X 1 d_Mo_judge_155 rfl rfl ?_
                          refine mk_iload (nx := 158) X 6 d_Mo_judge_156 rfl rfl ?_
                          refine mk_putf (nx := 161) (ty := .int) X t_Mo t_Mo_ok n_Mo 0 (by decide) (mh_Mo cs ad _) rfl in_Mo 22 (by decide) wd_617 rfl rfl (by decide +kernel) rfl rfl (Nat.le_of_ble_eq_true rfl) ((mh_Mo cs ad _).trans rfl) d_Mo_judge_158 rfl ?_
                          obtain ⟨J14, hJ14⟩ : ∃ W_ : Wo, W_ = up2 J13 0 22 (a : Int) := ⟨_, rfl⟩
                          refine mk_same hJ14.symm ?_
                          have hJ14s : J14 0 22 = (a : Int) := hJ14 ▸ up2_ss J13 0 22 (a : Int)
                          have hJ14o : ∀ a b, (a ≠ 0 ∨ b ≠ 22) → J14 a b = J13 a b := hJ14 ▸ up2_o J13 0 22 (a : Int)
                          refine mk_aloadn (nx := 162) X 1 d_Mo_judge_161 rfl rfl ?_
                          refine mk_iload (nx := 164) X 7 d_Mo_judge_162 rfl rfl ?_
                          refine mk_putf (nx := 167) (ty := .int) X t_Mo t_Mo_ok n_Mo 0 (by decide) (mh_Mo cs ad _) rfl in_Mo 23 (by decide) wd_618 rfl rfl (by decide +kernel) rfl rfl (Nat.le_of_ble_eq_true rfl) ((mh_Mo cs ad _).trans rfl) d_Mo_judge_164 rfl ?_
                          obtain ⟨J15, hJ15⟩ : ∃ W_ : Wo, W_ = up2 J14 0 23 (b : Int) := ⟨_, rfl⟩
                          refine mk_same hJ15.symm ?_
                          have hJ15s : J15 0 23 = (b : Int) := hJ15 ▸ up2_ss J14 0 23 (b : Int)
                          have hJ15o : ∀ a b, (a ≠ 0 ∨ b ≠ 23) → J15 a b = J14 a b := hJ15 ▸ up2_o J14 0 23 (b : Int)
                          refine mk_iloadn (nx := 168) X 0 d_Mo_judge_167 rfl rfl ?_
                          refine mk_iloadn (nx := 169) X 2 d_Mo_judge_168 rfl rfl ?_
                          refine mk_icmp_ne (tgt := 174) (nx := 172) X d_Mo_judge_169 (by omega) (by omega) (by decide) rfl (fun c169 => ?_) (fun c169 => ?_)
                          · skip
                            refine mk_iinc (nx := 177) X 7 [(7, .int (zi ((b : Int) + 1))), (2, .int (zi (n3 + 1))), (0, .ref (ad 0)), (1, .int (zi till)), (3, .int (zi (t : Int))), (4, .int (zi rl)), (5, .int (zi al)), (6, .int (zi (a : Int)))] d_Mo_judge_174 rfl (by decide) rfl rfl ?_
                            refine mk_goto (tgt := 89) X d_Mo_judge_177 (by decide) ?_
                            refine mk_lv [2, 3, 1, 4, 5, 6, 7, 0] rfl ?_
                            exact ih89 (b + 1) (n3 + 1) J15 (by omega) (by omega) (by first | (rw [LD_ia (by omega)]; exact hJc) | (rw [LD_ip (by omega)]; exact hJc) | (obtain rfl : b = a := (by omega); first | (rw [LD_an (by omega) (hr118.resolve_left (by omega)).2]; exact hJd) | (rw [LD_ay (by omega) (hr118.resolve_right (by omega)).2]; exact Jd_add hJd (by omega) hJ12 hJ13 hJ14 hJ15)) | (rw [LD_pn (by omega) (hr135.resolve_left (by omega)).2 (by omega)]; exact hJd) | (rw [LD_py (by omega) (hr135.resolve_right (by omega)).2 (by omega)]; exact Jd_add hJd (by omega) hJ12 hJ13 hJ14 hJ15)) (by omega)
                          · skip
                            refine mk_iloadn (nx := 173) X 0 d_Mo_judge_172 rfl rfl ?_
                            exact hret _ _ _ _ d_Mo_judge_173 (by first | (obtain rfl : b = a := (by omega); exact Jd_ret (x := ((t : Int), rul i, b, b)) hJd (by omega) (by rw [← LD_ay (by omega) (hr118.resolve_right (by omega)).2]; exact LD_pre htt hi8 hi3 hon ha4 (by omega)) hJ12 (by rw [← hrl]; exact hJ13) hJ14 hJ15) | exact Jd_ret (x := ((t : Int), rul i, a, b)) hJd (by omega) (by rw [← LD_py (by omega) (hr135.resolve_right (by omega)).2 (by omega)]; exact LD_pre htt hi8 hi3 hon ha4 (by omega)) hJ12 (by rw [← hrl]; exact hJ13) hJ14 hJ15)
                      · skip
                        refine mk_aloadn (nx := 113) X 0 d_Mo_judge_112 rfl rfl ?_
                        refine mk_iload (nx := 115) X 4 d_Mo_judge_113 rfl rfl ?_
                        refine mk_iload (nx := 117) X 6 d_Mo_judge_115 rfl rfl ?_
                        refine mk_iloadn (nx := 118) X 3 d_Mo_judge_117 rfl rfl ?_
                        refine mk_callVi (nx := 121) (n := 3) (As := [.int (zi rl), .int (zi (a : Int)), .int (zi (t : Int))]) (rest := []) X 0 (by decide) (mh_Mo cs ad _) rfl (c_Mo_breaksAlone l D cs ad hi c Jd (moR_fr (fun a b x y => hJd.2.2 a b (by omega)) h) (MoL_jd hJd.2.2 hL) rl (by omega) a ha4 t htt) (g_Mo_breaksAlone wd_772) rfl ⟨rfl, rfl⟩ (by decide +kernel) ⟨by decide, by decide⟩ rfl (Nat.le_of_ble_eq_true rfl) rfl d_Mo_judge_118 rfl ?_
                        intro r118 J16 hJ16
                        obtain ⟨rfl, hr118⟩ := hJ16
                        rw [hrl] at hr118
                        refine mk_if_eq (tgt := 174) (nx := 124) X d_Mo_judge_121 (by omega) (by decide) rfl (fun c121 => ?_) (fun c121 => ?_)
                        · skip
                          refine mk_iinc (nx := 177) X 7 [(7, .int (zi ((b : Int) + 1))), (0, .ref (ad 0)), (1, .int (zi till)), (2, .int (zi n3)), (3, .int (zi (t : Int))), (4, .int (zi rl)), (5, .int (zi al)), (6, .int (zi (a : Int)))] d_Mo_judge_174 rfl (by decide) rfl rfl ?_
                          refine mk_goto (tgt := 89) X d_Mo_judge_177 (by decide) ?_
                          refine mk_lv [1, 2, 3, 4, 5, 6, 7, 0] rfl ?_
                          exact ih89 (b + 1) n3 Jd (by omega) (by omega) (by first | (rw [LD_ia (by omega)]; exact hJc) | (rw [LD_ip (by omega)]; exact hJc) | (obtain rfl : b = a := (by omega); first | (rw [LD_an (by omega) (hr118.resolve_left (by omega)).2]; exact hJd) | (rw [LD_ay (by omega) (hr118.resolve_right (by omega)).2]; exact Jd_add hJd (by omega) hJd hJd hJd hJd)) | (rw [LD_pn (by omega) (hr135.resolve_left (by omega)).2 (by omega)]; exact hJd) | (rw [LD_py (by omega) (hr135.resolve_right (by omega)).2 (by omega)]; exact Jd_add hJd (by omega) hJd hJd hJd hJd)) (by omega)
                        · skip
                          refine mk_goto (tgt := 141) X d_Mo_judge_124 (by decide) ?_
                          refine mk_iinc (nx := 144) X 2 [(2, .int (zi (n3 + 1))), (0, .ref (ad 0)), (1, .int (zi till)), (3, .int (zi (t : Int))), (4, .int (zi rl)), (5, .int (zi al)), (6, .int (zi (a : Int))), (7, .int (zi (b : Int)))] d_Mo_judge_141 rfl (by decide) rfl rfl ?_
                          refine mk_aloadn (nx := 145) X 1 d_Mo_judge_144 rfl rfl ?_
                          refine mk_iloadn (nx := 146) X 3 d_Mo_judge_145 rfl rfl ?_
                          refine mk_putf (nx := 149) (ty := .int) X t_Mo t_Mo_ok n_Mo 0 (by decide) (mh_Mo cs ad _) rfl in_Mo 20 (by decide) wd_615 rfl rfl (by decide +kernel) rfl rfl (Nat.le_of_ble_eq_true rfl) ((mh_Mo cs ad _).trans rfl) d_Mo_judge_146 rfl ?_
                          obtain ⟨J17, hJ17⟩ : ∃ W_ : Wo, W_ = up2 Jd 0 20 (t : Int) := ⟨_, rfl⟩
                          refine mk_same hJ17.symm ?_
                          have hJ17s : J17 0 20 = (t : Int) := hJ17 ▸ up2_ss Jd 0 20 (t : Int)
                          have hJ17o : ∀ a b, (a ≠ 0 ∨ b ≠ 20) → J17 a b = Jd a b := hJ17 ▸ up2_o Jd 0 20 (t : Int)
                          refine mk_aloadn (nx := 150) X 1 d_Mo_judge_149 rfl rfl ?_
                          refine mk_iload (nx := 152) X 4 d_Mo_judge_150 rfl rfl ?_
                          refine mk_putf (nx := 155) (ty := .int) X t_Mo t_Mo_ok n_Mo 0 (by decide) (mh_Mo cs ad _) rfl in_Mo 21 (by decide) wd_616 rfl rfl (by decide +kernel) rfl rfl (Nat.le_of_ble_eq_true rfl) ((mh_Mo cs ad _).trans rfl) d_Mo_judge_152 rfl ?_
                          obtain ⟨J18, hJ18⟩ : ∃ W_ : Wo, W_ = up2 J17 0 21 rl := ⟨_, rfl⟩
                          refine mk_same hJ18.symm ?_
                          have hJ18s : J18 0 21 = rl := hJ18 ▸ up2_ss J17 0 21 rl
                          have hJ18o : ∀ a b, (a ≠ 0 ∨ b ≠ 21) → J18 a b = J17 a b := hJ18 ▸ up2_o J17 0 21 rl
                          refine mk_aloadn (nx := 156) X 1 d_Mo_judge_155 rfl rfl ?_
                          refine mk_iload (nx := 158) X 6 d_Mo_judge_156 rfl rfl ?_
                          refine mk_putf (nx := 161) (ty := .int) X t_Mo t_Mo_ok n_Mo 0 (by decide) (mh_Mo cs ad _) rfl in_Mo 22 (by decide) wd_617 rfl rfl (by decide +kernel) rfl rfl (Nat.le_of_ble_eq_true rfl) ((mh_Mo cs ad _).trans rfl) d_Mo_judge_158 rfl ?_
                          obtain ⟨J19, hJ19⟩ : ∃ W_ : Wo, W_ = up2 J18 0 22 (a : Int) := ⟨_, rfl⟩
                          refine mk_same hJ19.symm ?_
                          have hJ19s : J19 0 22 = (a : Int) := hJ19 ▸ up2_ss J18 0 22 (a : Int)
                          have hJ19o : ∀ a b, (a ≠ 0 ∨ b ≠ 22) → J19 a b = J18 a b := hJ19 ▸ up2_o J18 0 22 (a : Int)
                          refine mk_aloadn (nx := 162) X 1 d_Mo_judge_161 rfl rfl ?_
                          refine mk_iload (nx := 164) X 7 d_Mo_judge_162 rfl rfl ?_
                          refine mk_putf (nx := 167) (ty := .int) X t_Mo t_Mo_ok n_Mo 0 (by decide) (mh_Mo cs ad _) rfl in_Mo 23 (by decide) wd_618 rfl rfl (by decide +kernel) rfl rfl (Nat.le_of_ble_eq_true rfl) ((mh_Mo cs ad _).trans rfl) d_Mo_judge_164 rfl ?_
                          obtain ⟨J20, hJ20⟩ : ∃ W_ : Wo, W_ = up2 J19 0 23 (b : Int) := ⟨_, rfl⟩
                          refine mk_same hJ20.symm ?_
                          have hJ20s : J20 0 23 = (b : Int) := hJ20 ▸ up2_ss J19 0 23 (b : Int)
                          have hJ20o : ∀ a b, (a ≠ 0 ∨ b ≠ 23) → J20 a b = J19 a b := hJ20 ▸ up2_o J19 0 23 (b : Int)
                          refine mk_iloadn (nx := 168) X 0 d_Mo_judge_167 rfl rfl ?_
                          refine mk_iloadn (nx := 169) X 2 d_Mo_judge_168 rfl rfl ?_
                          refine mk_icmp_ne (tgt := 174) (nx := 172) X d_Mo_judge_169 (by omega) (by omega) (by decide) rfl (fun c169 => ?_) (fun c169 => ?_)
                          · skip
                            refine mk_iinc (nx := 177) X 7 [(7, .int (zi ((b : Int) + 1))), (2, .int (zi (n3 + 1))), (0, .ref (ad 0)), (1, .int (zi till)), (3, .int (zi (t : Int))), (4, .int (zi rl)), (5, .int (zi al)), (6, .int (zi (a : Int)))] d_Mo_judge_174 rfl (by decide) rfl rfl ?_
                            refine mk_goto (tgt := 89) X d_Mo_judge_177 (by decide) ?_
                            refine mk_lv [2, 3, 1, 4, 5, 6, 7, 0] rfl ?_
                            exact ih89 (b + 1) (n3 + 1) J20 (by omega) (by omega) (by first | (rw [LD_ia (by omega)]; exact hJc) | (rw [LD_ip (by omega)]; exact hJc) | (obtain rfl : b = a := (by omega); first | (rw [LD_an (by omega) (hr118.resolve_left (by omega)).2]; exact hJd) | (rw [LD_ay (by omega) (hr118.resolve_right (by omega)).2]; exact Jd_add hJd (by omega) hJ17 hJ18 hJ19 hJ20)) | (rw [LD_pn (by omega) (hr135.resolve_left (by omega)).2 (by omega)]; exact hJd) | (rw [LD_py (by omega) (hr135.resolve_right (by omega)).2 (by omega)]; exact Jd_add hJd (by omega) hJ17 hJ18 hJ19 hJ20)) (by omega)
                          · skip
                            refine mk_iloadn (nx := 173) X 0 d_Mo_judge_172 rfl rfl ?_
                            exact hret _ _ _ _ d_Mo_judge_173 (by first | (obtain rfl : b = a := (by omega); exact Jd_ret (x := ((t : Int), rul i, b, b)) hJd (by omega) (by rw [← LD_ay (by omega) (hr118.resolve_right (by omega)).2]; exact LD_pre htt hi8 hi3 hon ha4 (by omega)) hJ17 (by rw [← hrl]; exact hJ18) hJ19 hJ20) | exact Jd_ret (x := ((t : Int), rul i, a, b)) hJd (by omega) (by rw [← LD_py (by omega) (hr135.resolve_right (by omega)).2 (by omega)]; exact LD_pre htt hi8 hi3 hon ha4 (by omega)) hJ17 (by rw [← hrl]; exact hJ18) hJ19 hJ20)
              refine mk_iload (nx := 69) X 6 d_Mo_judge_67 rfl rfl ?_
              refine mk_iconst (nx := 70) X d_Mo_judge_69 rfl ?_
              refine mk_icmp_ge (tgt := 186) (nx := 73) X d_Mo_judge_70 (by omega) (by omega) (by decide) rfl (fun c70 => ?_) (fun c70 => ?_)
              · skip
                refine mk_iload (nx := 188) X 4 d_Mo_judge_186 rfl rfl ?_
                refine mk_iconst (nx := 189) X d_Mo_judge_188 rfl ?_
                refine mk_imul (nx := 190) X d_Mo_judge_189 rfl ?_
                refine mk_istore (nx := 192) X [(4, .int (zi (rl * 2))), (0, .ref (ad 0)), (1, .int (zi till)), (2, .int (zi n2)), (3, .int (zi (t : Int))), (5, .int (zi al)), (6, .int (zi (a : Int)))] d_Mo_judge_190 (by decide) rfl rfl ?_
                refine mk_goto (tgt := 15) X d_Mo_judge_192 (by decide) ?_
                refine mk_lv [1, 2, 3, 4, 0] rfl ?_
                exact ih15 (i + 1) (rl * 2) n2 Jc (by omega) (by first | rfl | (have hq := (rul_c (show i < 8 by omega)).1; omega)) (by omega) (by first | (rw [show frs c t 0 = [] from rfl, List.append_nil]; exact hJa) | (rw [LB_k (by first | exact Or.inr (by rw [← hrl]; omega) | exact Or.inl ((rul_c (show i < 8 by omega)).2.1.mp (by omega)))]; exact hJb) | (obtain rfl : a = 4 := (by omega); rw [← LC_e hi3 hon]; exact hJc)) (by omega)
              · skip
                refine mk_iload (nx := 75) X 5 d_Mo_judge_73 rfl rfl ?_
                refine mk_if_eq (tgt := 83) (nx := 78) X d_Mo_judge_75 (by omega) (by decide) rfl (fun c75 => ?_) (fun c75 => ?_)
                · skip
                  refine mk_iload (nx := 85) X 6 d_Mo_judge_83 rfl rfl ?_
                  refine mk_iconst (nx := 86) X d_Mo_judge_85 rfl ?_
                  refine mk_iadd (nx := 87) X d_Mo_judge_86 rfl ?_
                  refine mk_istore (nx := 89) X [(7, .int (zi ((a : Int) + 1))), (0, .ref (ad 0)), (1, .int (zi till)), (2, .int (zi n2)), (3, .int (zi (t : Int))), (4, .int (zi rl)), (5, .int (zi al)), (6, .int (zi (a : Int)))] d_Mo_judge_87 (by decide) rfl rfl ?_
                  refine mk_lv [1, 2, 3, 4, 5, 6, 7, 0] rfl ?_
                  exact L89 _ (a + 1) n2 Jc (by omega) (by omega) (by first | (rw [LD_ia (by omega)]; exact hJc) | (rw [LD_ip (by omega)]; exact hJc) | (obtain rfl : b = a := (by omega); first | (rw [LD_an (by omega) (hr118.resolve_left (by omega)).2]; exact hJd) | (rw [LD_ay (by omega) (hr118.resolve_right (by omega)).2]; exact Jd_add hJd (by omega) hJc hJc hJc hJc)) | (rw [LD_pn (by omega) (hr135.resolve_left (by omega)).2 (by omega)]; exact hJd) | (rw [LD_py (by omega) (hr135.resolve_right (by omega)).2 (by omega)]; exact Jd_add hJd (by omega) hJc hJc hJc hJc)) (Nat.lt_succ_self _)
                · skip
                  refine mk_iload (nx := 80) X 6 d_Mo_judge_78 rfl rfl ?_
                  refine mk_goto (tgt := 87) X d_Mo_judge_80 (by decide) ?_
                  refine mk_istore (nx := 89) X [(7, .int (zi (a : Int))), (0, .ref (ad 0)), (1, .int (zi till)), (2, .int (zi n2)), (3, .int (zi (t : Int))), (4, .int (zi rl)), (5, .int (zi al)), (6, .int (zi (a : Int)))] d_Mo_judge_87 (by decide) rfl rfl ?_
                  refine mk_lv [1, 2, 3, 4, 5, 6, 7, 0] rfl ?_
                  exact L89 _ a n2 Jc (by omega) (by omega) (by first | (rw [LD_ia (by omega)]; exact hJc) | (rw [LD_ip (by omega)]; exact hJc) | (obtain rfl : b = a := (by omega); first | (rw [LD_an (by omega) (hr118.resolve_left (by omega)).2]; exact hJd) | (rw [LD_ay (by omega) (hr118.resolve_right (by omega)).2]; exact Jd_add hJd (by omega) hJc hJc hJc hJc)) | (rw [LD_pn (by omega) (hr135.resolve_left (by omega)).2 (by omega)]; exact hJd) | (rw [LD_py (by omega) (hr135.resolve_right (by omega)).2 (by omega)]; exact Jd_add hJd (by omega) hJc hJc hJc hJc)) (Nat.lt_succ_self _)
          refine mk_iload (nx := 17) X 4 d_Mo_judge_15 rfl rfl ?_
          refine mk_sipush (nx := 20) X d_Mo_judge_17 (by decide) rfl ?_
          refine mk_icmp_ge (tgt := 195) (nx := 23) X d_Mo_judge_20 (by omega) (by omega) (by decide) rfl (fun c20 => ?_) (fun c20 => ?_)
          · skip
            refine mk_iinc (nx := 198) X 3 [(3, .int (zi ((t : Int) + 1))), (0, .ref (ad 0)), (1, .int (zi till)), (2, .int (zi n1)), (4, .int (zi rl))] d_Mo_judge_195 rfl (by decide) rfl rfl ?_
            refine mk_goto (tgt := 4) X d_Mo_judge_198 (by decide) ?_
            refine mk_lv [1, 2, 3, 0] rfl ?_
            exact ih4 (t + 1) n1 Jb (by omega) (by first | exact ⟨rfl, by omega, fun _ _ _ => rfl⟩ | (obtain rfl : i = 8 := (by omega); exact hJb)) (by omega)
          · skip
            refine mk_aloadn (nx := 24) X 0 d_Mo_judge_23 rfl rfl ?_
            refine mk_get (nx := 27) (v := .int (zi (Jb 0 13))) X 0 (by decide) (mh_Mo cs ad _) rfl in_Mo 13 (by decide) wd_608 rfl rfl d_Mo_judge_24 rfl ?_
            rw [show Jb 0 13 = c 0 5 from ((hJb.2.2 0 13 (by omega)).trans i54)]
            refine mk_iload (nx := 29) X 4 d_Mo_judge_27 rfl rfl ?_
            refine mk_iand (nx := 30) X d_Mo_judge_29 rfl ?_
            refine mk_if_eq (tgt := 186) (nx := 33) X d_Mo_judge_30 (by exact zi_rng _) (by decide) rfl (fun c30 => ?_) (fun c30 => ?_)
            · skip
              refine mk_iload (nx := 188) X 4 d_Mo_judge_186 rfl rfl ?_
              refine mk_iconst (nx := 189) X d_Mo_judge_188 rfl ?_
              refine mk_imul (nx := 190) X d_Mo_judge_189 rfl ?_
              refine mk_istore (nx := 192) X [(4, .int (zi (rl * 2))), (0, .ref (ad 0)), (1, .int (zi till)), (2, .int (zi n1)), (3, .int (zi (t : Int)))] d_Mo_judge_190 (by decide) rfl rfl ?_
              refine mk_goto (tgt := 15) X d_Mo_judge_192 (by decide) ?_
              refine mk_lv [1, 2, 3, 4, 0] rfl ?_
              exact ih15 (i + 1) (rl * 2) n1 Jb (by omega) (by first | rfl | (have hq := (rul_c (show i < 8 by omega)).1; omega)) (by omega) (by first | (rw [show frs c t 0 = [] from rfl, List.append_nil]; exact hJa) | (rw [LB_k (by first | exact Or.inr (by rw [← hrl]; omega) | exact Or.inl ((rul_c (show i < 8 by omega)).2.1.mp (by omega)))]; exact hJb) | (obtain rfl : a = 4 := (by omega); rw [← LC_e hi3 hon]; exact hJc)) (by omega)
            · skip
              refine mk_iload (nx := 35) X 4 d_Mo_judge_33 rfl rfl ?_
              refine mk_bipush (nx := 37) X d_Mo_judge_35 (by decide) rfl ?_
              refine mk_icmp_ne (tgt := 43) (nx := 40) X d_Mo_judge_37 (by omega) (by omega) (by decide) rfl (fun c37 => ?_) (fun c37 => ?_)
              · skip
                refine mk_iload (nx := 45) X 4 d_Mo_judge_43 rfl rfl ?_
                refine mk_iconst (nx := 46) X d_Mo_judge_45 rfl ?_
                refine mk_icmp_lt (tgt := 57) (nx := 49) X d_Mo_judge_46 (by omega) (by omega) (by decide) rfl (fun c46 => ?_) (fun c46 => ?_)
                · skip
                  refine mk_iconst (nx := 58) X d_Mo_judge_57 rfl ?_
                  refine mk_goto (tgt := 62) X d_Mo_judge_58 (by decide) ?_
                  refine mk_istore (nx := 64) X [(5, .int (zi 1)), (0, .ref (ad 0)), (1, .int (zi till)), (2, .int (zi n1)), (3, .int (zi (t : Int))), (4, .int (zi rl))] d_Mo_judge_62 (by decide) rfl rfl ?_
                  refine mk_iconst (nx := 65) X d_Mo_judge_64 rfl ?_
                  refine mk_istore (nx := 67) X [(6, .int (zi 0)), (5, .int (zi 1)), (0, .ref (ad 0)), (1, .int (zi till)), (2, .int (zi n1)), (3, .int (zi (t : Int))), (4, .int (zi rl))] d_Mo_judge_65 (by decide) rfl rfl ?_
                  refine mk_lv [2, 3, 4, 5, 6, 1, 0] rfl ?_
                  exact L67 _ 0 1 n1 Jb (by omega) (by omega) (by first | omega | exact fun e => absurd ((rul_c (show i < 8 by omega)).2.1.mpr e) (by omega)) (by first | exact hon | (rw [← hrl]; omega)) (by omega) (by first | (rw [LC_0]; exact hJb) | (obtain rfl : b = a + 1 := (by omega); rw [← LD_ea (al := al) (by omega) (by omega)]; exact hJd) | (obtain rfl : b = 4 := (by omega); rw [← LD_ep (al := al) (by omega) (by omega)]; exact hJd)) (Nat.lt_succ_self _)
                · skip
                  refine mk_iload (nx := 51) X 4 d_Mo_judge_49 rfl rfl ?_
                  refine mk_sipush (nx := 54) X d_Mo_judge_51 (by decide) rfl ?_
                  refine mk_icmp_ne (tgt := 61) (nx := 57) X d_Mo_judge_54 (by omega) (by omega) (by decide) rfl (fun c54 => ?_) (fun c54 => ?_)
                  · skip
                    refine mk_iconst (nx := 62) X d_Mo_judge_61 rfl ?_
                    refine mk_istore (nx := 64) X [(5, .int (zi 0)), (0, .ref (ad 0)), (1, .int (zi till)), (2, .int (zi n1)), (3, .int (zi (t : Int))), (4, .int (zi rl))] d_Mo_judge_62 (by decide) rfl rfl ?_
                    refine mk_iconst (nx := 65) X d_Mo_judge_64 rfl ?_
                    refine mk_istore (nx := 67) X [(6, .int (zi 0)), (5, .int (zi 0)), (0, .ref (ad 0)), (1, .int (zi till)), (2, .int (zi n1)), (3, .int (zi (t : Int))), (4, .int (zi rl))] d_Mo_judge_65 (by decide) rfl rfl ?_
                    refine mk_lv [2, 3, 4, 5, 6, 1, 0] rfl ?_
                    exact L67 _ 0 0 n1 Jb (by omega) (by omega) (by first | omega | exact fun e => absurd ((rul_c (show i < 8 by omega)).2.1.mpr e) (by omega)) (by first | exact hon | (rw [← hrl]; omega)) (by omega) (by first | (rw [LC_0]; exact hJb) | (obtain rfl : b = a + 1 := (by omega); rw [← LD_ea (al := al) (by omega) (by omega)]; exact hJd) | (obtain rfl : b = 4 := (by omega); rw [← LD_ep (al := al) (by omega) (by omega)]; exact hJd)) (Nat.lt_succ_self _)
                  · skip
                    refine mk_iconst (nx := 58) X d_Mo_judge_57 rfl ?_
                    refine mk_goto (tgt := 62) X d_Mo_judge_58 (by decide) ?_
                    refine mk_istore (nx := 64) X [(5, .int (zi 1)), (0, .ref (ad 0)), (1, .int (zi till)), (2, .int (zi n1)), (3, .int (zi (t : Int))), (4, .int (zi rl))] d_Mo_judge_62 (by decide) rfl rfl ?_
                    refine mk_iconst (nx := 65) X d_Mo_judge_64 rfl ?_
                    refine mk_istore (nx := 67) X [(6, .int (zi 0)), (5, .int (zi 1)), (0, .ref (ad 0)), (1, .int (zi till)), (2, .int (zi n1)), (3, .int (zi (t : Int))), (4, .int (zi rl))] d_Mo_judge_65 (by decide) rfl rfl ?_
                    refine mk_lv [2, 3, 4, 5, 6, 1, 0] rfl ?_
                    exact L67 _ 0 1 n1 Jb (by omega) (by omega) (by first | omega | exact fun e => absurd ((rul_c (show i < 8 by omega)).2.1.mpr e) (by omega)) (by first | exact hon | (rw [← hrl]; omega)) (by omega) (by first | (rw [LC_0]; exact hJb) | (obtain rfl : b = a + 1 := (by omega); rw [← LD_ea (al := al) (by omega) (by omega)]; exact hJd) | (obtain rfl : b = 4 := (by omega); rw [← LD_ep (al := al) (by omega) (by omega)]; exact hJd)) (Nat.lt_succ_self _)
              · skip
                refine mk_goto (tgt := 186) X d_Mo_judge_40 (by decide) ?_
                refine mk_iload (nx := 188) X 4 d_Mo_judge_186 rfl rfl ?_
                refine mk_iconst (nx := 189) X d_Mo_judge_188 rfl ?_
                refine mk_imul (nx := 190) X d_Mo_judge_189 rfl ?_
                refine mk_istore (nx := 192) X [(4, .int (zi (rl * 2))), (0, .ref (ad 0)), (1, .int (zi till)), (2, .int (zi n1)), (3, .int (zi (t : Int)))] d_Mo_judge_190 (by decide) rfl rfl ?_
                refine mk_goto (tgt := 15) X d_Mo_judge_192 (by decide) ?_
                refine mk_lv [1, 2, 3, 4, 0] rfl ?_
                exact ih15 (i + 1) (rl * 2) n1 Jb (by omega) (by first | rfl | (have hq := (rul_c (show i < 8 by omega)).1; omega)) (by omega) (by first | (rw [show frs c t 0 = [] from rfl, List.append_nil]; exact hJa) | (rw [LB_k (by first | exact Or.inr (by rw [← hrl]; omega) | exact Or.inl ((rul_c (show i < 8 by omega)).2.1.mp (by omega)))]; exact hJb) | (obtain rfl : a = 4 := (by omega); rw [← LC_e hi3 hon]; exact hJc)) (by omega)
      refine mk_iloadn (nx := 5) X 3 d_Mo_judge_4 rfl rfl ?_
      refine mk_aloadn (nx := 6) X 0 d_Mo_judge_5 rfl rfl ?_
      refine mk_get (nx := 9) (v := .int (zi (Ja 0 19))) X 0 (by decide) (mh_Mo cs ad _) rfl in_Mo 19 (by decide) wd_614 rfl rfl d_Mo_judge_6 rfl ?_
      rw [show Ja 0 19 = an_end c from ((hJa.2.2 0 19 (by omega)).trans hL.1)]
      refine mk_icmp_ge (tgt := 201) (nx := 12) X d_Mo_judge_9 (by omega) (by omega) (by decide) rfl (fun c9 => ?_) (fun c9 => ?_)
      · skip
        refine mk_iloadn (nx := 202) X 2 d_Mo_judge_201 rfl rfl ?_
        exact hret _ _ _ _ d_Mo_judge_202 (by exact ⟨hJa.2.2, Or.inr (by have e : t = (an_end c).toNat := (by omega); have h1 := hJa.1; have h2 := hJa.2.1; rw [e] at h1; unfold FL; omega)⟩)
      · skip
        refine mk_iconst (nx := 13) X d_Mo_judge_12 rfl ?_
        refine mk_istore (nx := 15) X [(4, .int (zi 1)), (0, .ref (ad 0)), (1, .int (zi till)), (2, .int (zi n)), (3, .int (zi (t : Int)))] d_Mo_judge_13 (by decide) rfl rfl ?_
        refine mk_lv [1, 2, 3, 4, 0] rfl ?_
        exact L15 _ 0 1 n Ja (by omega) (by first | rfl | (have hq := (rul_c (show i < 8 by omega)).1; omega)) (by omega) (by first | (rw [show frs c t 0 = [] from rfl, List.append_nil]; exact hJa) | (rw [LB_k (by first | exact Or.inr (by rw [← hrl]; omega) | exact Or.inl ((rul_c (show i < 8 by omega)).2.1.mp (by omega)))]; exact hJb) | (obtain rfl : a = 4 := (by omega); rw [← LC_e hi3 hon]; exact hJc)) (Nat.lt_succ_self _)
  refine mk_iconst (nx := 1) X d_Mo_judge_0 rfl ?_
  refine mk_istoren (nx := 2) X [(2, .int (zi 0)), (0, .ref (ad 0)), (1, .int (zi till))] d_Mo_judge_1 (by decide) rfl rfl ?_
  refine mk_iconst (nx := 3) X d_Mo_judge_2 rfl ?_
  refine mk_istoren (nx := 4) X [(3, .int (zi 0)), (2, .int (zi 0)), (0, .ref (ad 0)), (1, .int (zi till))] d_Mo_judge_3 (by decide) rfl rfl ?_
  refine mk_lv [2, 3, 1, 0] rfl ?_
  exact L4 _ 0 0 I (by omega) (by first | exact ⟨rfl, by omega, fun _ _ _ => rfl⟩ | (obtain rfl : i = 8 := (by omega); exact hJb)) (Nat.lt_succ_self _)
