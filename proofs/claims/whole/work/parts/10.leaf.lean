/-- a contract of a method of a class that has native rows, but none for this method -/
theorem mk_metiF {l : Launch} {y : MethodName} {ws ws' : List Cond} {rm : Room} {D : va_G} {cl : List vw_C} {tys : List (ClassId × FieldType)} {sh : Nat → (Nat → Int) → va_E} {NC NW : Nat} {ad : Nat → Nat} {zs : List mk_Zt} {As : List Value} {I : Wo} {cc : ByteArray} {maxL : Nat} {Ts : List Cond} {own : String}
    {P : Int → Wo → Prop} (hinj : ∀ i j, i < NC → j < NC → ad i = ad j → i = j) (hNW : NW ≤ NC) (hy : plainFor y = true) (ho : y.cls = own) (hT : ∀ w ∈ Ts, w ∈ ws) (hw : ws = Cond.code y cc maxL (some .int) :: ws') (hfit : (lg_sl As).length ≤ maxL) (lv0 : List (Nat × Value)) (hlv : lv_args 0 As = lv0)
    (body : ∀ (p : Program) (e : Env) (s : State) (m : MethodId) (args : Array Value) (below : List Frame) (meth : Method) (c : Code) (Q : State → Prop), mk_X p m c cc maxL s args Ts own D cl tys NC NW ad zs →
      (∀ (J : Wo) (lv : List (Nat × Value)) (pc : Nat) (v : Int), decode cc pc = .ok (.ireturn, 1) → P v J → mk_A p l e rm s m args below meth c Q maxL D cl sh NC NW ad J lv pc [.int (zi v)]) →
      mk_A p l e rm s m args below meth c Q maxL D cl sh NC NW ad I lv0 0 []) : mk_C l y ws rm D cl tys sh NC NW ad zs As I (mk_pi P) := by
  subst hlv
  unfold mk_C
  refine MetFree.of_bodySF (code := cc) (maxLocals := maxL) (ret := some .int) hy ?_ ?_
  · intro args s m h hn
    obtain ⟨meth, c, h1, h2, h3, h4, h5, h6, -, -⟩ := Cond.code_spec hn (atoms_spec (ws := ws) h _ (by rw [hw]; exact List.mem_cons_self))
    exact ⟨meth, c, h1, h2, h3, h4, h5, h6⟩
  · intro p e s m args below meth c s₁ B hml hv _
    have hh0 : s₁.heap = s.heap := by rw [B.state]; rfl
    obtain ⟨rfl, hP, hK, hZ⟩ := hv
    have hown : s.vm.findClass y.cls = some m.cls := findClass_of_methodNamed B.named
    have hl := lv_entry As hfit
    subst ho
    have X : mk_X p m c cc maxL s As.toArray Ts y.cls D cl tys NC NW ad zs := ⟨⟨B.exec, B.bytes, hml, hown, fun w hw' => atoms_spec (ws := ws) B.pre w (hT w hw')⟩, hK, hinj, hNW, hZ⟩
    have K := body p e s m _ below meth c (MQ below (mk_Q D cl tys sh NC NW ad (mk_pi P)) As.toArray s 0 0 (mk_in NW ad)) X (fun J lv pc v hd hp => mk_iret X B.notSynchronized B.returns hd ⟨v, rfl, hp⟩) s.heap [] _ hP va_S.rf hl
    rw [← lg_entry_eq] at K
    obtain ⟨t, a1, o, b1, b2, b3⟩ := K s₁ hh0 (Stand.of_body B)
    exact ⟨t, o, a1, b1, b2, ⟨b3.1, b3.2⟩⟩
theorem cbg_pos {c : Wo} {v : Nat} {x : Int} (h0 : 0 ≤ x) (h : x < cbg c v (cn c)) : 0 < cn c := by
  rcases Nat.eq_zero_or_pos (cn c) with e | e
  · rw [e, cbg_0] at h; omega
  · exact e
theorem fill_0 (I : Wo) (q : Nat) (x : Int) : I = upr I q (fun j => if j < 0 then x else I q j) := by
  funext a
  by_cases h : a = q
  · subst h; rw [upr_s]; funext j; simp
  · rw [upr_n h]
theorem fill_s {I J J1 : Wo} {q k : Nat} {x : Int} (h1 : J1 = up2 J q k x) (h : J = upr I q (fun j => if j < k then x else I q j)) : J1 = upr I q (fun j => if j < k + 1 then x else I q j) := by
  subst h1; subst h
  funext a
  by_cases ha : a = q
  · subst ha
    rw [up2_s, upr_s, upr_s]
    funext j
    unfold up1
    by_cases e : j = k
    · subst e; simp
    · rw [if_neg e]
      show (if j < k then x else I a j) = _
      by_cases e2 : j < k
      · rw [if_pos e2, if_pos (by omega)]
      · rw [if_neg e2, if_neg (by omega)]
  · rw [up2_n ha, upr_n ha, upr_n ha]
/-- the first sounding NOTE's number, as the class tells it -/
def fsr (c : Wo) : Int := if fso (c 1) (cn c) < cn c then (fso (c 1) (cn c) : Int) else -1
/-- when a place's NOTE begins -/
def ctm (c : Wo) (v p : Nat) : Int := if 0 < c 0 6 then (c (3 + v) 1 + cbg c v p) % c 0 6 else c (3 + v) 1 + cbg c v p

-- java/lang/Math.floorMod(II)I
theorem d_Math_floorMod_0 : decode prog_10_method_50_code 0 = .ok (.iload_n 0, 1) := by decide +kernel
theorem d_Math_floorMod_1 : decode prog_10_method_50_code 1 = .ok (.iload_n 1, 1) := by decide +kernel
theorem d_Math_floorMod_2 : decode prog_10_method_50_code 2 = .ok (.irem, 1) := by decide +kernel
theorem d_Math_floorMod_3 : decode prog_10_method_50_code 3 = .ok (.istore_n 2, 1) := by decide +kernel
theorem d_Math_floorMod_4 : decode prog_10_method_50_code 4 = .ok (.iload_n 0, 1) := by decide +kernel
theorem d_Math_floorMod_5 : decode prog_10_method_50_code 5 = .ok (.iload_n 1, 1) := by decide +kernel
theorem d_Math_floorMod_6 : decode prog_10_method_50_code 6 = .ok (.ixor, 1) := by decide +kernel
theorem d_Math_floorMod_7 : decode prog_10_method_50_code 7 = .ok (.ifCond .ge 11, 3) := by decide +kernel
theorem d_Math_floorMod_10 : decode prog_10_method_50_code 10 = .ok (.iload_n 2, 1) := by decide +kernel
theorem d_Math_floorMod_11 : decode prog_10_method_50_code 11 = .ok (.ifCond .eq 7, 3) := by decide +kernel
theorem d_Math_floorMod_14 : decode prog_10_method_50_code 14 = .ok (.iload_n 2, 1) := by decide +kernel
theorem d_Math_floorMod_15 : decode prog_10_method_50_code 15 = .ok (.iload_n 1, 1) := by decide +kernel
theorem d_Math_floorMod_16 : decode prog_10_method_50_code 16 = .ok (.iadd, 1) := by decide +kernel
theorem d_Math_floorMod_17 : decode prog_10_method_50_code 17 = .ok (.ireturn, 1) := by decide +kernel
theorem d_Math_floorMod_18 : decode prog_10_method_50_code 18 = .ok (.iload_n 2, 1) := by decide +kernel
theorem d_Math_floorMod_19 : decode prog_10_method_50_code 19 = .ok (.ireturn, 1) := by decide +kernel
abbrev rm_Math_floorMod : Room := { frames := 0, cells := 0, slots := 0, locals := 0 }
set_option maxHeartbeats 4000000 in
set_option maxRecDepth 100000 in
theorem c_Math_floorMod (l : Launch) (D : va_G) (cs : Nat → ClassId) (ad : Nat → Nat) (zt : Nat) (hi : cm_inj ad) (I : Wo) (x y : Int) (hx : -2147483648 ≤ x ∧ x < 2147483648) (hy : -2147483648 ≤ y ∧ y < 2147483648) (h0 : 0 < y) : cm_C l D cs ad zt y_Math_floorMod ws_Math_floorMod rm_Math_floorMod [.int (zi x), .int (zi y)] I (mk_pi (fun r J => I = J ∧ r = x % y)) := by
  refine mk_metiF (own := "java/lang/Math") (Ts := wA) hi (Nat.le_refl _) (by decide +kernel) rfl (fun w h => List.mem_cons_of_mem _ h) rfl (Nat.le_of_ble_eq_true rfl) [(0, .int (zi x)), (1, .int (zi y))] rfl ?_
  intro p_ e_ s_ m_ as_ bl_ me_ co_ Q_ X hret
  have t0 : (x < 0 → Int.tmod x y ≤ 0) ∧ (0 ≤ x → 0 ≤ Int.tmod x y) := ⟨fun h => by have := Int.tmod_nonneg y (show 0 ≤ -x by omega); rw [Int.neg_tmod] at this; omega, fun h => Int.tmod_nonneg y h⟩
  have t1 := Int.tmod_lt_of_pos x h0
  have t2 := Int.lt_tmod_of_pos x h0
  have hz := zixor_neg (x := x) (y := y) (by omega) (by omega)
  refine mk_iloadn (nx := 1) X 0 d_Math_floorMod_0 rfl rfl ?_
  refine mk_iloadn (nx := 2) X 1 d_Math_floorMod_1 rfl rfl ?_
  refine mk_irem (nx := 3) X d_Math_floorMod_2 (by omega) (by omega) (by omega) rfl ?_
  refine mk_istoren (nx := 4) X [(2, .int (zi (Int.tmod x y))), (0, .int (zi x)), (1, .int (zi y))] d_Math_floorMod_3 (by decide) rfl rfl ?_
  refine mk_iloadn (nx := 5) X 1 d_Math_floorMod_4 rfl rfl ?_
  refine mk_iloadn (nx := 6) X 2 d_Math_floorMod_5 rfl rfl ?_
  refine mk_ixor (nx := 7) X d_Math_floorMod_6 rfl ?_
  refine mk_if_ge (tgt := 18) (nx := 10) X d_Math_floorMod_7 (by exact zi_rng _) (by decide) rfl (fun c7 => ?_) (fun c7 => ?_)
  · skip
    refine mk_iloadn (nx := 19) X 0 d_Math_floorMod_18 rfl rfl ?_
    exact hret _ _ _ _ d_Math_floorMod_19 (by exact ⟨rfl, by rw [tmod_fm h0]; split <;> omega⟩)
  · skip
    refine mk_iloadn (nx := 11) X 0 d_Math_floorMod_10 rfl rfl ?_
    refine mk_if_eq (tgt := 18) (nx := 14) X d_Math_floorMod_11 (by omega) (by decide) rfl (fun c11 => ?_) (fun c11 => ?_)
    · skip
      refine mk_iloadn (nx := 19) X 0 d_Math_floorMod_18 rfl rfl ?_
      exact hret _ _ _ _ d_Math_floorMod_19 (by exact ⟨rfl, by rw [tmod_fm h0]; split <;> omega⟩)
    · skip
      refine mk_iloadn (nx := 15) X 0 d_Math_floorMod_14 rfl rfl ?_
      refine mk_iloadn (nx := 16) X 2 d_Math_floorMod_15 rfl rfl ?_
      refine mk_iadd (nx := 17) X d_Math_floorMod_16 rfl ?_
      exact hret _ _ _ _ d_Math_floorMod_17 (by exact ⟨rfl, by rw [tmod_fm h0]; split <;> omega⟩)

-- java/util/Arrays.fill([II)V
theorem d_Arrays_fill_0 : decode prog_11_method_103_code 0 = .ok (.iconst 0, 1) := by decide +kernel
theorem d_Arrays_fill_1 : decode prog_11_method_103_code 1 = .ok (.istore_n 2, 1) := by decide +kernel
theorem d_Arrays_fill_2 : decode prog_11_method_103_code 2 = .ok (.aload_n 0, 1) := by decide +kernel
theorem d_Arrays_fill_3 : decode prog_11_method_103_code 3 = .ok (.arraylength, 1) := by decide +kernel
theorem d_Arrays_fill_4 : decode prog_11_method_103_code 4 = .ok (.istore_n 3, 1) := by decide +kernel
theorem d_Arrays_fill_5 : decode prog_11_method_103_code 5 = .ok (.iload_n 2, 1) := by decide +kernel
theorem d_Arrays_fill_6 : decode prog_11_method_103_code 6 = .ok (.iload_n 3, 1) := by decide +kernel
theorem d_Arrays_fill_7 : decode prog_11_method_103_code 7 = .ok (.if_icmp .ge 13, 3) := by decide +kernel
theorem d_Arrays_fill_10 : decode prog_11_method_103_code 10 = .ok (.aload_n 0, 1) := by decide +kernel
theorem d_Arrays_fill_11 : decode prog_11_method_103_code 11 = .ok (.iload_n 2, 1) := by decide +kernel
theorem d_Arrays_fill_12 : decode prog_11_method_103_code 12 = .ok (.iload_n 1, 1) := by decide +kernel
theorem d_Arrays_fill_13 : decode prog_11_method_103_code 13 = .ok (.iastore, 1) := by decide +kernel
theorem d_Arrays_fill_14 : decode prog_11_method_103_code 14 = .ok (.iinc 2 1, 3) := by decide +kernel
theorem d_Arrays_fill_17 : decode prog_11_method_103_code 17 = .ok (.goto (-12), 3) := by decide +kernel
theorem d_Arrays_fill_20 : decode prog_11_method_103_code 20 = .ok (.return_, 1) := by decide +kernel
abbrev rm_Arrays_fill : Room := { frames := 0, cells := 0, slots := 0, locals := 0 }
set_option maxHeartbeats 4000000 in
set_option maxRecDepth 100000 in
theorem c_Arrays_fill (l : Launch) (D : va_G) (cs : Nat → ClassId) (ad : Nat → Nat) (zt : Nat) (hi : cm_inj ad) (I : Wo) (q len : Nat) (hq : q < 48) (hsh : ∀ f, cm_sh cs ad q f = .inl (cs 0, len, .inl (fun j => zi (f j)))) (hl : len < 2147483648) (x : Int) : cm_C l D cs ad zt y_Arrays_fill ws_Arrays_fill rm_Arrays_fill [.ref (ad q), .int (zi x)] I (mk_pv (fun J => J = upr I q (fun j => if j < len then x else I q j))) := by
  refine mk_metv (own := "java/util/Arrays") (Ts := wA) hi (Nat.le_refl _) (by decide) rfl (fun w h => List.mem_cons_of_mem _ h) rfl (Nat.le_of_ble_eq_true rfl) [(0, .ref (ad q)), (1, .int (zi x))] rfl ?_
  intro p_ e_ s_ m_ as_ bl_ me_ co_ Q_ X hret
  have L5 : ∀ nf : Nat, ∀ (k : Nat) (J : Wo), (k ≤ len) → (J = upr I q (fun j => if j < k then x else I q j)) → len - k < nf → mk_A p_ l e_ rm_Arrays_fill s_ m_ as_ bl_ me_ co_ Q_ 4 D cmcl (cm_sh cs ad) 48 48 ad J [(0, .ref (ad q)), (1, .int (zi x)), (2, .int (zi (k : Int))), (3, .int (zi (len : Int)))] 5 [] := by
    intro nf
    induction nf with
    | zero => intro k J hk hJ hn; exact absurd hn (Nat.not_lt_zero _)
    | succ nf ih5 =>
      intro k J hk hJ hn5
      refine mk_iloadn (nx := 6) X 2 d_Arrays_fill_5 rfl rfl ?_
      refine mk_iloadn (nx := 7) X 3 d_Arrays_fill_6 rfl rfl ?_
      refine mk_icmp_ge (tgt := 20) (nx := 10) X d_Arrays_fill_7 (by omega) (by omega) (by decide) rfl (fun c7 => ?_) (fun c7 => ?_)
      · skip
        exact hret _ _ _ d_Arrays_fill_20 (by rw [hJ, show k = len by omega])
      · skip
        refine mk_aloadn (nx := 11) X 0 d_Arrays_fill_10 rfl rfl ?_
        refine mk_iloadn (nx := 12) X 2 d_Arrays_fill_11 rfl rfl ?_
        refine mk_iloadn (nx := 13) X 1 d_Arrays_fill_12 rfl rfl ?_
        refine mk_iast (nx := 14) (j := k) X q 0 hq hsh rfl (by omega) (by omega) hl rfl d_Arrays_fill_13 rfl ?_
        obtain ⟨J1, hJ1⟩ : ∃ z, z = up2 J q k x := ⟨_, rfl⟩
        refine mk_same hJ1.symm ?_
        have hJ1s : J1 q k = x := hJ1 ▸ up2_ss J q k x
        have hJ1o : ∀ a b, (a ≠ q ∨ b ≠ k) → J1 a b = J a b := hJ1 ▸ up2_o J q k x
        refine mk_iinc (nx := 17) X 2 [(2, .int (zi ((k : Int) + 1))), (0, .ref (ad q)), (1, .int (zi x)), (3, .int (zi (len : Int)))] d_Arrays_fill_14 rfl (by decide) rfl rfl ?_
        refine mk_goto (tgt := 5) X d_Arrays_fill_17 (by decide) ?_
        refine mk_lv [1, 2, 0, 3] rfl ?_
        exact ih5 (k + 1) J1 (by omega) (by first | exact fill_0 I q x | exact fill_s hJ1 hJ) (by omega)
  refine mk_iconst (nx := 1) X d_Arrays_fill_0 rfl ?_
  refine mk_istoren (nx := 2) X [(2, .int (zi 0)), (0, .ref (ad q)), (1, .int (zi x))] d_Arrays_fill_1 (by decide) rfl rfl ?_
  refine mk_aloadn (nx := 3) X 1 d_Arrays_fill_2 rfl rfl ?_
  refine mk_alen (nx := 4) X q 0 hq (hsh _) rfl d_Arrays_fill_3 rfl ?_
  refine mk_istoren (nx := 5) X [(3, .int (zi (len : Int))), (2, .int (zi 0)), (0, .ref (ad q)), (1, .int (zi x))] d_Arrays_fill_4 (by decide) rfl rfl ?_
  refine mk_lv [2, 3, 1, 0] rfl ?_
  exact L5 _ 0 I (by omega) (by first | exact fill_0 I q x | exact fill_s hI hJ) (Nat.lt_succ_self _)

-- CanonMaker$Subject.hasOpen()Z
theorem d_Subject_hasOpen_0 : decode prog_6_method_4_code 0 = .ok (.iconst 0, 1) := by decide +kernel
theorem d_Subject_hasOpen_1 : decode prog_6_method_4_code 1 = .ok (.istore_n 1, 1) := by decide +kernel
theorem d_Subject_hasOpen_2 : decode prog_6_method_4_code 2 = .ok (.iload_n 1, 1) := by decide +kernel
theorem d_Subject_hasOpen_3 : decode prog_6_method_4_code 3 = .ok (.aload_n 0, 1) := by decide +kernel
theorem d_Subject_hasOpen_4 : decode prog_6_method_4_code 4 = .ok (.getfield 18, 3) := by decide +kernel
theorem d_Subject_hasOpen_7 : decode prog_6_method_4_code 7 = .ok (.if_icmp .ge 22, 3) := by decide +kernel
theorem d_Subject_hasOpen_10 : decode prog_6_method_4_code 10 = .ok (.aload_n 0, 1) := by decide +kernel
theorem d_Subject_hasOpen_11 : decode prog_6_method_4_code 11 = .ok (.getfield 9, 3) := by decide +kernel
theorem d_Subject_hasOpen_14 : decode prog_6_method_4_code 14 = .ok (.iload_n 1, 1) := by decide +kernel
theorem d_Subject_hasOpen_15 : decode prog_6_method_4_code 15 = .ok (.iaload, 1) := by decide +kernel
theorem d_Subject_hasOpen_16 : decode prog_6_method_4_code 16 = .ok (.bipush (-2), 2) := by decide +kernel
theorem d_Subject_hasOpen_18 : decode prog_6_method_4_code 18 = .ok (.if_icmp .ne 5, 3) := by decide +kernel
theorem d_Subject_hasOpen_21 : decode prog_6_method_4_code 21 = .ok (.iconst 1, 1) := by decide +kernel
theorem d_Subject_hasOpen_22 : decode prog_6_method_4_code 22 = .ok (.ireturn, 1) := by decide +kernel
theorem d_Subject_hasOpen_23 : decode prog_6_method_4_code 23 = .ok (.iinc 1 1, 3) := by decide +kernel
theorem d_Subject_hasOpen_26 : decode prog_6_method_4_code 26 = .ok (.goto (-24), 3) := by decide +kernel
theorem d_Subject_hasOpen_29 : decode prog_6_method_4_code 29 = .ok (.iconst 0, 1) := by decide +kernel
theorem d_Subject_hasOpen_30 : decode prog_6_method_4_code 30 = .ok (.ireturn, 1) := by decide +kernel
abbrev rm_Subject_hasOpen : Room := { frames := 0, cells := 0, slots := 0, locals := 0 }
set_option maxHeartbeats 4000000 in
set_option maxRecDepth 100000 in
theorem c_Subject_hasOpen (l : Launch) (D : va_G) (cs : Nat → ClassId) (ad : Nat → Nat) (zt : Nat) (hi : cm_inj ad) (c I : Wo) (hw : wfN c) (hm : cmN c I) : cm_C l D cs ad zt y_Subject_hasOpen ws_Subject_hasOpen rm_Subject_hasOpen [.ref (ad 1)] I (mk_pi (fun r J => I = J ∧ ((r = 1 ∧ ∃ j, j < cn c ∧ c 1 j = -2) ∨ (r = 0 ∧ ∀ j, j < cn c → ¬ c 1 j = -2)))) := by
  refine mk_metz (own := "CanonMaker$Subject") (Ts := wA) hi (Nat.le_refl _) (by decide) rfl (fun w h => List.mem_cons_of_mem _ h) rfl (Nat.le_of_ble_eq_true rfl) [(0, .ref (ad 1))] rfl ?_
  intro p_ e_ s_ m_ as_ bl_ me_ co_ Q_ X hret
  have hn := cn_e hw
  have L2 : ∀ nf : Nat, ∀ (k : Nat), ((k : Int) ≤ c 0 0) → (∀ j, j < k → ¬ c 1 j = -2) → 24 - k < nf → mk_A p_ l e_ rm_Subject_hasOpen s_ m_ as_ bl_ me_ co_ Q_ 2 D cmcl (cm_sh cs ad) 48 48 ad I [(0, .ref (ad 1)), (1, .int (zi (k : Int)))] 2 [] := by
    intro nf
    induction nf with
    | zero => intro k hk hb hn; exact absurd hn (Nat.not_lt_zero _)
    | succ nf ih2 =>
      intro k hk hb hn2
      refine mk_iloadn (nx := 3) X 1 d_Subject_hasOpen_2 rfl rfl ?_
      refine mk_aloadn (nx := 4) X 0 d_Subject_hasOpen_3 rfl rfl ?_
      refine mk_get (nx := 7) (v := .int (zi (I 1 2))) X 1 (by decide) (sh_Subject cs ad _) rfl in_Subject 2 (by decide) wd_70 rfl rfl d_Subject_hasOpen_4 rfl ?_
      rw [show I 1 2 = c 0 0 from hm.1]
      refine mk_icmp_ge (tgt := 29) (nx := 10) X d_Subject_hasOpen_7 (by omega) (by omega) (by decide) rfl (fun c7 => ?_) (fun c7 => ?_)
      · skip
        refine mk_iconst (nx := 30) X d_Subject_hasOpen_29 rfl ?_
        exact hret _ _ _ _ d_Subject_hasOpen_30 (by omega) (by exact ⟨rfl, Or.inr ⟨rfl, fun j hj => hb j (by omega)⟩⟩)
      · skip
        refine mk_aloadn (nx := 11) X 0 d_Subject_hasOpen_10 rfl rfl ?_
        refine mk_get (nx := 14) (v := .ref (ad 2)) X 1 (by decide) (sh_Subject cs ad _) rfl in_Subject 0 (by decide) wd_64 rfl rfl d_Subject_hasOpen_11 rfl ?_
        refine mk_iloadn (nx := 15) X 1 d_Subject_hasOpen_14 rfl rfl ?_
        refine mk_iald (nx := 16) (j := k) X 2 0 (by decide) (sh_Spit cs ad _) rfl (by omega) (by omega) (by decide) rfl d_Subject_hasOpen_15 rfl ?_
        rw [show I 2 k = c 1 k from (hm.2 k (by omega)).1]
        have hp := (hw.2 k (by omega)).1
        refine mk_bipush (nx := 18) X d_Subject_hasOpen_16 (by decide) rfl ?_
        refine mk_icmp_ne (tgt := 23) (nx := 21) X d_Subject_hasOpen_18 (by omega) (by omega) (by decide) rfl (fun c18 => ?_) (fun c18 => ?_)
        · skip
          refine mk_iinc (nx := 26) X 1 [(1, .int (zi ((k : Int) + 1))), (0, .ref (ad 1))] d_Subject_hasOpen_23 rfl (by decide) rfl rfl ?_
          refine mk_goto (tgt := 2) X d_Subject_hasOpen_26 (by decide) ?_
          refine mk_lv [1, 0] rfl ?_
          exact ih2 (k + 1) (by omega) (by first | exact lt_0 | exact lt_s hb (by omega)) (by omega)
        · skip
          refine mk_iconst (nx := 22) X d_Subject_hasOpen_21 rfl ?_
          exact hret _ _ _ _ d_Subject_hasOpen_22 (by omega) (by exact ⟨rfl, Or.inl ⟨rfl, k, by omega, by omega⟩⟩)
  refine mk_iconst (nx := 1) X d_Subject_hasOpen_0 rfl ?_
  refine mk_istoren (nx := 2) X [(1, .int (zi 0)), (0, .ref (ad 1))] d_Subject_hasOpen_1 (by decide) rfl rfl ?_
  refine mk_lv [1, 0] rfl ?_
  exact L2 _ 0 (by omega) (by first | exact lt_0 | exact lt_s hb (by omega)) (Nat.lt_succ_self _)

-- CanonMaker$Subject.firstSounding()I
theorem d_Subject_firstSounding_0 : decode prog_6_method_5_code 0 = .ok (.iconst 0, 1) := by decide +kernel
theorem d_Subject_firstSounding_1 : decode prog_6_method_5_code 1 = .ok (.istore_n 1, 1) := by decide +kernel
theorem d_Subject_firstSounding_2 : decode prog_6_method_5_code 2 = .ok (.iload_n 1, 1) := by decide +kernel
theorem d_Subject_firstSounding_3 : decode prog_6_method_5_code 3 = .ok (.aload_n 0, 1) := by decide +kernel
theorem d_Subject_firstSounding_4 : decode prog_6_method_5_code 4 = .ok (.getfield 18, 3) := by decide +kernel
theorem d_Subject_firstSounding_7 : decode prog_6_method_5_code 7 = .ok (.if_icmp .ge 21, 3) := by decide +kernel
theorem d_Subject_firstSounding_10 : decode prog_6_method_5_code 10 = .ok (.aload_n 0, 1) := by decide +kernel
theorem d_Subject_firstSounding_11 : decode prog_6_method_5_code 11 = .ok (.getfield 9, 3) := by decide +kernel
theorem d_Subject_firstSounding_14 : decode prog_6_method_5_code 14 = .ok (.iload_n 1, 1) := by decide +kernel
theorem d_Subject_firstSounding_15 : decode prog_6_method_5_code 15 = .ok (.iaload, 1) := by decide +kernel
theorem d_Subject_firstSounding_16 : decode prog_6_method_5_code 16 = .ok (.iconst (-1), 1) := by decide +kernel
theorem d_Subject_firstSounding_17 : decode prog_6_method_5_code 17 = .ok (.if_icmp .eq 5, 3) := by decide +kernel
theorem d_Subject_firstSounding_20 : decode prog_6_method_5_code 20 = .ok (.iload_n 1, 1) := by decide +kernel
theorem d_Subject_firstSounding_21 : decode prog_6_method_5_code 21 = .ok (.ireturn, 1) := by decide +kernel
theorem d_Subject_firstSounding_22 : decode prog_6_method_5_code 22 = .ok (.iinc 1 1, 3) := by decide +kernel
theorem d_Subject_firstSounding_25 : decode prog_6_method_5_code 25 = .ok (.goto (-23), 3) := by decide +kernel
theorem d_Subject_firstSounding_28 : decode prog_6_method_5_code 28 = .ok (.iconst (-1), 1) := by decide +kernel
theorem d_Subject_firstSounding_29 : decode prog_6_method_5_code 29 = .ok (.ireturn, 1) := by decide +kernel
abbrev rm_Subject_firstSounding : Room := { frames := 0, cells := 0, slots := 0, locals := 0 }
set_option maxHeartbeats 4000000 in
set_option maxRecDepth 100000 in
theorem c_Subject_firstSounding (l : Launch) (D : va_G) (cs : Nat → ClassId) (ad : Nat → Nat) (zt : Nat) (hi : cm_inj ad) (c I : Wo) (hw : wfN c) (hm : cmN c I) : cm_C l D cs ad zt y_Subject_firstSounding ws_Subject_firstSounding rm_Subject_firstSounding [.ref (ad 1)] I (mk_pi (fun r J => I = J ∧ r = fsr c)) := by
  refine mk_meti (own := "CanonMaker$Subject") (Ts := wA) hi (Nat.le_refl _) (by decide) rfl (fun w h => List.mem_cons_of_mem _ h) rfl (Nat.le_of_ble_eq_true rfl) [(0, .ref (ad 1))] rfl ?_
  intro p_ e_ s_ m_ as_ bl_ me_ co_ Q_ X hret
  have hn := cn_e hw
  have L2 : ∀ nf : Nat, ∀ (k : Nat), ((k : Int) ≤ c 0 0) → (∀ j, j < k → c 1 j = -1) → 24 - k < nf → mk_A p_ l e_ rm_Subject_firstSounding s_ m_ as_ bl_ me_ co_ Q_ 2 D cmcl (cm_sh cs ad) 48 48 ad I [(0, .ref (ad 1)), (1, .int (zi (k : Int)))] 2 [] := by
    intro nf
    induction nf with
    | zero => intro k hk hb hn; exact absurd hn (Nat.not_lt_zero _)
    | succ nf ih2 =>
      intro k hk hb hn2
      refine mk_iloadn (nx := 3) X 1 d_Subject_firstSounding_2 rfl rfl ?_
      refine mk_aloadn (nx := 4) X 0 d_Subject_firstSounding_3 rfl rfl ?_
      refine mk_get (nx := 7) (v := .int (zi (I 1 2))) X 1 (by decide) (sh_Subject cs ad _) rfl in_Subject 2 (by decide) wd_70 rfl rfl d_Subject_firstSounding_4 rfl ?_
      rw [show I 1 2 = c 0 0 from hm.1]
      refine mk_icmp_ge (tgt := 28) (nx := 10) X d_Subject_firstSounding_7 (by omega) (by omega) (by decide) rfl (fun c7 => ?_) (fun c7 => ?_)
      · skip
        refine mk_iconst (nx := 29) X d_Subject_firstSounding_28 rfl ?_
        exact hret _ _ _ _ d_Subject_firstSounding_29 (by exact ⟨rfl, by rw [fsr, fso_eq (k := k) (by omega) hb (fun _ => by omega), if_neg (by omega)]⟩)
      · skip
        refine mk_aloadn (nx := 11) X 0 d_Subject_firstSounding_10 rfl rfl ?_
        refine mk_get (nx := 14) (v := .ref (ad 2)) X 1 (by decide) (sh_Subject cs ad _) rfl in_Subject 0 (by decide) wd_64 rfl rfl d_Subject_firstSounding_11 rfl ?_
        refine mk_iloadn (nx := 15) X 1 d_Subject_firstSounding_14 rfl rfl ?_
        refine mk_iald (nx := 16) (j := k) X 2 0 (by decide) (sh_Spit cs ad _) rfl (by omega) (by omega) (by decide) rfl d_Subject_firstSounding_15 rfl ?_
        rw [show I 2 k = c 1 k from (hm.2 k (by omega)).1]
        have hp := (hw.2 k (by omega)).1
        refine mk_iconst (nx := 17) X d_Subject_firstSounding_16 rfl ?_
        refine mk_icmp_eq (tgt := 22) (nx := 20) X d_Subject_firstSounding_17 (by omega) (by omega) (by decide) rfl (fun c17 => ?_) (fun c17 => ?_)
        · skip
          refine mk_iinc (nx := 25) X 1 [(1, .int (zi ((k : Int) + 1))), (0, .ref (ad 1))] d_Subject_firstSounding_22 rfl (by decide) rfl rfl ?_
          refine mk_goto (tgt := 2) X d_Subject_firstSounding_25 (by decide) ?_
          refine mk_lv [1, 0] rfl ?_
          exact ih2 (k + 1) (by omega) (by first | exact lt_0 | exact lt_s hb (by omega)) (by omega)
        · skip
          refine mk_iloadn (nx := 21) X 1 d_Subject_firstSounding_20 rfl rfl ?_
          exact hret _ _ _ _ d_Subject_firstSounding_21 (by exact ⟨rfl, by rw [fsr, fso_eq (k := k) (by omega) hb (fun _ => by omega), if_pos (by omega)]⟩)
  refine mk_iconst (nx := 1) X d_Subject_firstSounding_0 rfl ?_
  refine mk_istoren (nx := 2) X [(1, .int (zi 0)), (0, .ref (ad 1))] d_Subject_firstSounding_1 (by decide) rfl rfl ?_
  refine mk_lv [1, 0] rfl ?_
  exact L2 _ 0 (by omega) (by first | exact lt_0 | exact lt_s hb (by omega)) (Nat.lt_succ_self _)

-- CanonMaker$Line.sinceBegin(I)I
theorem d_Line_sinceBegin_0 : decode prog_4_method_5_code 0 = .ok (.aload_n 0, 1) := by decide +kernel
theorem d_Line_sinceBegin_1 : decode prog_4_method_5_code 1 = .ok (.getfield 49, 3) := by decide +kernel
theorem d_Line_sinceBegin_4 : decode prog_4_method_5_code 4 = .ok (.ifCond .le 19, 3) := by decide +kernel
theorem d_Line_sinceBegin_7 : decode prog_4_method_5_code 7 = .ok (.iload_n 1, 1) := by decide +kernel
theorem d_Line_sinceBegin_8 : decode prog_4_method_5_code 8 = .ok (.aload_n 0, 1) := by decide +kernel
theorem d_Line_sinceBegin_9 : decode prog_4_method_5_code 9 = .ok (.getfield 44, 3) := by decide +kernel
theorem d_Line_sinceBegin_12 : decode prog_4_method_5_code 12 = .ok (.isub, 1) := by decide +kernel
theorem d_Line_sinceBegin_13 : decode prog_4_method_5_code 13 = .ok (.aload_n 0, 1) := by decide +kernel
theorem d_Line_sinceBegin_14 : decode prog_4_method_5_code 14 = .ok (.getfield 49, 3) := by decide +kernel
theorem d_Line_sinceBegin_17 : decode prog_4_method_5_code 17 = .ok (.invokestatic 82, 3) := by decide +kernel
theorem d_Line_sinceBegin_20 : decode prog_4_method_5_code 20 = .ok (.goto 9, 3) := by decide +kernel
theorem d_Line_sinceBegin_23 : decode prog_4_method_5_code 23 = .ok (.iload_n 1, 1) := by decide +kernel
theorem d_Line_sinceBegin_24 : decode prog_4_method_5_code 24 = .ok (.aload_n 0, 1) := by decide +kernel
theorem d_Line_sinceBegin_25 : decode prog_4_method_5_code 25 = .ok (.getfield 44, 3) := by decide +kernel
theorem d_Line_sinceBegin_28 : decode prog_4_method_5_code 28 = .ok (.isub, 1) := by decide +kernel
theorem d_Line_sinceBegin_29 : decode prog_4_method_5_code 29 = .ok (.ireturn, 1) := by decide +kernel
abbrev rm_Line_sinceBegin : Room := { frames := 1, cells := 0, slots := 0, locals := 22 }
set_option maxHeartbeats 4000000 in
set_option maxRecDepth 100000 in
theorem c_Line_sinceBegin (l : Launch) (D : va_G) (cs : Nat → ClassId) (ad : Nat → Nat) (zt : Nat) (hi : cm_inj ad) (c I : Wo) (hw : wfN c) (hS : wfS c) (hV : wfV c) (v : Nat) (hv : v < 4) (hF : LnF c I v) (t : Int) (ht : -100000 ≤ t ∧ t ≤ 100000) : cm_C l D cs ad zt y_Line_sinceBegin ws_Line_sinceBegin rm_Line_sinceBegin [.ref (ad (12 + 6 * v)), .int (zi t)] I (mk_pi (fun r J => I = J ∧ r = csn c v t)) := by
  refine mk_meti (own := "CanonMaker$Line") (Ts := wA) hi (Nat.le_refl _) (by decide) rfl (fun w h => List.mem_cons_of_mem _ h) rfl (Nat.le_of_ble_eq_true rfl) [(0, .ref (ad (12 + 6 * v))), (1, .int (zi t))] rfl ?_
  intro p_ e_ s_ m_ as_ bl_ me_ co_ Q_ X hret
  have hn := cn_e hw
  have hv5 := hV.1 v hv
  obtain ⟨hlo, hsc, hbt, hru, hrd, hst⟩ := id hS
  refine mk_aloadn (nx := 1) X 0 d_Line_sinceBegin_0 rfl rfl ?_
  refine mk_get (nx := 4) (v := .int (zi (I (12 + 6 * v) 7))) X (12 + 6 * v) (by omega) (sh_Line cs ad (show v < 4 by omega) _) rfl in_Line 7 (by decide) wd_142 rfl rfl d_Line_sinceBegin_1 rfl ?_
  rw [show I (12 + 6 * v) 7 = c 0 6 from hF.2.2.1]
  refine mk_if_le (tgt := 23) (nx := 7) X d_Line_sinceBegin_4 (by omega) (by decide) rfl (fun c4 => ?_) (fun c4 => ?_)
  · skip
    refine mk_iloadn (nx := 24) X 1 d_Line_sinceBegin_23 rfl rfl ?_
    refine mk_aloadn (nx := 25) X 0 d_Line_sinceBegin_24 rfl rfl ?_
    refine mk_get (nx := 28) (v := .int (zi (I (12 + 6 * v) 8))) X (12 + 6 * v) (by omega) (sh_Line cs ad (show v < 4 by omega) _) rfl in_Line 8 (by decide) wd_143 rfl rfl d_Line_sinceBegin_25 rfl ?_
    rw [show I (12 + 6 * v) 8 = c (3 + v) 1 from hF.2.2.2.1]
    refine mk_isub (nx := 29) X d_Line_sinceBegin_28 rfl ?_
    exact hret _ _ _ _ d_Line_sinceBegin_29 (by first | exact ⟨rfl, by rw [csn, if_pos (by omega)]⟩ | exact ⟨rfl, by rw [csn, if_neg (by omega)]⟩)
  · skip
    refine mk_iloadn (nx := 8) X 1 d_Line_sinceBegin_7 rfl rfl ?_
    refine mk_aloadn (nx := 9) X 0 d_Line_sinceBegin_8 rfl rfl ?_
    refine mk_get (nx := 12) (v := .int (zi (I (12 + 6 * v) 8))) X (12 + 6 * v) (by omega) (sh_Line cs ad (show v < 4 by omega) _) rfl in_Line 8 (by decide) wd_143 rfl rfl d_Line_sinceBegin_9 rfl ?_
    rw [show I (12 + 6 * v) 8 = c (3 + v) 1 from hF.2.2.2.1]
    refine mk_isub (nx := 13) X d_Line_sinceBegin_12 rfl ?_
    refine mk_aloadn (nx := 14) X 0 d_Line_sinceBegin_13 rfl rfl ?_
    refine mk_get (nx := 17) (v := .int (zi (I (12 + 6 * v) 7))) X (12 + 6 * v) (by omega) (sh_Line cs ad (show v < 4 by omega) _) rfl in_Line 7 (by decide) wd_142 rfl rfl d_Line_sinceBegin_14 rfl ?_
    rw [show I (12 + 6 * v) 7 = c 0 6 from hF.2.2.1]
    refine mk_callTi (nx := 20) (n := 2) (As := [.int (zi (t - (c (3 + v) 1))), .int (zi (c 0 6))]) (rest := []) X (c_Math_floorMod l D cs ad zt hi I (t - (c (3 + v) 1)) (c 0 6) (by omega) (by omega) (by omega)) (g_Math_floorMod wd_425) rfl ⟨rfl, rfl⟩ (by decide +kernel) ⟨by decide, by decide⟩ rfl (Nat.le_of_ble_eq_true rfl) rfl d_Line_sinceBegin_17 rfl ?_
    intro r17 J1 hJ1
    obtain ⟨rfl, rfl⟩ := hJ1
    refine mk_goto (tgt := 29) X d_Line_sinceBegin_20 (by decide) ?_
    exact hret _ _ _ _ d_Line_sinceBegin_29 (by first | exact ⟨rfl, by rw [csn, if_pos (by omega)]⟩ | exact ⟨rfl, by rw [csn, if_neg (by omega)]⟩)

-- CanonMaker$Line.placeAt(I)I
theorem d_Line_placeAt_0 : decode prog_4_method_6_code 0 = .ok (.aload_n 0, 1) := by decide +kernel
theorem d_Line_placeAt_1 : decode prog_4_method_6_code 1 = .ok (.iload_n 1, 1) := by decide +kernel
theorem d_Line_placeAt_2 : decode prog_4_method_6_code 2 = .ok (.invokevirtual 88, 3) := by decide +kernel
theorem d_Line_placeAt_5 : decode prog_4_method_6_code 5 = .ok (.istore_n 2, 1) := by decide +kernel
theorem d_Line_placeAt_6 : decode prog_4_method_6_code 6 = .ok (.iload_n 2, 1) := by decide +kernel
theorem d_Line_placeAt_7 : decode prog_4_method_6_code 7 = .ok (.ifCond .lt 11, 3) := by decide +kernel
theorem d_Line_placeAt_10 : decode prog_4_method_6_code 10 = .ok (.iload_n 2, 1) := by decide +kernel
theorem d_Line_placeAt_11 : decode prog_4_method_6_code 11 = .ok (.aload_n 0, 1) := by decide +kernel
theorem d_Line_placeAt_12 : decode prog_4_method_6_code 12 = .ok (.getfield 58, 3) := by decide +kernel
theorem d_Line_placeAt_15 : decode prog_4_method_6_code 15 = .ok (.if_icmp .lt 5, 3) := by decide +kernel
theorem d_Line_placeAt_18 : decode prog_4_method_6_code 18 = .ok (.iconst (-1), 1) := by decide +kernel
theorem d_Line_placeAt_19 : decode prog_4_method_6_code 19 = .ok (.ireturn, 1) := by decide +kernel
theorem d_Line_placeAt_20 : decode prog_4_method_6_code 20 = .ok (.iconst 0, 1) := by decide +kernel
theorem d_Line_placeAt_21 : decode prog_4_method_6_code 21 = .ok (.istore_n 3, 1) := by decide +kernel
theorem d_Line_placeAt_22 : decode prog_4_method_6_code 22 = .ok (.iconst 1, 1) := by decide +kernel
theorem d_Line_placeAt_23 : decode prog_4_method_6_code 23 = .ok (.istore 4, 2) := by decide +kernel
theorem d_Line_placeAt_25 : decode prog_4_method_6_code 25 = .ok (.iload 4, 2) := by decide +kernel
theorem d_Line_placeAt_27 : decode prog_4_method_6_code 27 = .ok (.aload_n 0, 1) := by decide +kernel
theorem d_Line_placeAt_28 : decode prog_4_method_6_code 28 = .ok (.getfield 57, 3) := by decide +kernel
theorem d_Line_placeAt_31 : decode prog_4_method_6_code 31 = .ok (.if_icmp .ge 23, 3) := by decide +kernel
theorem d_Line_placeAt_34 : decode prog_4_method_6_code 34 = .ok (.aload_n 0, 1) := by decide +kernel
theorem d_Line_placeAt_35 : decode prog_4_method_6_code 35 = .ok (.getfield 15, 3) := by decide +kernel
theorem d_Line_placeAt_38 : decode prog_4_method_6_code 38 = .ok (.iload 4, 2) := by decide +kernel
theorem d_Line_placeAt_40 : decode prog_4_method_6_code 40 = .ok (.iaload, 1) := by decide +kernel
theorem d_Line_placeAt_41 : decode prog_4_method_6_code 41 = .ok (.iload_n 2, 1) := by decide +kernel
theorem d_Line_placeAt_42 : decode prog_4_method_6_code 42 = .ok (.if_icmp .gt 12, 3) := by decide +kernel
theorem d_Line_placeAt_45 : decode prog_4_method_6_code 45 = .ok (.iload 4, 2) := by decide +kernel
theorem d_Line_placeAt_47 : decode prog_4_method_6_code 47 = .ok (.istore_n 3, 1) := by decide +kernel
theorem d_Line_placeAt_48 : decode prog_4_method_6_code 48 = .ok (.iinc 4 1, 3) := by decide +kernel
theorem d_Line_placeAt_51 : decode prog_4_method_6_code 51 = .ok (.goto (-26), 3) := by decide +kernel
theorem d_Line_placeAt_54 : decode prog_4_method_6_code 54 = .ok (.iload_n 3, 1) := by decide +kernel
theorem d_Line_placeAt_55 : decode prog_4_method_6_code 55 = .ok (.ireturn, 1) := by decide +kernel
abbrev rm_Line_placeAt : Room := { frames := 2, cells := 0, slots := 0, locals := 43 }
set_option maxHeartbeats 4000000 in
set_option maxRecDepth 100000 in
theorem c_Line_placeAt (l : Launch) (D : va_G) (cs : Nat → ClassId) (ad : Nat → Nat) (zt : Nat) (hi : cm_inj ad) (c I : Wo) (hw : wfN c) (hS : wfS c) (hV : wfV c) (v : Nat) (hv : v < 4) (hF : LnF c I v) (hB : LnB c I v) (t : Int) (ht : -100000 ≤ t ∧ t ≤ 100000) : cm_C l D cs ad zt y_Line_placeAt ws_Line_placeAt rm_Line_placeAt [.ref (ad (12 + 6 * v)), .int (zi t)] I (mk_pi (fun r J => I = J ∧ r = cpl c v t)) := by
  refine mk_meti (own := "CanonMaker$Line") (Ts := wA) hi (Nat.le_refl _) (by decide) rfl (fun w h => List.mem_cons_of_mem _ h) rfl (Nat.le_of_ble_eq_true rfl) [(0, .ref (ad (12 + 6 * v))), (1, .int (zi t))] rfl ?_
  intro p_ e_ s_ m_ as_ bl_ me_ co_ Q_ X hret
  have hn := cn_e hw
  have hv5 := hV.1 v hv
  obtain ⟨hlo, hsc, hbt, hru, hrd, hst⟩ := id hS
  have hu := cbg_b hw hV hv (Nat.le_refl (cn c))
  have hsn : -100100 ≤ csn c v t ∧ csn c v t ≤ 100100 := by
    unfold csn
    by_cases hc : 0 < c 0 6
    · rw [if_pos hc]
      have h1 := Int.emod_nonneg (t - c (3 + v) 1) (show c 0 6 ≠ 0 by omega)
      have h2 := Int.emod_lt_of_pos (t - c (3 + v) 1) hc
      omega
    · rw [if_neg hc]; omega
  have L25 : ∀ nf : Nat, ∀ (p : Nat), (p < cn c) → (cbg c v p ≤ csn c v t) → (csn c v t < cbg c v (cn c)) → 24 - p < nf → mk_A p_ l e_ rm_Line_placeAt s_ m_ as_ bl_ me_ co_ Q_ 5 D cmcl (cm_sh cs ad) 48 48 ad I [(0, .ref (ad (12 + 6 * v))), (1, .int (zi t)), (2, .int (zi (csn c v t))), (3, .int (zi (p : Int))), (4, .int (zi ((p : Int) + 1)))] 25 [] := by
    intro nf
    induction nf with
    | zero => intro p hp hp1 hx hn; exact absurd hn (Nat.not_lt_zero _)
    | succ nf ih25 =>
      intro p hp hp1 hx hn25
      refine mk_iload (nx := 27) X 4 d_Line_placeAt_25 rfl rfl ?_
      refine mk_aloadn (nx := 28) X 0 d_Line_placeAt_27 rfl rfl ?_
      refine mk_get (nx := 31) (v := .int (zi (I (12 + 6 * v) 5))) X (12 + 6 * v) (by omega) (sh_Line cs ad (show v < 4 by omega) _) rfl in_Line 5 (by decide) wd_139 rfl rfl d_Line_placeAt_28 rfl ?_
      rw [show I (12 + 6 * v) 5 = c 0 0 from hF.1]
      refine mk_icmp_ge (tgt := 54) (nx := 34) X d_Line_placeAt_31 (by omega) (by omega) (by decide) rfl (fun c31 => ?_) (fun c31 => ?_)
      · skip
        refine mk_iloadn (nx := 55) X 3 d_Line_placeAt_54 rfl rfl ?_
        exact hret _ _ _ _ d_Line_placeAt_55 (by exact ⟨rfl, (plc_eq hw hV hv (p := p) (by omega) hp1 (by first | omega | (have e : p + 1 = cn c := (by omega); rw [e]; omega))).symm⟩)
      · skip
        refine mk_aloadn (nx := 35) X 0 d_Line_placeAt_34 rfl rfl ?_
        refine mk_get (nx := 38) (v := .ref (ad (14 + 6 * v))) X (12 + 6 * v) (by omega) (sh_Line cs ad (show v < 4 by omega) _) rfl in_Line 1 (by decide) wd_128 rfl rfl d_Line_placeAt_35 rfl ?_
        refine mk_iload (nx := 40) X 4 d_Line_placeAt_38 rfl rfl ?_
        have hbb := cbg_b hw hV hv (show p + 1 ≤ cn c by omega)
        refine mk_iald (nx := 41) (j := (p + 1)) X (14 + 6 * v) 0 (by omega) (sh_Lbegins cs ad (show v < 4 by omega) _) rfl (by omega) (by omega) (by decide) rfl d_Line_placeAt_40 rfl ?_
        rw [show I (14 + 6 * v) (p + 1) = cbg c v (p + 1) from (hB (p + 1) (by omega)).2]
        refine mk_iloadn (nx := 42) X 2 d_Line_placeAt_41 rfl rfl ?_
        refine mk_icmp_gt (tgt := 54) (nx := 45) X d_Line_placeAt_42 (by omega) (by omega) (by decide) rfl (fun c42 => ?_) (fun c42 => ?_)
        · skip
          refine mk_iloadn (nx := 55) X 3 d_Line_placeAt_54 rfl rfl ?_
          exact hret _ _ _ _ d_Line_placeAt_55 (by exact ⟨rfl, (plc_eq hw hV hv (p := p) (by omega) hp1 (by first | omega | (have e : p + 1 = cn c := (by omega); rw [e]; omega))).symm⟩)
        · skip
          refine mk_iload (nx := 47) X 4 d_Line_placeAt_45 rfl rfl ?_
          refine mk_istoren (nx := 48) X [(3, .int (zi ((p : Int) + 1))), (0, .ref (ad (12 + 6 * v))), (1, .int (zi t)), (2, .int (zi (csn c v t))), (4, .int (zi ((p : Int) + 1)))] d_Line_placeAt_47 (by decide) rfl rfl ?_
          refine mk_iinc (nx := 51) X 4 [(4, .int (zi ((p : Int) + 1 + 1))), (3, .int (zi ((p : Int) + 1))), (0, .ref (ad (12 + 6 * v))), (1, .int (zi t)), (2, .int (zi (csn c v t)))] d_Line_placeAt_48 rfl (by decide) rfl rfl ?_
          refine mk_goto (tgt := 25) X d_Line_placeAt_51 (by decide) ?_
          refine mk_lv [2, 3, 4, 1, 0] rfl ?_
          exact ih25 (p + 1) (by first | omega | exact cbg_pos (c := c) (v := v) (x := csn c v t) (by omega) (by omega)) (by first | omega | (rw [cbg_0]; omega)) (by omega) (by omega)
  refine mk_aloadn (nx := 1) X 0 d_Line_placeAt_0 rfl rfl ?_
  refine mk_iloadn (nx := 2) X 1 d_Line_placeAt_1 rfl rfl ?_
  refine mk_callVi (nx := 5) (n := 1) (As := [.int (zi t)]) (rest := []) X (12 + 6 * v) (by omega) (sh_Line cs ad (show v < 4 by omega) _) rfl (c_Line_sinceBegin l D cs ad zt hi c I hw hS hV v hv hF t ht) (g_Line_sinceBegin wd_421) rfl ⟨rfl, rfl⟩ (by decide +kernel) ⟨by decide, by decide⟩ rfl (Nat.le_of_ble_eq_true rfl) rfl d_Line_placeAt_2 rfl ?_
  intro r2 J1 hJ1
  obtain ⟨rfl, rfl⟩ := hJ1
  refine mk_istoren (nx := 6) X [(2, .int (zi (csn c v t))), (0, .ref (ad (12 + 6 * v))), (1, .int (zi t))] d_Line_placeAt_5 (by decide) rfl rfl ?_
  refine mk_iloadn (nx := 7) X 0 d_Line_placeAt_6 rfl rfl ?_
  refine mk_if_lt (tgt := 18) (nx := 10) X d_Line_placeAt_7 (by omega) (by decide) rfl (fun c7 => ?_) (fun c7 => ?_)
  · skip
    refine mk_iconst (nx := 19) X d_Line_placeAt_18 rfl ?_
    exact hret _ _ _ _ d_Line_placeAt_19 (by exact ⟨rfl, by unfold cpl plc; rw [if_pos (by omega)]⟩)
  · skip
    refine mk_iloadn (nx := 11) X 0 d_Line_placeAt_10 rfl rfl ?_
    refine mk_aloadn (nx := 12) X 1 d_Line_placeAt_11 rfl rfl ?_
    refine mk_get (nx := 15) (v := .int (zi (I (12 + 6 * v) 6))) X (12 + 6 * v) (by omega) (sh_Line cs ad (show v < 4 by omega) _) rfl in_Line 6 (by decide) wd_141 rfl rfl d_Line_placeAt_12 rfl ?_
    rw [show I (12 + 6 * v) 6 = cbg c v (cn c) from hF.2.1]
    refine mk_icmp_lt (tgt := 20) (nx := 18) X d_Line_placeAt_15 (by omega) (by omega) (by decide) rfl (fun c15 => ?_) (fun c15 => ?_)
    · skip
      refine mk_iconst (nx := 21) X d_Line_placeAt_20 rfl ?_
      refine mk_istoren (nx := 22) X [(3, .int (zi 0)), (2, .int (zi (csn c v t))), (0, .ref (ad (12 + 6 * v))), (1, .int (zi t))] d_Line_placeAt_21 (by decide) rfl rfl ?_
      refine mk_iconst (nx := 23) X d_Line_placeAt_22 rfl ?_
      refine mk_istore (nx := 25) X [(4, .int (zi 1)), (3, .int (zi 0)), (2, .int (zi (csn c v t))), (0, .ref (ad (12 + 6 * v))), (1, .int (zi t))] d_Line_placeAt_23 (by decide) rfl rfl ?_
      refine mk_lv [3, 4, 2, 1, 0] rfl ?_
      exact L25 _ 0 (by first | omega | exact cbg_pos (c := c) (v := v) (x := csn c v t) (by omega) (by omega)) (by first | omega | (rw [cbg_0]; omega)) (by omega) (Nat.lt_succ_self _)
    · skip
      refine mk_iconst (nx := 19) X d_Line_placeAt_18 rfl ?_
      exact hret _ _ _ _ d_Line_placeAt_19 (by exact ⟨rfl, by unfold cpl plc; rw [if_pos (by omega)]⟩)

-- CanonMaker$Line.timeOf(I)I
theorem d_Line_timeOf_0 : decode prog_4_method_7_code 0 = .ok (.aload_n 0, 1) := by decide +kernel
theorem d_Line_timeOf_1 : decode prog_4_method_7_code 1 = .ok (.getfield 44, 3) := by decide +kernel
theorem d_Line_timeOf_4 : decode prog_4_method_7_code 4 = .ok (.aload_n 0, 1) := by decide +kernel
theorem d_Line_timeOf_5 : decode prog_4_method_7_code 5 = .ok (.getfield 15, 3) := by decide +kernel
theorem d_Line_timeOf_8 : decode prog_4_method_7_code 8 = .ok (.iload_n 1, 1) := by decide +kernel
theorem d_Line_timeOf_9 : decode prog_4_method_7_code 9 = .ok (.iaload, 1) := by decide +kernel
theorem d_Line_timeOf_10 : decode prog_4_method_7_code 10 = .ok (.iadd, 1) := by decide +kernel
theorem d_Line_timeOf_11 : decode prog_4_method_7_code 11 = .ok (.istore_n 2, 1) := by decide +kernel
theorem d_Line_timeOf_12 : decode prog_4_method_7_code 12 = .ok (.aload_n 0, 1) := by decide +kernel
theorem d_Line_timeOf_13 : decode prog_4_method_7_code 13 = .ok (.getfield 49, 3) := by decide +kernel
theorem d_Line_timeOf_16 : decode prog_4_method_7_code 16 = .ok (.ifCond .le 14, 3) := by decide +kernel
theorem d_Line_timeOf_19 : decode prog_4_method_7_code 19 = .ok (.iload_n 2, 1) := by decide +kernel
theorem d_Line_timeOf_20 : decode prog_4_method_7_code 20 = .ok (.aload_n 0, 1) := by decide +kernel
theorem d_Line_timeOf_21 : decode prog_4_method_7_code 21 = .ok (.getfield 49, 3) := by decide +kernel
theorem d_Line_timeOf_24 : decode prog_4_method_7_code 24 = .ok (.invokestatic 82, 3) := by decide +kernel
theorem d_Line_timeOf_27 : decode prog_4_method_7_code 27 = .ok (.goto 4, 3) := by decide +kernel
theorem d_Line_timeOf_30 : decode prog_4_method_7_code 30 = .ok (.iload_n 2, 1) := by decide +kernel
theorem d_Line_timeOf_31 : decode prog_4_method_7_code 31 = .ok (.ireturn, 1) := by decide +kernel
abbrev rm_Line_timeOf : Room := { frames := 1, cells := 0, slots := 0, locals := 22 }
set_option maxHeartbeats 4000000 in
set_option maxRecDepth 100000 in
theorem c_Line_timeOf (l : Launch) (D : va_G) (cs : Nat → ClassId) (ad : Nat → Nat) (zt : Nat) (hi : cm_inj ad) (c I : Wo) (hw : wfN c) (hS : wfS c) (hV : wfV c) (v : Nat) (hv : v < 4) (hF : LnF c I v) (hB : LnB c I v) (p : Nat) (hp : p < cn c) : cm_C l D cs ad zt y_Line_timeOf ws_Line_timeOf rm_Line_timeOf [.ref (ad (12 + 6 * v)), .int (zi (p : Int))] I (mk_pi (fun r J => I = J ∧ r = ctm c v p)) := by
  refine mk_meti (own := "CanonMaker$Line") (Ts := wA) hi (Nat.le_refl _) (by decide) rfl (fun w h => List.mem_cons_of_mem _ h) rfl (Nat.le_of_ble_eq_true rfl) [(0, .ref (ad (12 + 6 * v))), (1, .int (zi (p : Int)))] rfl ?_
  intro p_ e_ s_ m_ as_ bl_ me_ co_ Q_ X hret
  have hn := cn_e hw
  have hv5 := hV.1 v hv
  obtain ⟨hlo, hsc, hbt, hru, hrd, hst⟩ := id hS
  have hbb := cbg_b hw hV hv (Nat.le_of_lt hp)
  refine mk_aloadn (nx := 1) X 0 d_Line_timeOf_0 rfl rfl ?_
  refine mk_get (nx := 4) (v := .int (zi (I (12 + 6 * v) 8))) X (12 + 6 * v) (by omega) (sh_Line cs ad (show v < 4 by omega) _) rfl in_Line 8 (by decide) wd_143 rfl rfl d_Line_timeOf_1 rfl ?_
  rw [show I (12 + 6 * v) 8 = c (3 + v) 1 from hF.2.2.2.1]
  refine mk_aloadn (nx := 5) X 0 d_Line_timeOf_4 rfl rfl ?_
  refine mk_get (nx := 8) (v := .ref (ad (14 + 6 * v))) X (12 + 6 * v) (by omega) (sh_Line cs ad (show v < 4 by omega) _) rfl in_Line 1 (by decide) wd_128 rfl rfl d_Line_timeOf_5 rfl ?_
  refine mk_iloadn (nx := 9) X 1 d_Line_timeOf_8 rfl rfl ?_
  refine mk_iald (nx := 10) (j := p) X (14 + 6 * v) 0 (by omega) (sh_Lbegins cs ad (show v < 4 by omega) _) rfl (by omega) (by omega) (by decide) rfl d_Line_timeOf_9 rfl ?_
  rw [show I (14 + 6 * v) p = cbg c v p from (hB p (by omega)).2]
  refine mk_iadd (nx := 11) X d_Line_timeOf_10 rfl ?_
  refine mk_istoren (nx := 12) X [(2, .int (zi ((c (3 + v) 1) + (cbg c v p)))), (0, .ref (ad (12 + 6 * v))), (1, .int (zi (p : Int)))] d_Line_timeOf_11 (by decide) rfl rfl ?_
  refine mk_aloadn (nx := 13) X 1 d_Line_timeOf_12 rfl rfl ?_
  refine mk_get (nx := 16) (v := .int (zi (I (12 + 6 * v) 7))) X (12 + 6 * v) (by omega) (sh_Line cs ad (show v < 4 by omega) _) rfl in_Line 7 (by decide) wd_142 rfl rfl d_Line_timeOf_13 rfl ?_
  rw [show I (12 + 6 * v) 7 = c 0 6 from hF.2.2.1]
  refine mk_if_le (tgt := 30) (nx := 19) X d_Line_timeOf_16 (by omega) (by decide) rfl (fun c16 => ?_) (fun c16 => ?_)
  · skip
    refine mk_iloadn (nx := 31) X 0 d_Line_timeOf_30 rfl rfl ?_
    exact hret _ _ _ _ d_Line_timeOf_31 (by first | exact ⟨rfl, by rw [ctm, if_pos (by omega)]⟩ | exact ⟨rfl, by rw [ctm, if_neg (by omega)]⟩)
  · skip
    refine mk_iloadn (nx := 20) X 0 d_Line_timeOf_19 rfl rfl ?_
    refine mk_aloadn (nx := 21) X 1 d_Line_timeOf_20 rfl rfl ?_
    refine mk_get (nx := 24) (v := .int (zi (I (12 + 6 * v) 7))) X (12 + 6 * v) (by omega) (sh_Line cs ad (show v < 4 by omega) _) rfl in_Line 7 (by decide) wd_142 rfl rfl d_Line_timeOf_21 rfl ?_
    rw [show I (12 + 6 * v) 7 = c 0 6 from hF.2.2.1]
    refine mk_callTi (nx := 27) (n := 2) (As := [.int (zi ((c (3 + v) 1) + (cbg c v p))), .int (zi (c 0 6))]) (rest := []) X (c_Math_floorMod l D cs ad zt hi I ((c (3 + v) 1) + (cbg c v p)) (c 0 6) (by omega) (by omega) (by omega)) (g_Math_floorMod wd_425) rfl ⟨rfl, rfl⟩ (by decide +kernel) ⟨by decide, by decide⟩ rfl (Nat.le_of_ble_eq_true rfl) rfl d_Line_timeOf_24 rfl ?_
    intro r24 J1 hJ1
    obtain ⟨rfl, rfl⟩ := hJ1
    refine mk_goto (tgt := 31) X d_Line_timeOf_27 (by decide) ?_
    exact hret _ _ _ _ d_Line_timeOf_31 (by first | exact ⟨rfl, by rw [ctm, if_pos (by omega)]⟩ | exact ⟨rfl, by rw [ctm, if_neg (by omega)]⟩)
