/-! THE CLAIM OUT OF ONE WALK OF THE LAW'S BODY. Your part is whole_start (and what it stands on); all else here is the same for every law, but numbers. -/
def R_law : String := "CanonMakerLaw"
def lw_P (b : Addr) (xs : List Int32) (args : Array Value) (s : State) : Prop := args = #[.ref b] ∧ s.IntsAt b xs ∧ xs.length ≤ 3072 ∧ (Jvm.Cond.and given_1 narrow_1).before args s = true
def lw_Q (_ : Array Value) (s : State) (o : Outcome) (t : State) : Prop := o = .returned (some (.int 1)) ∧ Framed s o t [] 600000 7302250
def lw_Z (below : List Frame) (a : Array Value) (s : State) : State → Prop := fun t => ∃ o, t.status = .running ∧ Ended t below o ∧ lw_Q a s o t
/-- the law's own end, with 1 on the stack, nothing written that was there before, its room as the claim has it -/
theorem lw_ret {p : Program} {l : Launch} {e : Env} {s : State} {m : MethodId} {below : List Frame} {meth : Method} {c : Code} {b : Nat} (hx : p.tables.exec = Jvm.exec) (hb : c.code = code) (hr : meth.sig.returnType = ret) (hlocks : meth.locks = false) {pc : Nat} {H : Heap} {ls : Array Slot} (hdg : decode code pc = .ok (.ireturn, 1)) : W p l e room_1 s m #[Value.ref b] below meth c H [] 600000 7302250 (lw_Z below #[Value.ref b] s) (F0 m pc ls [.int 1]) := by
  intro T hT X
  obtain ⟨fs, hret, hrun, hended, hW, hframe⟩ := X.leave (v := some (.int 1)) (hlocks := hlocks) (fun h => by rw [hr] at h; cases h)
  have hmeth' : T.vm.method? m = some meth := X.method'
  refine ⟨T.setFrames fs, ?_, .returned (some (.int 1)), hrun, hended, rfl, ⟨_, rfl⟩, hW, hframe⟩
  jvm_step X.here [X.here.top, hx, hb, hdg, hmeth', hr, ret, narrow_b1]
  (try refine ⟨rfl, ?_⟩); (try refine ⟨rfl, ?_⟩)
  first | (intro acts; rw [hret _ acts rfl rfl rfl]) | rw [hret _ _ rfl rfl rfl]
  exact Steps.refl _
/-- what holds at the law's entry: the machine, the code, the tables' words (any of lw_tbl by 'hts w (by decide +kernel)'), the script of L ints xs at the cell b, what the Statement gives of the start (any of its parts by flat_of_before) -/
def lw_At (p : Program) (s : State) (m : MethodId) (meth : Method) (c : Code) (b L : Nat) (xs : Nat → Int32) : Prop :=
  p.tables.exec = Jvm.exec ∧ c.code = code ∧ meth.sig.returnType = ret ∧ c.maxLocals = 4 ∧ s.vm.findClass R_law = some m.cls ∧ (∀ w ∈ lw_tbl, w.before #[Value.ref b] s = true) ∧ va_X b L xs s s.heap ∧ b < s.heap.size ∧ meth.locks = false ∧ (Jvm.Cond.and given_1 narrow_1).before #[Value.ref b] s = true
/-! A NEW OBJECT -/
def c_0 : Wo := fun a b => if a = 0 then ([0, 0, 127, 4095, 4, 0, 0, 0, 0] : List Int).getD b 0 else if a = 3 then ([1, 0, 0, 0, 1] : List Int).getD b 0 else if a = 4 ∨ a = 5 ∨ a = 6 then ([0, 0, 0, 0, 1] : List Int).getD b 0 else 0
def cm_I0 : Wo := fun a b => if a = 5 then ([0, 127, 4095, 4, 0] : List Int).getD b 0 else if a = 44 then ([1, 0, 0, 0, 1] : List Int).getD b 0 else if a = 45 ∨ a = 46 ∨ a = 47 then ([0, 0, 0, 0, 1] : List Int).getD b 0 else 0
def mo_I0 : Wo := fun a b => if a = 0 then (if b = 9 then 127 else if b = 10 then 4095 else if b = 11 then 4 else 0) else if a = 3 then ([1, 0, 0, 0] : List Int).getD b 0 else if a = 7 then ([1, 1, 1, 1] : List Int).getD b 0 else 0
theorem wf_0 : wfC c_0 := by
  refine ⟨⟨by decide, fun j hj => ?_⟩, by unfold wfS; decide, ⟨fun v hv => ?_, by decide⟩, ⟨by decide, fun k hk => ?_⟩⟩
  · have : (c_0 0 0) = 0 := rfl
    omega
  · rcases (show v = 0 ∨ v = 1 ∨ v = 2 ∨ v = 3 by omega) with rfl | rfl | rfl | rfl <;> decide
  · have : (c_0 0 8) = 0 := rfl
    omega
theorem cm_0 : cmR c_0 cm_I0 := by
  refine ⟨wf_0, ⟨rfl, fun j hj => ?_⟩, by unfold cmS; decide, fun v hv => ?_, ⟨rfl, fun k hk => ?_⟩⟩
  · have : (c_0 0 0) = 0 := rfl
    omega
  · rcases (show v = 0 ∨ v = 1 ∨ v = 2 ∨ v = 3 by omega) with rfl | rfl | rfl | rfl <;> decide
  · have : (c_0 0 8) = 0 := rfl
    omega
theorem mo_0 : moR c_0 mo_I0 := by
  refine ⟨wf_0, ⟨rfl, fun j hj => ?_⟩, by unfold moS; decide, fun v hv => ?_, ⟨rfl, fun k hk => ?_⟩⟩
  · have : (c_0 0 0) = 0 := rfl
    omega
  · rcases (show v = 0 ∨ v = 1 ∨ v = 2 ∨ v = 3 by omega) with rfl | rfl | rfl | rfl <;> decide
  · have : (c_0 0 8) = 0 := rfl
    omega
set_option maxHeartbeats 8000000 in
set_option maxRecDepth 100000 in
theorem whole_start {p : Program} {e : Env} {s : State} {m : MethodId} {below : List Frame} {meth : Method} {c : Code} (l : Launch) {b L : Nat} {xs : Nat → Int32} (hL : L ≤ 3072) (C0 : lw_At p s m meth c b L xs) : W p l e room_1 s m #[Value.ref b] below meth c s.heap [] 0 0 (lw_Z below #[Value.ref b] s) (entryFrame m ([Value.ref b] : List Value).toArray 4) := by
  obtain ⟨hx, hb, hr, hml, hown, hts, hX, hbl, hlocks, hgv⟩ := id C0
  have htA : ∀ w ∈ wA, w.before #[Value.ref b] s = true := fun w h => hts w (wA_tbl w h).1
  obtain ⟨c0, i0, k0⟩ := u_known (C := "CanonMaker$Subject") (T := T_Subject) (N := 3) (n := 3) htA in_Subject (htA _ wd_59)
  obtain ⟨c1, i1, k1⟩ := u_known (C := "CanonMaker$Voice") (T := T_Voice) (N := 5) (n := 5) htA in_Voice (htA _ wd_260)
  obtain ⟨c2, i2, k2⟩ := u_known (C := "CanonMaker$Bounds") (T := T_Bounds) (N := 5) (n := 5) htA in_Bounds (htA _ wd_84)
  obtain ⟨c3, i3, k3⟩ := u_known (C := "CanonMaker$Line") (T := T_Line) (N := 12) (n := 12) htA in_Line (htA _ wd_121)
  obtain ⟨c4, i4, k4⟩ := u_known (C := "CanonMaker$Score") (T := T_Score) (N := 6) (n := 6) htA in_Score (htA _ wd_114)
  obtain ⟨c5, i5, k5⟩ := u_known (C := "CanonMaker$Judge") (T := T_Judge) (N := 15) (n := 15) htA in_Judge (htA _ wd_204)
  obtain ⟨c6, i6, k6⟩ := u_known (C := "CanonMaker") (T := T_CM) (N := 11) (n := 11) htA in_CM (htA _ wd_51)
  obtain ⟨c7, i7, k7⟩ := u_known (C := "CanonMakerModel") (T := T_Mo) (N := 29) (n := 29) htA in_Mo (htA _ wd_590)
  obtain ⟨dC, dI, hKc⟩ : ∃ (dC : Nat → ClassId) (dI : Nat → Nat → Nat), ∀ (k : Nat) (q : vw_C), cmcl[k]? = some q → u_Kn s q.1 q.2.1 q.2.2 (dC k) (dI k) := by
    refine ⟨fun k => if k = 0 then c0 else if k = 1 then c1 else if k = 2 then c2 else if k = 3 then c3 else if k = 4 then c4 else if k = 5 then c5 else if k = 6 then c6 else c7, fun k => if k = 0 then i0 else if k = 1 then i1 else if k = 2 then i2 else if k = 3 then i3 else if k = 4 then i4 else if k = 5 then i5 else if k = 6 then i6 else i7, ?_⟩
    intro k q hq
    match k, hq with
    | 0, hq => cases hq; exact k0
    | 1, hq => cases hq; exact k1
    | 2, hq => cases hq; exact k2
    | 3, hq => cases hq; exact k3
    | 4, hq => cases hq; exact k4
    | 5, hq => cases hq; exact k5
    | 6, hq => cases hq; exact k6
    | 7, hq => cases hq; exact k7
    | k + 8, hq => simp [cmcl] at hq
  obtain ⟨cI, kI, pI, fI, gI, hI⟩ := Cond.arrayClass_spec (htA _ wd_80)
  obtain ⟨cZ, kZ, pZ, fZ, gZ, hZ⟩ := Cond.arrayClass_spec (htA _ wd_259)
  have oV : (Cond.arrayOver (.object "CanonMaker$Voice")).before #[Value.ref b] s = true := hts _ (by decide +kernel)
  have oL : (Cond.arrayOver (.object "CanonMaker$Line")).before #[Value.ref b] s = true := hts _ (by decide +kernel)
  obtain ⟨pV, cV, kV, v1, v2, v3, v4, v5⟩ := Cond.arrayOver_spec oV
  obtain ⟨pL, cL, kL, l1, l2, l3, l4, l5⟩ := Cond.arrayOver_spec oL
  obtain ⟨cs, hcs⟩ : ∃ cs : Nat → ClassId, cs 0 = cI ∧ cs 1 = cZ ∧ cs 2 = cV ∧ cs 3 = cL := ⟨fun k => if k = 0 then cI else if k = 1 then cZ else if k = 2 then cV else cL, rfl, rfl, rfl, rfl⟩
  have hK : va_K (dC, dI) cmcl (cm_tys cs) s := by
    refine ⟨hKc, fun k q hq => ?_⟩
    match k, hq with
    | 0, hq => cases hq; exact ⟨fun N z => ⟨(fun k h => by cases h), kI, by rw [hcs.1]; exact gI, pI, hI⟩, by rw [hcs.1]; exact fI⟩
    | 1, hq => cases hq; exact ⟨fun N z => ⟨(fun k h => by cases h), kZ, by rw [hcs.2.1]; exact gZ, pZ, hZ⟩, by rw [hcs.2.1]; exact fZ⟩
    | 2, hq => cases hq; exact ⟨fun N z => ⟨(fun k h => by cases h), kV, by rw [hcs.2.2.1]; exact v3, pV, v4⟩, kV, pV, by rw [hcs.2.2.1]; exact v3, v4, v1, by rw [hcs.2.2.1]; exact v5⟩
    | 3, hq => cases hq; exact ⟨fun N z => ⟨(fun k h => by cases h), kL, by rw [hcs.2.2.2]; exact l3, pL, l4⟩, kL, pL, by rw [hcs.2.2.2]; exact l3, l4, l1, by rw [hcs.2.2.2]; exact l5⟩
    | k + 4, hq => simp [cm_tys] at hq
  have hA : ∀ q : Nat, s.heap.size ≤ q → (fun q : Nat => s.heap.size ≤ q) q := fun _ h => h
  have hnA : ∀ a : Nat, a < s.heap.size → ¬ (fun q : Nat => s.heap.size ≤ q) a := fun a h => Nat.not_le.mpr h
  have hs := flat_of_before _ hgv
  have hel : ∀ j : Nat, j < 7 → (Term.elem (.static "CanonMaker" "TOLD_ORDER" "[I") (.int (Int32.ofNat j))).eval #[Value.ref b] s none [] s = some (.int (zi (cm_told j))) := by
    intro j hj
    rcases (show j = 0 ∨ j = 1 ∨ j = 2 ∨ j = 3 ∨ j = 4 ∨ j = 5 ∨ j = 6 by omega) with rfl | rfl | rfl | rfl | rfl | rfl | rfl
    · exact va_eqt (z := 1) (hs _ (by decide +kernel))
    · exact va_eqt (z := 2) (hs _ (by decide +kernel))
    · exact va_eqt (z := 4) (hs _ (by decide +kernel))
    · exact va_eqt (z := 16) (hs _ (by decide +kernel))
    · exact va_eqt (z := 32) (hs _ (by decide +kernel))
    · exact va_eqt (z := 64) (hs _ (by decide +kernel))
    · exact va_eqt (z := 128) (hs _ (by decide +kernel))
  obtain ⟨zt, hzt, hT⟩ := va_Tof (tm := .static "CanonMaker" "TOLD_ORDER" "[I") (ty := .int) (N := 7) (f := fun j => .int (zi (cm_told j))) (A := fun q : Nat => s.heap.size ≤ q) (by decide) (hs _ (by decide +kernel)) (va_eqt (z := 7) (hs _ (by decide +kernel))) hel hnA
  have hzZ := va_Zof (C := "CanonMaker") (n := "TOLD_ORDER") (d := "[I") (A := fun q : Nat => s.heap.size ≤ q) (hts (.laysStatic "CanonMaker" "TOLD_ORDER" "[I") (by decide +kernel)) (hts (.initialized "CanonMaker") (by decide +kernel)) hzt hnA
  have hzz : mk_Z (cm_zs zt) (fun q : Nat => s.heap.size ≤ q) s s.heap := by
    intro z hz
    have e : z = cmZ zt := List.mem_singleton.mp hz
    subst e
    exact ⟨hzZ, hT, va_Nw.of rfl (hts (.fieldLinkNest "CanonMaker$Judge" 60 "CanonMaker" "TOLD_ORDER" "[I" "CanonMaker") (by decide +kernel))⟩
  have hns : ∀ w ∈ ([Cond.arrayOver (.object "CanonMaker$Voice"), Cond.arrayOver (.object "CanonMaker$Line"), Cond.methodLinkNest "CanonMaker$Score" 30 y_Line_init "CanonMaker", Cond.methodLinkNest "CanonMaker" 11 y_Subject_init "CanonMaker", Cond.methodLinkNest "CanonMaker" 24 y_Bounds_init "CanonMaker", Cond.methodLinkNest "CanonMaker" 52 y_Voice_init "CanonMaker"] : List Cond), mb_nw w s := by
    intro w hw
    simp only [List.mem_cons, List.not_mem_nil, or_false] at hw
    rcases hw with rfl | rfl | rfl | rfl | rfl | rfl
    · exact ⟨va_AO.of oV, Or.inr ⟨_, rfl⟩⟩
    · exact ⟨va_AO.of oL, Or.inr ⟨_, rfl⟩⟩
    · exact ⟨va_Nw.of rfl (hts _ (by decide +kernel)), Or.inl ⟨_, _, _, _, rfl⟩⟩
    · exact ⟨va_Nw.of rfl (hts _ (by decide +kernel)), Or.inl ⟨_, _, _, _, rfl⟩⟩
    · exact ⟨va_Nw.of rfl (hts _ (by decide +kernel)), Or.inl ⟨_, _, _, _, rfl⟩⟩
    · exact ⟨va_Nw.of rfl (hts _ (by decide +kernel)), Or.inl ⟨_, _, _, _, rfl⟩⟩
  have hfix : CallFix p m c code 4 s #[Value.ref b] wA "CanonMakerLaw" := ⟨hx, hb, hml, hown, htA⟩
  have X : mb_X p m c code 4 s #[Value.ref b] wA "CanonMakerLaw" (dC, dI) cmcl (cm_tys cs) (fun q : Nat => s.heap.size ≤ q) [Cond.arrayOver (.object "CanonMaker$Voice"), Cond.arrayOver (.object "CanonMaker$Line"), Cond.methodLinkNest "CanonMaker$Score" 30 y_Line_init "CanonMaker", Cond.methodLinkNest "CanonMaker" 11 y_Subject_init "CanonMaker", Cond.methodLinkNest "CanonMaker" 24 y_Bounds_init "CanonMaker", Cond.methodLinkNest "CanonMaker" 52 y_Voice_init "CanonMaker"] := ⟨hfix, hK, hA, hns⟩
  have hl := lv_entry ([.ref b]) (n := 4) (Nat.le_of_ble_eq_true rfl)
  rw [lg_entry_eq]
  have go : mb_A p l e room_1 s m #[Value.ref b] below meth c (lw_Z below #[Value.ref b] s) 4 (dC, dI) cmcl (fun q : Nat => s.heap.size ≤ q) [] 0 0 [(0, .ref b)] 0 [] := by
    refine mb_new (nx := 3) (ci := 6) X in_CM t_CM t_CM_ok wd_50 wd_51 wd_40 rfl [.null, .null, .null, .null, .null, .null, .null, .int 0, .int 0, .int 0, .int 0] (fun j hj => by rcases (show j = 0 ∨ j = 1 ∨ j = 2 ∨ j = 3 ∨ j = 4 ∨ j = 5 ∨ j = 6 ∨ j = 7 ∨ j = 8 ∨ j = 9 ∨ j = 10 by omega) with rfl | rfl | rfl | rfl | rfl | rfl | rfl | rfl | rfl | rfl | rfl <;> rfl) (Nat.le_of_ble_eq_true rfl) (Nat.le_of_ble_eq_true rfl) d_law_0 rfl (fun q1 => ?_)
    refine mb_dup (nx := 4) X d_law_3 rfl rfl ?_
    refine mb_init (nx := 7) (j := 0) (As := []) (rest := [.ref q1]) (wr := []) X [0] [] [0, 1, 2, 3] (c_CM_init l (dC, dI) cs q1) (wA_c wd_54) rfl ⟨rfl, rfl⟩ wd_40 rfl (by decide +kernel) (Or.inr wd_52) wd_53 rfl (by decide +kernel) ⟨by decide, by decide⟩ rfl (Nat.le_of_ble_eq_true rfl) rfl ⟨Nat.le_of_ble_eq_true rfl, Nat.le_of_ble_eq_true rfl⟩ rfl rfl rfl rfl rfl (by decide) (by decide) (by decide) d_law_4 rfl (fun u1 => ?_)
    refine mb_astoren (nx := 8) X [(1, .ref q1), (0, .ref b)] d_law_7 (by decide) rfl rfl ?_
    refine mb_new (nx := 11) (ci := 7) X in_Mo t_Mo t_Mo_ok wd_589 wd_590 wd_47 rfl [.null, .null, .int 0, .null, .null, .null, .null, .null, .int 0, .int 0, .int 0, .int 0, .int 0, .int 0, .int 0, .null, .null, .null, .null, .int 0, .int 0, .int 0, .int 0, .int 0, .null, .null, .null, .int 0, .null] (fun j hj => by rcases (show j = 0 ∨ j = 1 ∨ j = 2 ∨ j = 3 ∨ j = 4 ∨ j = 5 ∨ j = 6 ∨ j = 7 ∨ j = 8 ∨ j = 9 ∨ j = 10 ∨ j = 11 ∨ j = 12 ∨ j = 13 ∨ j = 14 ∨ j = 15 ∨ j = 16 ∨ j = 17 ∨ j = 18 ∨ j = 19 ∨ j = 20 ∨ j = 21 ∨ j = 22 ∨ j = 23 ∨ j = 24 ∨ j = 25 ∨ j = 26 ∨ j = 27 ∨ j = 28 by omega) with rfl | rfl | rfl | rfl | rfl | rfl | rfl | rfl | rfl | rfl | rfl | rfl | rfl | rfl | rfl | rfl | rfl | rfl | rfl | rfl | rfl | rfl | rfl | rfl | rfl | rfl | rfl | rfl | rfl <;> rfl) (Nat.le_of_ble_eq_true rfl) (Nat.le_of_ble_eq_true rfl) d_law_8 rfl (fun q2 => ?_)
    refine mb_dup (nx := 12) X d_law_11 rfl rfl ?_
    refine mb_init (nx := 15) (j := 0) (As := []) (rest := [.ref q2]) (wr := [(q1, .inr (6, [.ref (u1 0), .ref (u1 3), .ref (u1 4), .ref (u1 5), .ref (u1 35), .ref (u1 41), .ref (u1 42), .int 0, .int 0, .int 0, .int 0])), ((u1 0), .inr (0, [.ref (u1 1), .ref (u1 2), .int 0])), ((u1 1), .inl (cs 0, 24, .inl (fun _ => 0))), ((u1 2), .inl (cs 0, 24, .inl (fun _ => 0))), ((u1 3), .inl (cs 2, 4, .inr (.inr (.inr (.inr (fun j => some (([(u1 43), (u1 44), (u1 45), (u1 46)] : List Nat).getD j 0))))))), ((u1 4), .inr (2, [.int 0, .int (zi 127), .int (zi 4095), .int (zi 4), .int 0])), ((u1 5), .inr (4, [.ref (u1 6), .ref (u1 7), .ref (u1 8), .ref (u1 9), .ref (u1 10), .int 0])), ((u1 6), .inl (cs 3, 4, .inr (.inr (.inr (.inr (fun j => some (([(u1 11), (u1 17), (u1 23), (u1 29)] : List Nat).getD j 0))))))), ((u1 7), .inl (cs 0, 96, .inl (fun _ => 0))), ((u1 8), .inl (cs 0, 96, .inl (fun _ => 0))), ((u1 9), .inl (cs 0, 384, .inl (fun _ => 0))), ((u1 10), .inl (cs 0, 96, .inl (fun _ => 0))), ((u1 11), .inr (3, [.ref (u1 12), .ref (u1 13), .ref (u1 14), .ref (u1 15), .ref (u1 16), .int 0, .int 0, .int 0, .int 0, .int 0, .int 0, .int 0])), ((u1 12), .inl (cs 0, 24, .inl (fun _ => 0))), ((u1 13), .inl (cs 0, 24, .inl (fun _ => 0))), ((u1 14), .inl (cs 0, 24, .inl (fun _ => 0))), ((u1 15), .inl (cs 0, 24, .inl (fun _ => 0))), ((u1 16), .inl (cs 0, 24, .inl (fun _ => 0))), ((u1 17), .inr (3, [.ref (u1 18), .ref (u1 19), .ref (u1 20), .ref (u1 21), .ref (u1 22), .int 0, .int 0, .int 0, .int 0, .int 0, .int 0, .int 0])), ((u1 18), .inl (cs 0, 24, .inl (fun _ => 0))), ((u1 19), .inl (cs 0, 24, .inl (fun _ => 0))), ((u1 20), .inl (cs 0, 24, .inl (fun _ => 0))), ((u1 21), .inl (cs 0, 24, .inl (fun _ => 0))), ((u1 22), .inl (cs 0, 24, .inl (fun _ => 0))), ((u1 23), .inr (3, [.ref (u1 24), .ref (u1 25), .ref (u1 26), .ref (u1 27), .ref (u1 28), .int 0, .int 0, .int 0, .int 0, .int 0, .int 0, .int 0])), ((u1 24), .inl (cs 0, 24, .inl (fun _ => 0))), ((u1 25), .inl (cs 0, 24, .inl (fun _ => 0))), ((u1 26), .inl (cs 0, 24, .inl (fun _ => 0))), ((u1 27), .inl (cs 0, 24, .inl (fun _ => 0))), ((u1 28), .inl (cs 0, 24, .inl (fun _ => 0))), ((u1 29), .inr (3, [.ref (u1 30), .ref (u1 31), .ref (u1 32), .ref (u1 33), .ref (u1 34), .int 0, .int 0, .int 0, .int 0, .int 0, .int 0, .int 0])), ((u1 30), .inl (cs 0, 24, .inl (fun _ => 0))), ((u1 31), .inl (cs 0, 24, .inl (fun _ => 0))), ((u1 32), .inl (cs 0, 24, .inl (fun _ => 0))), ((u1 33), .inl (cs 0, 24, .inl (fun _ => 0))), ((u1 34), .inl (cs 0, 24, .inl (fun _ => 0))), ((u1 35), .inr (5, [.ref (u1 5), .ref (u1 4), .ref (u1 36), .ref (u1 37), .ref (u1 38), .ref (u1 39), .ref (u1 40), .int 0, .int 0, .int 0, .int 0, .int 0, .int 0, .int 0, .int 0])), ((u1 36), .inl (cs 0, 4, .inl (fun _ => 0))), ((u1 37), .inl (cs 1, 4, .inl (fun _ => 0))), ((u1 38), .inl (cs 0, 4, .inl (fun _ => 0))), ((u1 39), .inl (cs 0, 4, .inl (fun _ => 0))), ((u1 40), .inl (cs 0, 4, .inl (fun _ => 0))), ((u1 41), .inl (cs 0, 24, .inl (fun _ => 0))), ((u1 42), .inl (cs 0, 2525, .inl (fun _ => 0))), ((u1 43), .inr (1, [.int (zi 1), .int 0, .int 0, .int 0, .int (zi 1)])), ((u1 44), .inr (1, [.int 0, .int 0, .int 0, .int 0, .int (zi 1)])), ((u1 45), .inr (1, [.int 0, .int 0, .int 0, .int 0, .int (zi 1)])), ((u1 46), .inr (1, [.int 0, .int 0, .int 0, .int 0, .int (zi 1)]))]) X [48] [0, 1, 2, 3, 4, 5, 6, 7, 8, 9, 10, 11, 12, 13, 14, 15, 16, 17, 18, 19, 20, 21, 22, 23, 24, 25, 26, 27, 28, 29, 30, 31, 32, 33, 34, 35, 36, 37, 38, 39, 40, 41, 42, 43, 44, 45, 46, 47] [0, 1] (c_Mo_init l (dC, dI) cs q2) (wA_c wd_593) rfl ⟨rfl, rfl⟩ wd_47 rfl (by decide +kernel) (Or.inr wd_591) wd_592 rfl (by decide +kernel) ⟨by decide, by decide⟩ rfl (Nat.le_of_ble_eq_true rfl) rfl ⟨Nat.le_of_ble_eq_true rfl, Nat.le_of_ble_eq_true rfl⟩ rfl rfl rfl rfl rfl (by decide) (by decide) (by decide) d_law_12 rfl (fun u2 => ?_)
    refine mb_astoren (nx := 16) X [(2, .ref q2), (1, .ref q1), (0, .ref b)] d_law_15 (by decide) rfl rfl ?_
    refine mb_iconst (nx := 17) X d_law_16 rfl ?_
    refine mb_istoren (nx := 18) X [(3, .int (zi 0)), (2, .ref q2), (1, .ref q1), (0, .ref b)] d_law_17 (by decide) rfl rfl ?_
    obtain ⟨a1, ha1⟩ : ∃ a1 : Nat → Nat, a1 = fun k => if k = 0 then q1 else u1 (k - 1) := ⟨_, rfl⟩
    obtain ⟨a2, ha2⟩ : ∃ a2 : Nat → Nat, a2 = fun k => if k = 0 then q2 else u2 (k - 1) := ⟨_, rfl⟩
    refine mb_refs (ws' := [(q1, .inr (6, [.ref (u1 0), .ref (u1 3), .ref (u1 4), .ref (u1 5), .ref (u1 35), .ref (u1 41), .ref (u1 42), .int 0, .int 0, .int 0, .int 0])), ((u1 0), .inr (0, [.ref (u1 1), .ref (u1 2), .int 0])), ((u1 1), .inl (cs 0, 24, .inl (fun _ => 0))), ((u1 2), .inl (cs 0, 24, .inl (fun _ => 0))), ((u1 3), .inl (cs 2, 4, .inr (.inr (.inr (.inr (fun j => some (a1 (44 + j)))))))), ((u1 4), .inr (2, [.int 0, .int (zi 127), .int (zi 4095), .int (zi 4), .int 0])), ((u1 5), .inr (4, [.ref (u1 6), .ref (u1 7), .ref (u1 8), .ref (u1 9), .ref (u1 10), .int 0])), ((u1 6), .inl (cs 3, 4, .inr (.inr (.inr (.inr (fun j => some (([(u1 11), (u1 17), (u1 23), (u1 29)] : List Nat).getD j 0))))))), ((u1 7), .inl (cs 0, 96, .inl (fun _ => 0))), ((u1 8), .inl (cs 0, 96, .inl (fun _ => 0))), ((u1 9), .inl (cs 0, 384, .inl (fun _ => 0))), ((u1 10), .inl (cs 0, 96, .inl (fun _ => 0))), ((u1 11), .inr (3, [.ref (u1 12), .ref (u1 13), .ref (u1 14), .ref (u1 15), .ref (u1 16), .int 0, .int 0, .int 0, .int 0, .int 0, .int 0, .int 0])), ((u1 12), .inl (cs 0, 24, .inl (fun _ => 0))), ((u1 13), .inl (cs 0, 24, .inl (fun _ => 0))), ((u1 14), .inl (cs 0, 24, .inl (fun _ => 0))), ((u1 15), .inl (cs 0, 24, .inl (fun _ => 0))), ((u1 16), .inl (cs 0, 24, .inl (fun _ => 0))), ((u1 17), .inr (3, [.ref (u1 18), .ref (u1 19), .ref (u1 20), .ref (u1 21), .ref (u1 22), .int 0, .int 0, .int 0, .int 0, .int 0, .int 0, .int 0])), ((u1 18), .inl (cs 0, 24, .inl (fun _ => 0))), ((u1 19), .inl (cs 0, 24, .inl (fun _ => 0))), ((u1 20), .inl (cs 0, 24, .inl (fun _ => 0))), ((u1 21), .inl (cs 0, 24, .inl (fun _ => 0))), ((u1 22), .inl (cs 0, 24, .inl (fun _ => 0))), ((u1 23), .inr (3, [.ref (u1 24), .ref (u1 25), .ref (u1 26), .ref (u1 27), .ref (u1 28), .int 0, .int 0, .int 0, .int 0, .int 0, .int 0, .int 0])), ((u1 24), .inl (cs 0, 24, .inl (fun _ => 0))), ((u1 25), .inl (cs 0, 24, .inl (fun _ => 0))), ((u1 26), .inl (cs 0, 24, .inl (fun _ => 0))), ((u1 27), .inl (cs 0, 24, .inl (fun _ => 0))), ((u1 28), .inl (cs 0, 24, .inl (fun _ => 0))), ((u1 29), .inr (3, [.ref (u1 30), .ref (u1 31), .ref (u1 32), .ref (u1 33), .ref (u1 34), .int 0, .int 0, .int 0, .int 0, .int 0, .int 0, .int 0])), ((u1 30), .inl (cs 0, 24, .inl (fun _ => 0))), ((u1 31), .inl (cs 0, 24, .inl (fun _ => 0))), ((u1 32), .inl (cs 0, 24, .inl (fun _ => 0))), ((u1 33), .inl (cs 0, 24, .inl (fun _ => 0))), ((u1 34), .inl (cs 0, 24, .inl (fun _ => 0))), ((u1 35), .inr (5, [.ref (u1 5), .ref (u1 4), .ref (u1 36), .ref (u1 37), .ref (u1 38), .ref (u1 39), .ref (u1 40), .int 0, .int 0, .int 0, .int 0, .int 0, .int 0, .int 0, .int 0])), ((u1 36), .inl (cs 0, 4, .inl (fun _ => 0))), ((u1 37), .inl (cs 1, 4, .inl (fun _ => 0))), ((u1 38), .inl (cs 0, 4, .inl (fun _ => 0))), ((u1 39), .inl (cs 0, 4, .inl (fun _ => 0))), ((u1 40), .inl (cs 0, 4, .inl (fun _ => 0))), ((u1 41), .inl (cs 0, 24, .inl (fun _ => 0))), ((u1 42), .inl (cs 0, 2525, .inl (fun _ => 0))), ((u1 43), .inr (1, [.int (zi 1), .int 0, .int 0, .int 0, .int (zi 1)])), ((u1 44), .inr (1, [.int 0, .int 0, .int 0, .int 0, .int (zi 1)])), ((u1 45), .inr (1, [.int 0, .int 0, .int 0, .int 0, .int (zi 1)])), ((u1 46), .inr (1, [.int 0, .int 0, .int 0, .int 0, .int (zi 1)])), (q2, .inr (7, [.ref (u2 0), .ref (u2 1), .int 0, .ref (u2 2), .ref (u2 3), .ref (u2 4), .ref (u2 5), .ref (u2 6), .int 0, .int (zi 127), .int (zi 4095), .int (zi 4), .int 0, .int 0, .int 0, .ref (u2 7), .ref (u2 8), .ref (u2 9), .ref (u2 10), .int 0, .int 0, .int 0, .int 0, .int 0, .ref (u2 11), .ref (u2 12), .ref (u2 13), .int 0, .ref (u2 14)])), ((u2 0), .inl (cs 0, 24, .inl (fun _ => 0))), ((u2 1), .inl (cs 0, 24, .inl (fun _ => 0))), ((u2 2), .inl (cs 1, 4, .inl (fun j => zi (([1, 0, 0, 0] : List Int).getD j 0)))), ((u2 3), .inl (cs 0, 4, .inl (fun _ => 0))), ((u2 4), .inl (cs 0, 4, .inl (fun _ => 0))), ((u2 5), .inl (cs 0, 4, .inl (fun _ => 0))), ((u2 6), .inl (cs 0, 4, .inl (fun j => zi (([1, 1, 1, 1] : List Int).getD j 0)))), ((u2 7), .inl (cs 0, 5200, .inl (fun _ => 0))), ((u2 8), .inl (cs 1, 5200, .inl (fun _ => 0))), ((u2 9), .inl (cs 0, 5200, .inl (fun _ => 0))), ((u2 10), .inl (cs 0, 96, .inl (fun _ => 0))), ((u2 11), .inl (cs 0, 24, .inl (fun _ => 0))), ((u2 12), .inl (cs 0, 2600, .inl (fun _ => 0))), ((u2 13), .inl (cs 0, 2600, .inl (fun _ => 0))), ((u2 14), .inl (cs 1, 4, .inl (fun _ => 0)))]) 4 rfl (by intro j hj; rcases (show j = 0 ∨ j = 1 ∨ j = 2 ∨ j = 3 by omega) with rfl | rfl | rfl | rfl <;> (rw [ha1]; rfl)) rfl ?_
    refine mb_refs (ws' := [(q1, .inr (6, [.ref (u1 0), .ref (u1 3), .ref (u1 4), .ref (u1 5), .ref (u1 35), .ref (u1 41), .ref (u1 42), .int 0, .int 0, .int 0, .int 0])), ((u1 0), .inr (0, [.ref (u1 1), .ref (u1 2), .int 0])), ((u1 1), .inl (cs 0, 24, .inl (fun _ => 0))), ((u1 2), .inl (cs 0, 24, .inl (fun _ => 0))), ((u1 3), .inl (cs 2, 4, .inr (.inr (.inr (.inr (fun j => some (a1 (44 + j)))))))), ((u1 4), .inr (2, [.int 0, .int (zi 127), .int (zi 4095), .int (zi 4), .int 0])), ((u1 5), .inr (4, [.ref (u1 6), .ref (u1 7), .ref (u1 8), .ref (u1 9), .ref (u1 10), .int 0])), ((u1 6), .inl (cs 3, 4, .inr (.inr (.inr (.inr (fun j => some (a1 (12 + 6 * j)))))))), ((u1 7), .inl (cs 0, 96, .inl (fun _ => 0))), ((u1 8), .inl (cs 0, 96, .inl (fun _ => 0))), ((u1 9), .inl (cs 0, 384, .inl (fun _ => 0))), ((u1 10), .inl (cs 0, 96, .inl (fun _ => 0))), ((u1 11), .inr (3, [.ref (u1 12), .ref (u1 13), .ref (u1 14), .ref (u1 15), .ref (u1 16), .int 0, .int 0, .int 0, .int 0, .int 0, .int 0, .int 0])), ((u1 12), .inl (cs 0, 24, .inl (fun _ => 0))), ((u1 13), .inl (cs 0, 24, .inl (fun _ => 0))), ((u1 14), .inl (cs 0, 24, .inl (fun _ => 0))), ((u1 15), .inl (cs 0, 24, .inl (fun _ => 0))), ((u1 16), .inl (cs 0, 24, .inl (fun _ => 0))), ((u1 17), .inr (3, [.ref (u1 18), .ref (u1 19), .ref (u1 20), .ref (u1 21), .ref (u1 22), .int 0, .int 0, .int 0, .int 0, .int 0, .int 0, .int 0])), ((u1 18), .inl (cs 0, 24, .inl (fun _ => 0))), ((u1 19), .inl (cs 0, 24, .inl (fun _ => 0))), ((u1 20), .inl (cs 0, 24, .inl (fun _ => 0))), ((u1 21), .inl (cs 0, 24, .inl (fun _ => 0))), ((u1 22), .inl (cs 0, 24, .inl (fun _ => 0))), ((u1 23), .inr (3, [.ref (u1 24), .ref (u1 25), .ref (u1 26), .ref (u1 27), .ref (u1 28), .int 0, .int 0, .int 0, .int 0, .int 0, .int 0, .int 0])), ((u1 24), .inl (cs 0, 24, .inl (fun _ => 0))), ((u1 25), .inl (cs 0, 24, .inl (fun _ => 0))), ((u1 26), .inl (cs 0, 24, .inl (fun _ => 0))), ((u1 27), .inl (cs 0, 24, .inl (fun _ => 0))), ((u1 28), .inl (cs 0, 24, .inl (fun _ => 0))), ((u1 29), .inr (3, [.ref (u1 30), .ref (u1 31), .ref (u1 32), .ref (u1 33), .ref (u1 34), .int 0, .int 0, .int 0, .int 0, .int 0, .int 0, .int 0])), ((u1 30), .inl (cs 0, 24, .inl (fun _ => 0))), ((u1 31), .inl (cs 0, 24, .inl (fun _ => 0))), ((u1 32), .inl (cs 0, 24, .inl (fun _ => 0))), ((u1 33), .inl (cs 0, 24, .inl (fun _ => 0))), ((u1 34), .inl (cs 0, 24, .inl (fun _ => 0))), ((u1 35), .inr (5, [.ref (u1 5), .ref (u1 4), .ref (u1 36), .ref (u1 37), .ref (u1 38), .ref (u1 39), .ref (u1 40), .int 0, .int 0, .int 0, .int 0, .int 0, .int 0, .int 0, .int 0])), ((u1 36), .inl (cs 0, 4, .inl (fun _ => 0))), ((u1 37), .inl (cs 1, 4, .inl (fun _ => 0))), ((u1 38), .inl (cs 0, 4, .inl (fun _ => 0))), ((u1 39), .inl (cs 0, 4, .inl (fun _ => 0))), ((u1 40), .inl (cs 0, 4, .inl (fun _ => 0))), ((u1 41), .inl (cs 0, 24, .inl (fun _ => 0))), ((u1 42), .inl (cs 0, 2525, .inl (fun _ => 0))), ((u1 43), .inr (1, [.int (zi 1), .int 0, .int 0, .int 0, .int (zi 1)])), ((u1 44), .inr (1, [.int 0, .int 0, .int 0, .int 0, .int (zi 1)])), ((u1 45), .inr (1, [.int 0, .int 0, .int 0, .int 0, .int (zi 1)])), ((u1 46), .inr (1, [.int 0, .int 0, .int 0, .int 0, .int (zi 1)])), (q2, .inr (7, [.ref (u2 0), .ref (u2 1), .int 0, .ref (u2 2), .ref (u2 3), .ref (u2 4), .ref (u2 5), .ref (u2 6), .int 0, .int (zi 127), .int (zi 4095), .int (zi 4), .int 0, .int 0, .int 0, .ref (u2 7), .ref (u2 8), .ref (u2 9), .ref (u2 10), .int 0, .int 0, .int 0, .int 0, .int 0, .ref (u2 11), .ref (u2 12), .ref (u2 13), .int 0, .ref (u2 14)])), ((u2 0), .inl (cs 0, 24, .inl (fun _ => 0))), ((u2 1), .inl (cs 0, 24, .inl (fun _ => 0))), ((u2 2), .inl (cs 1, 4, .inl (fun j => zi (([1, 0, 0, 0] : List Int).getD j 0)))), ((u2 3), .inl (cs 0, 4, .inl (fun _ => 0))), ((u2 4), .inl (cs 0, 4, .inl (fun _ => 0))), ((u2 5), .inl (cs 0, 4, .inl (fun _ => 0))), ((u2 6), .inl (cs 0, 4, .inl (fun j => zi (([1, 1, 1, 1] : List Int).getD j 0)))), ((u2 7), .inl (cs 0, 5200, .inl (fun _ => 0))), ((u2 8), .inl (cs 1, 5200, .inl (fun _ => 0))), ((u2 9), .inl (cs 0, 5200, .inl (fun _ => 0))), ((u2 10), .inl (cs 0, 96, .inl (fun _ => 0))), ((u2 11), .inl (cs 0, 24, .inl (fun _ => 0))), ((u2 12), .inl (cs 0, 2600, .inl (fun _ => 0))), ((u2 13), .inl (cs 0, 2600, .inl (fun _ => 0))), ((u2 14), .inl (cs 1, 4, .inl (fun _ => 0)))]) 7 rfl (by intro j hj; rcases (show j = 0 ∨ j = 1 ∨ j = 2 ∨ j = 3 by omega) with rfl | rfl | rfl | rfl <;> (rw [ha1]; rfl)) rfl ?_
    have hws : ([(q1, .inr (6, [.ref (u1 0), .ref (u1 3), .ref (u1 4), .ref (u1 5), .ref (u1 35), .ref (u1 41), .ref (u1 42), .int 0, .int 0, .int 0, .int 0])), ((u1 0), .inr (0, [.ref (u1 1), .ref (u1 2), .int 0])), ((u1 1), .inl (cs 0, 24, .inl (fun _ => 0))), ((u1 2), .inl (cs 0, 24, .inl (fun _ => 0))), ((u1 3), .inl (cs 2, 4, .inr (.inr (.inr (.inr (fun j => some (a1 (44 + j)))))))), ((u1 4), .inr (2, [.int 0, .int (zi 127), .int (zi 4095), .int (zi 4), .int 0])), ((u1 5), .inr (4, [.ref (u1 6), .ref (u1 7), .ref (u1 8), .ref (u1 9), .ref (u1 10), .int 0])), ((u1 6), .inl (cs 3, 4, .inr (.inr (.inr (.inr (fun j => some (a1 (12 + 6 * j)))))))), ((u1 7), .inl (cs 0, 96, .inl (fun _ => 0))), ((u1 8), .inl (cs 0, 96, .inl (fun _ => 0))), ((u1 9), .inl (cs 0, 384, .inl (fun _ => 0))), ((u1 10), .inl (cs 0, 96, .inl (fun _ => 0))), ((u1 11), .inr (3, [.ref (u1 12), .ref (u1 13), .ref (u1 14), .ref (u1 15), .ref (u1 16), .int 0, .int 0, .int 0, .int 0, .int 0, .int 0, .int 0])), ((u1 12), .inl (cs 0, 24, .inl (fun _ => 0))), ((u1 13), .inl (cs 0, 24, .inl (fun _ => 0))), ((u1 14), .inl (cs 0, 24, .inl (fun _ => 0))), ((u1 15), .inl (cs 0, 24, .inl (fun _ => 0))), ((u1 16), .inl (cs 0, 24, .inl (fun _ => 0))), ((u1 17), .inr (3, [.ref (u1 18), .ref (u1 19), .ref (u1 20), .ref (u1 21), .ref (u1 22), .int 0, .int 0, .int 0, .int 0, .int 0, .int 0, .int 0])), ((u1 18), .inl (cs 0, 24, .inl (fun _ => 0))), ((u1 19), .inl (cs 0, 24, .inl (fun _ => 0))), ((u1 20), .inl (cs 0, 24, .inl (fun _ => 0))), ((u1 21), .inl (cs 0, 24, .inl (fun _ => 0))), ((u1 22), .inl (cs 0, 24, .inl (fun _ => 0))), ((u1 23), .inr (3, [.ref (u1 24), .ref (u1 25), .ref (u1 26), .ref (u1 27), .ref (u1 28), .int 0, .int 0, .int 0, .int 0, .int 0, .int 0, .int 0])), ((u1 24), .inl (cs 0, 24, .inl (fun _ => 0))), ((u1 25), .inl (cs 0, 24, .inl (fun _ => 0))), ((u1 26), .inl (cs 0, 24, .inl (fun _ => 0))), ((u1 27), .inl (cs 0, 24, .inl (fun _ => 0))), ((u1 28), .inl (cs 0, 24, .inl (fun _ => 0))), ((u1 29), .inr (3, [.ref (u1 30), .ref (u1 31), .ref (u1 32), .ref (u1 33), .ref (u1 34), .int 0, .int 0, .int 0, .int 0, .int 0, .int 0, .int 0])), ((u1 30), .inl (cs 0, 24, .inl (fun _ => 0))), ((u1 31), .inl (cs 0, 24, .inl (fun _ => 0))), ((u1 32), .inl (cs 0, 24, .inl (fun _ => 0))), ((u1 33), .inl (cs 0, 24, .inl (fun _ => 0))), ((u1 34), .inl (cs 0, 24, .inl (fun _ => 0))), ((u1 35), .inr (5, [.ref (u1 5), .ref (u1 4), .ref (u1 36), .ref (u1 37), .ref (u1 38), .ref (u1 39), .ref (u1 40), .int 0, .int 0, .int 0, .int 0, .int 0, .int 0, .int 0, .int 0])), ((u1 36), .inl (cs 0, 4, .inl (fun _ => 0))), ((u1 37), .inl (cs 1, 4, .inl (fun _ => 0))), ((u1 38), .inl (cs 0, 4, .inl (fun _ => 0))), ((u1 39), .inl (cs 0, 4, .inl (fun _ => 0))), ((u1 40), .inl (cs 0, 4, .inl (fun _ => 0))), ((u1 41), .inl (cs 0, 24, .inl (fun _ => 0))), ((u1 42), .inl (cs 0, 2525, .inl (fun _ => 0))), ((u1 43), .inr (1, [.int (zi 1), .int 0, .int 0, .int 0, .int (zi 1)])), ((u1 44), .inr (1, [.int 0, .int 0, .int 0, .int 0, .int (zi 1)])), ((u1 45), .inr (1, [.int 0, .int 0, .int 0, .int 0, .int (zi 1)])), ((u1 46), .inr (1, [.int 0, .int 0, .int 0, .int 0, .int (zi 1)])), (q2, .inr (7, [.ref (u2 0), .ref (u2 1), .int 0, .ref (u2 2), .ref (u2 3), .ref (u2 4), .ref (u2 5), .ref (u2 6), .int 0, .int (zi 127), .int (zi 4095), .int (zi 4), .int 0, .int 0, .int 0, .ref (u2 7), .ref (u2 8), .ref (u2 9), .ref (u2 10), .int 0, .int 0, .int 0, .int 0, .int 0, .ref (u2 11), .ref (u2 12), .ref (u2 13), .int 0, .ref (u2 14)])), ((u2 0), .inl (cs 0, 24, .inl (fun _ => 0))), ((u2 1), .inl (cs 0, 24, .inl (fun _ => 0))), ((u2 2), .inl (cs 1, 4, .inl (fun j => zi (([1, 0, 0, 0] : List Int).getD j 0)))), ((u2 3), .inl (cs 0, 4, .inl (fun _ => 0))), ((u2 4), .inl (cs 0, 4, .inl (fun _ => 0))), ((u2 5), .inl (cs 0, 4, .inl (fun _ => 0))), ((u2 6), .inl (cs 0, 4, .inl (fun j => zi (([1, 1, 1, 1] : List Int).getD j 0)))), ((u2 7), .inl (cs 0, 5200, .inl (fun _ => 0))), ((u2 8), .inl (cs 1, 5200, .inl (fun _ => 0))), ((u2 9), .inl (cs 0, 5200, .inl (fun _ => 0))), ((u2 10), .inl (cs 0, 96, .inl (fun _ => 0))), ((u2 11), .inl (cs 0, 24, .inl (fun _ => 0))), ((u2 12), .inl (cs 0, 2600, .inl (fun _ => 0))), ((u2 13), .inl (cs 0, 2600, .inl (fun _ => 0))), ((u2 14), .inl (cs 1, 4, .inl (fun _ => 0)))] : va_W) = mk_wl (cm_sh cs a1) 48 a1 cm_I0 ++ mk_wl (mo_sh cs a2) 16 a2 mo_I0 := by subst ha1; subst ha2; rfl
    rw [hws]
    intro H locs ls hP hD hS hl
    have g1 : ∀ k, k < 48 → (mk_wl (cm_sh cs a1) 48 a1 cm_I0 ++ mk_wl (mo_sh cs a2) 16 a2 mo_I0)[k]? = some (a1 k, cm_sh cs a1 k (cm_I0 k)) := fun k hk => by rw [List.getElem?_append_left (by rw [mk_len]; exact hk), mk_at hk]
    have g2 : ∀ k, k < 16 → (mk_wl (cm_sh cs a1) 48 a1 cm_I0 ++ mk_wl (mo_sh cs a2) 16 a2 mo_I0)[48 + k]? = some (a2 k, mo_sh cs a2 k (mo_I0 k)) := fun k hk => by rw [List.getElem?_append_right (by rw [mk_len]; omega), mk_len, show 48 + k - 48 = k by omega, mk_at hk]
    have hP1 : va_P (dC, dI) cmcl (mk_wl (cm_sh cs a1) 48 a1 cm_I0) H := fun k q hq => by
      obtain ⟨w1, w2⟩ := mk_get? hq
      rw [w2]
      exact hP k _ (g1 k w1)
    have hP2 : va_P (dC, dI) cmcl (mk_wl (mo_sh cs a2) 16 a2 mo_I0) H := fun k q hq => by
      obtain ⟨w1, w2⟩ := mk_get? hq
      rw [w2]
      exact hP (48 + k) _ (g2 k w1)
    have XL : mL_X p m c s b L xs (dC, dI) cs a1 a2 zt := ⟨hfix, hK, hX, hbl, fun i j hi hj h => hD.1 i j _ _ (g1 i hi) (g1 j hj) h, fun i j hi hj h => (by have := hD.1 (48 + i) (48 + j) _ _ (g2 i hi) (g2 j hj) h; omega), fun k hk => hD.2 k _ (g1 k hk), fun k hk => hD.2 (48 + k) _ (g2 k hk), fun i j hi hj h => (by have := hD.1 i (48 + j) _ _ (g1 i hi) (g2 j hj) h; omega), hzz⟩
    refine W.widen (k := 64) (n := 24906) (by decide) (by decide) ?_
    have e1 : a1 0 = q1 := by rw [ha1]; rfl
    have e2 : a2 0 = q2 := by rw [ha2]; rfl
    rw [← e1, ← e2] at hl
    exact law_loop XL ⟨Nat.le_of_ble_eq_true rfl, Nat.le_of_ble_eq_true rfl⟩ hL (fun J1 J2 lv H locs ls h1 h2 hS hl => va_forget hS.2.2 (W.widen (k := 600000) (n := 7302250) (by decide) (by decide) (lw_ret hx hb hr hlocks d_law_665))) (L + 7) 0 c_0 cm_I0 mo_I0 cm_0 mo_0 (by omega) (by omega) H locs ls hP1 hP2 hS hl
  exact go s.heap [] _ (fun k q h => by simp at h) ⟨fun i j p q h => by simp at h, fun k q h => by simp at h⟩ va_S.rf hl
-- ===== YOUR PART ENDS =====
set_option maxHeartbeats 4000000 in
theorem lw_walk (l : Launch) (b : Addr) (xs : List Int32) : MetFree l x (headSpec (Jvm.Cond.code x code maxLocals ret :: tables_1) room_1) (lw_P b xs) (fun _ _ _ _ _ => True) lw_Q := by
  refine MetFree.of_bodyS (code := code) (maxLocals := maxLocals) (ret := ret) (by decide) ?_ ?_
  · intro args s m h hn
    obtain ⟨meth, c, h1, h2, h3, h4, h5, h6, -, -⟩ := Cond.code_spec hn (atoms_spec (ws := Jvm.Cond.code x code maxLocals ret :: tables_1) h _ List.mem_cons_self)
    exact ⟨meth, c, h1, h2, h3, h4, h5, h6⟩
  · intro p e s m args below meth c s₁ B hml0 hP _
    obtain ⟨rfl, hx, hbd, hgv⟩ := hP
    obtain ⟨scr, harrAt, hlist, hof, hsmall⟩ := hx
    obtain ⟨hcb, hkn, -, -⟩ := State.arrayAt?_spec harrAt
    have hown : s.vm.findClass R_law = some m.cls := findClass_of_methodNamed B.named
    have hts0 : ∀ c ∈ (Jvm.Cond.code x code maxLocals ret :: tables_1), c.before #[Value.ref b] s = true := atoms_spec (ws := Jvm.Cond.code x code maxLocals ret :: tables_1) B.pre
    have hts : ∀ w ∈ lw_tbl, w.before #[Value.ref b] s = true := k2_hts_sels lw_privs (fun w hw => hts0 w (List.mem_cons_of_mem _ hw)) lw_privs_ok
    have hml : c.maxLocals = 4 := B.maxLocals_eq (hts0 _ List.mem_cons_self)
    have X₀ : Stand p l e room_1 s m #[Value.ref b] below meth c s₁ [] 0 0 := Stand.of_body B
    have hh0 : s₁.heap = s.heap := by rw [B.state]; rfl
    have hsz : scr.slots.size = xs.length := by rw [← Array.length_toList, hlist, List.length_map]
    have hval : ∀ j : Nat, j < xs.length → scr.slots[j]? = some (.int (xs.getD j 0)) := fun j hj => by
      rw [← Array.getElem?_toList, hlist]
      simp [hj]
    have hbl : b < s.heap.size := (Array.getElem?_eq_some_iff.mp hcb).1
    have hX : va_X b xs.length (fun j => xs.getD j 0) s s.heap := ⟨scr, hcb, hof, hkn, hsz, hval⟩
    have K : W p l e room_1 s m #[Value.ref b] below meth c s₁.heap [] 0 0 (lw_Z below #[Value.ref b] s) (entryFrame m ([Value.ref b] : List Value).toArray 4) := by
      rw [hh0]
      exact whole_start l hbd ⟨B.exec, B.bytes, B.returns, hml, hown, hts, hX, hbl, B.notSynchronized, hgv⟩
    obtain ⟨t, a1, o, b1, b2, b3⟩ := K s₁ rfl X₀
    exact ⟨t, o, a1, b1, b2, b3⟩
theorem lw_pre_spec {args : Array Value} {s : State} (h : (Jvm.Cond.and given_1 narrow_1).before args s = true) (hr : rest_1_c.before args s = true) : ∃ (b : Addr) (xs : List Int32), lw_P b xs args s := by
  have hs := flat_of_before _ h
  have hq := flat_of_before _ hr
  have hc : (Cond.count 1).before args s = true := hs _ (by decide +kernel)
  have harr : (Cond.arrayOf (.arg 0) .int).before args s = true := hs _ (by decide +kernel)
  have hle : (Cond.le (.length (.arg 0)) (.int 3072)).before args s = true := hs _ (by decide +kernel)
  have hlen : (Cond.isInt (.length (.arg 0))).before args s = true := hq _ (by decide +kernel)
  have hall : (Cond.all (.arg 0) (.isInt (.elem (.arg 0) (.index 0)))).before args s = true := hq _ (by decide +kernel)
  obtain ⟨b, xs, hb, hx⟩ := State.ints_of_pre rfl harr hlen hall
  have hsm : xs.length < 2 ^ 31 := hx.choose_spec.2.2.2
  have hev : (Term.length (.arg 0)).eval args s none [] s = some (.int xs.length.toInt32) := hx.length_eval hb
  have hv := Cond.le_ints hev (show (Term.int 3072).eval args s none [] s = some (.int 3072) from rfl)
  have hd : xs.length.toInt32 ≤ 3072 := by
    simpa [Cond.before, Cond.holds, hv] using hle
  have hN : xs.length ≤ 3072 := (Int32.ofNat_le_ofNat hsm (by decide)).mp (show Int32.ofNat xs.length ≤ Int32.ofNat 3072 from hd)
  exact ⟨b, xs, Cond.one_arg hc (show args[0]? = some (.ref b) from hb), hx, hN, h⟩
theorem lw_comes (l : Launch) : Comes l x (Jvm.Cond.code x code maxLocals ret :: tables_1) room_1 (fun tb e args s => Calls_1 tb e args s ∧ rest_1 tb e args s ∧ Pre_1 tb e args s)
    (fun _ _ args s o t => lw_Q args s o t) := by
  intro p e ha hc hk s m args below hf hfit hheap happ hpre
  obtain ⟨b, xs, hP⟩ := lw_pre_spec hpre.2.2 hpre.2.1
  obtain ⟨k, o, h1, h2, h3, hQ⟩ := lw_walk l b xs p e ha hc hk s m args below hf ((Spec.applies_iff_loose hf).mp happ).1 hP trivial
  exact ⟨k, o, h1, h2, h3, hQ⟩
theorem lw_frame {s t : State} {o : Outcome} {args : Array Value} (h : Framed s o t [] 600000 7302250) :
    Framed s o t (fieldLocs frame_1_writes args s ++ arrayLocs frame_1_arrays args s ++ staticLocs frame_1_statics s) 600000 7302250 := h
theorem lw_limb (L : Cond) (hL : ∀ (args : Array Value) (s t : State), L.after args s (.returned (some (.int 1))) t = true) :
    ArmFor flags0 classFile x code maxLocals ret World_1 tables_1 room_1 Calls_1 rest_1 Pre_1
      (fun tb e a s o t => postC L tb e a s o t ∧ Framed s o t (fieldLocs frame_1_writes a s ++ arrayLocs frame_1_arrays a s ++ staticLocs frame_1_statics s) 600000 7302250) := by
  intro l _ _ _ p e ha hc hk s m args below hf hfit hheap happ hpre
  obtain ⟨k, o, h1, h2, h3, rfl, hF⟩ := lw_comes l p e ha hc hk s m args below hf hfit hheap happ hpre
  exact ⟨k, _, h1, h2, h3, hL args s _, lw_frame hF⟩
theorem i_vc : Claimed_1_1 ∧ Claimed_1_2 := ⟨lw_limb limb_1_1 (fun args s t => by simp [limb_1_1, Cond.after, Cond.holds, Cond.value]), lw_limb limb_1_2 (fun args s t => Cond.after_iff.mpr (by
  first | (rw [show limb_1_2 = Cond.eq .result (.int 1) from rfl, Cond.eq_ints (x := 1) (y := 1) rfl rfl]; simp; done) | (simp [limb_1_2, Cond.value, Term.eval]; done)))⟩
