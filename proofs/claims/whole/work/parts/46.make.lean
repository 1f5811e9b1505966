/-! MAKING: a machine for constructors. The world is a list of cells that grows. -/
def mb_nw (w : Cond) (U : State) : Prop := va_Nw w U ∧ ((∃ a i x h, w = .methodLinkNest a i x h) ∨ ∃ C, w = .arrayOver (.object C))
theorem mb_nw.warm {w : Cond} {s U : State} (hW : s.WarmedH U.vm) (h : mb_nw w s) : mb_nw w U := by
  obtain ⟨h1, h2⟩ := h
  refine ⟨?_, h2⟩
  rcases h2 with ⟨a, i, x, h, rfl⟩ | ⟨C, rfl⟩
  · exact va_Nw.warmM hW h1
  · exact va_AO.moved hW.alike (va_AO.of h1)
theorem mb_nw.same {w : Cond} {u U : State} (hv : u.vm = U.vm) (h : mb_nw w u) : mb_nw w U := by
  obtain ⟨h1, h2⟩ := h
  refine ⟨?_, h2⟩
  rcases h2 with ⟨a, i, x, h, rfl⟩ | ⟨C, rfl⟩
  · exact va_Nw.same rfl hv h1
  · exact va_AO.moved (hv ▸ Vm.Alike.refl u.vm) (va_AO.of h1)
def mb_X (p : Program) (m : MethodId) (c : Code) (cc : ByteArray) (nL : Nat) (s : State) (args : Array Value) (Ts : List Cond) (own : String) (D : va_G) (cl : List vw_C) (tys : List (ClassId × FieldType)) (A : Nat → Prop) (ns : List Cond) : Prop :=
  CallFix p m c cc nL s args Ts own ∧ va_K D cl tys s ∧ (∀ q : Nat, s.heap.size ≤ q → A q) ∧ ∀ w ∈ ns, mb_nw w s
def mb_A (p : Program) (l : Launch) (e : Env) (R : Room) (s : State) (m : MethodId) (args : Array Value) (below : List Frame) (meth : Method) (c : Code) (Q : State → Prop) (nL : Nat) (D : va_G) (cl : List vw_C) (A : Nat → Prop) (ws : va_W) (k n : Nat) (lv : List (Nat × Value)) (pc : Nat) (st : List Value) : Prop :=
  ∀ (H : Heap) (locs : List Loc) (ls : Array Slot), va_P D cl ws H → va_D A ws → va_S A s.heap H locs → lv_has ls nL lv → W p l e R s m args below meth c H locs k n Q (F0 m pc ls st)
theorem arrV_cg {cA : ClassId} {N : Nat} {f g : Nat → Value} (h : ∀ j, j < N → f j = g j) : arrV cA N f = arrV cA N g := by
  unfold arrV
  congr 1
  congr 1
  funext j
  exact h j.1 j.2
theorem va_P_chg {D : va_G} {cl : List vw_C} {ws : va_W} {H : Heap} {q0 a : Nat} {e0 e1 : va_E} (hP : va_P D cl ws H) (hq : ws[q0]? = some (a, e0)) (h : va_at D cl (a, e0) H → va_at D cl (a, e1) H) : va_P D cl (ws.set q0 (a, e1)) H := by
  intro k q hk
  rw [List.getElem?_set] at hk
  by_cases z : q0 = k
  · rw [if_pos z] at hk
    split at hk
    · have e : (a, e1) = q := by simpa using hk
      rw [← e]
      exact h (hP q0 _ hq)
    · exact absurd hk (by simp)
  · rw [if_neg z] at hk
    exact hP k q hk
theorem ty_uniq {D : va_G} {cl : List vw_C} {tys : List (ClassId × FieldType)} {U : State} {cA cB : ClassId} {ty : FieldType} (hK : va_K D cl tys U) (i j : Nat) (hi : tys[i]? = some (cA, ty)) (hj : tys[j]? = some (cB, ty)) : cA = cB := by
  have h1 := (hK.2 i _ hi).2
  have h2 := (hK.2 j _ hj).2
  cases ty <;> first
    | exact Option.some.inj (h1.symm.trans h2)
    | (obtain ⟨_, _, _, _, _, g1⟩ := h1; obtain ⟨_, _, _, _, _, g2⟩ := h2; exact Option.some.inj (g1.symm.trans g2))
section MB
variable {p : Program} {l : Launch} {e : Env} {R : Room} {s : State} {m : MethodId} {args : Array Value} {below : List Frame} {meth : Method} {c : Code} {Q : State → Prop}
variable {cc : ByteArray} {nL : Nat} {own : String} {Ts : List Cond} {D : va_G} {cl : List vw_C} {tys : List (ClassId × FieldType)} {A : Nat → Prop} {ns : List Cond}
variable {ws ws' : va_W} {k n : Nat} {lv : List (Nat × Value)} {pc nx : Nat} {st : List Value}
theorem mb_iconst (X : mb_X p m c cc nL s args Ts own D cl tys A ns) {x : Int} (hd : decode cc pc = .ok (.iconst x, 1)) (hn : pc + 1 = nx) (kk : mb_A p l e R s m args below meth c Q nL D cl A ws k n lv nx (.int (zi x) :: st)) : mb_A p l e R s m args below meth c Q nL D cl A ws k n lv pc st := by
  subst hn; exact fun H locs ls hP hD hS hl => lv_iconst X.1.1 X.1.2.1 hd rfl (kk H locs ls hP hD hS hl)
theorem mb_bipush (X : mb_X p m c cc nL s args Ts own D cl tys A ns) {x : Int} (hd : decode cc pc = .ok (.bipush x, 2)) (hv : (Int8.ofInt x).toInt32 = zi x) (hn : pc + 2 = nx) (kk : mb_A p l e R s m args below meth c Q nL D cl A ws k n lv nx (.int (zi x) :: st)) : mb_A p l e R s m args below meth c Q nL D cl A ws k n lv pc st := by
  subst hn; exact fun H locs ls hP hD hS hl => lv_bipush X.1.1 X.1.2.1 hd hv (kk H locs ls hP hD hS hl)
theorem mb_sipush (X : mb_X p m c cc nL s args Ts own D cl tys A ns) {x : Int} (hd : decode cc pc = .ok (.sipush x, 3)) (hv : (Int16.ofInt x).toInt32 = zi x) (hn : pc + 3 = nx) (kk : mb_A p l e R s m args below meth c Q nL D cl A ws k n lv nx (.int (zi x) :: st)) : mb_A p l e R s m args below meth c Q nL D cl A ws k n lv pc st := by
  subst hn; exact fun H locs ls hP hD hS hl => lv_sipush X.1.1 X.1.2.1 hd hv (kk H locs ls hP hD hS hl)
theorem mb_iloadn (X : mb_X p m c cc nL s args Ts own D cl tys A ns) {i : Fin 4} {x : Int32} (j : Nat) (hd : decode cc pc = .ok (.iload_n i, 1)) (hk : lv[j]? = some ((i : Nat), .int x)) (hn : pc + 1 = nx) (kk : mb_A p l e R s m args below meth c Q nL D cl A ws k n lv nx (.int x :: st)) : mb_A p l e R s m args below meth c Q nL D cl A ws k n lv pc st := by
  subst hn; exact fun H locs ls hP hD hS hl => lv_iload_n X.1.1 X.1.2.1 hd rfl (lv_at hl j hk) (kk H locs ls hP hD hS hl)
theorem mb_aloadn (X : mb_X p m c cc nL s args Ts own D cl tys A ns) {i : Fin 4} {x : Nat} (j : Nat) (hd : decode cc pc = .ok (.aload_n i, 1)) (hk : lv[j]? = some ((i : Nat), .ref x)) (hn : pc + 1 = nx) (kk : mb_A p l e R s m args below meth c Q nL D cl A ws k n lv nx (.ref x :: st)) : mb_A p l e R s m args below meth c Q nL D cl A ws k n lv pc st := by
  subst hn; exact fun H locs ls hP hD hS hl => lv_aload_n X.1.1 X.1.2.1 hd rfl (lv_at hl j hk) (kk H locs ls hP hD hS hl)
theorem mb_istoren (X : mb_X p m c cc nL s args Ts own D cl tys A ns) {i : Fin 4} {x : Int32} (lv' : List (Nat × Value)) (hd : decode cc pc = .ok (.istore_n i, 1)) (hi : (i : Nat) < nL) (hl' : mk_put lv i (.int x) = lv') (hn : pc + 1 = nx) (kk : mb_A p l e R s m args below meth c Q nL D cl A ws k n lv' nx st) : mb_A p l e R s m args below meth c Q nL D cl A ws k n lv pc (.int x :: st) := by
  subst hn; exact fun H locs ls hP hD hS hl => lv_istore_n X.1.1 X.1.2.1 hd rfl hl hi hl' (fun ls' hl2 => kk H locs ls' hP hD hS hl2)
theorem mb_astoren (X : mb_X p m c cc nL s args Ts own D cl tys A ns) {i : Fin 4} {x : Nat} (lv' : List (Nat × Value)) (hd : decode cc pc = .ok (.astore_n i, 1)) (hi : (i : Nat) < nL) (hl' : mk_put lv i (.ref x) = lv') (hn : pc + 1 = nx) (kk : mb_A p l e R s m args below meth c Q nL D cl A ws k n lv' nx st) : mb_A p l e R s m args below meth c Q nL D cl A ws k n lv pc (.ref x :: st) := by
  subst hn; exact fun H locs ls hP hD hS hl => lv_astore_n X.1.1 X.1.2.1 hd rfl hl hi hl' (fun ls' hl2 => kk H locs ls' hP hD hS hl2)
theorem mb_iinc (X : mb_X p m c cc nL s args Ts own D cl tys A ns) {i : Nat} {x y : Int} (j : Nat) (lv' : List (Nat × Value)) (hd : decode cc pc = .ok (.iinc i x, 3)) (hk : lv[j]? = some (i, .int (zi y))) (hi : i < nL) (hl' : mk_put lv i (.int (zi (y + x))) = lv') (hn : pc + 3 = nx) (kk : mb_A p l e R s m args below meth c Q nL D cl A ws k n lv' nx st) : mb_A p l e R s m args below meth c Q nL D cl A ws k n lv pc st := by
  subst hn; exact fun H locs ls hP hD hS hl => lv_iinc (v := zi (y + x)) (k := j) X.1.1 X.1.2.1 hd hl hk (zi_add y x) hi hl' (fun ls' hl2 => kk H locs ls' hP hD hS hl2)
theorem mb_dup (X : mb_X p m c cc nL s args Ts own D cl tys A ns) {v : Value} (hd : decode cc pc = .ok (.dup, 1)) (hv : v.category = 1) (hn : pc + 1 = nx) (kk : mb_A p l e R s m args below meth c Q nL D cl A ws k n lv nx (v :: v :: st)) : mb_A p l e R s m args below meth c Q nL D cl A ws k n lv pc (v :: st) := by
  subst hn; exact fun H locs ls hP hD hS hl => lv_dup X.1.1 X.1.2.1 hd hv (kk H locs ls hP hD hS hl)
theorem mb_goto (X : mb_X p m c cc nL s args Ts own D cl tys A ns) {off : Int} {tgt : Nat} (hd : decode cc pc = .ok (.goto off, 3)) (ht : (pc : Int) + off = (tgt : Int)) (kk : mb_A p l e R s m args below meth c Q nL D cl A ws k n lv tgt st) : mb_A p l e R s m args below meth c Q nL D cl A ws k n lv pc st :=
  fun H locs ls hP hD hS hl => lv_goto X.1.1 X.1.2.1 hd ht (kk H locs ls hP hD hS hl)
theorem mb_geF (X : mb_X p m c cc nL s args Ts own D cl tys A ns) {x y off : Int} {tgt : Nat} (hd : decode cc pc = .ok (.if_icmp .ge off, 3)) (ht : (pc : Int) + off = (tgt : Int)) (h : ¬ zi y ≤ zi x) (hn : pc + 3 = nx) (kk : mb_A p l e R s m args below meth c Q nL D cl A ws k n lv nx st) : mb_A p l e R s m args below meth c Q nL D cl A ws k n lv pc (.int (zi y) :: .int (zi x) :: st) := by
  subst hn; exact fun H locs ls hP hD hS hl => lv_icmp_ge X.1.1 X.1.2.1 hd ht (fun q => absurd q h) (fun _ => kk H locs ls hP hD hS hl)
theorem mb_geT (X : mb_X p m c cc nL s args Ts own D cl tys A ns) {x y off : Int} {tgt : Nat} (hd : decode cc pc = .ok (.if_icmp .ge off, 3)) (ht : (pc : Int) + off = (tgt : Int)) (h : zi y ≤ zi x) (kk : mb_A p l e R s m args below meth c Q nL D cl A ws k n lv tgt st) : mb_A p l e R s m args below meth c Q nL D cl A ws k n lv pc (.int (zi y) :: .int (zi x) :: st) :=
  fun H locs ls hP hD hS hl => lv_icmp_ge X.1.1 X.1.2.1 hd ht (fun _ => kk H locs ls hP hD hS hl) (fun q => absurd h q)
theorem mb_obj (X : mb_X p m c cc nL s args Ts own D cl tys A ns) {idx a : Nat} (h1 : Cond.methodLink own idx objectInit ∈ Ts) (h2 : Cond.instanceMethod objectInit ∈ Ts) (h3 : Cond.code objectInit ⟨#[0xb1]⟩ 1 none ∈ Ts) (hd : decode cc pc = .ok (.invokespecial idx, 3)) (hn : pc + 3 = nx) (hf : 1 ≤ R.frames) (hlo : (st.map fun v => v.category).sum + 12 ≤ R.locals) (kk : mb_A p l e R s m args below meth c Q nL D cl A ws k n lv nx st) : mb_A p l e R s m args below meth c Q nL D cl A ws k n lv pc (.ref a :: st) := by
  subst hn
  intro H locs ls hP hD hS hl
  refine W.objInit X.1.1 X.1.2.1 X.1.2.2.2.1 (X.1.2.2.2.2 _ h1) (X.1.2.2.2.2 _ h2) (X.1.2.2.2.2 _ h3) rfl (by rw [X.1.2.2.1]; exact hl.1) rfl hd hf ?_ ?_
  · show 2 * 0 + _ + 12 ≤ _
    omega
  · exact W.eq (g2 := F0 m (pc + 3) ls st) rfl (kk H locs ls hP hD hS hl)
theorem mb_new (X : mb_X p m c cc nL s args Ts own D cl tys A ns) {C : String} {T : u_T} {N ci index : Nat} (hin : ∀ w ∈ u_ws C T N, w ∈ Ts) (ty : Nat → FieldType) (hty : ∀ i, i < N → parseFieldDescriptor (T i).2.2.1 = some (ty i)) (h1 : Cond.classLink own index C ∈ Ts) (h2 : Cond.instantiable C N ∈ Ts) (h3 : Cond.initialized C ∈ Ts) (hc : cl[ci]? = some (C, T, N)) (fs : List Value) (hfs : ∀ j, j < N → defaultValue (ty j) = vp_V fs j) (hcells : k + 1 ≤ R.cells) (hslots : n + N ≤ R.slots) (hd : decode cc pc = .ok (.new index, 3)) (hn : pc + 3 = nx)
    (kk : ∀ q : Nat, mb_A p l e R s m args below meth c Q nL D cl A (ws ++ [(q, .inr (ci, fs))]) (k + 1) (n + N) lv nx (.ref q :: st)) : mb_A p l e R s m args below meth c Q nL D cl A ws k n lv pc st := by
  subst hn
  intro H locs ls hP hD hS hl
  exact va_new X.1.1 X.1.2.1 X.1.2.2.2.2 hin ty hty X.1.2.2.2.1 (X.1.2.2.2.2 _ h1) (X.1.2.2.2.2 _ h2) (X.1.2.2.2.2 _ h3) X.2.1 hP hD hS X.2.2.1 hc hfs hcells hslots hd (fun q H1 hP1 hD1 hS1 => kk q H1 locs ls hP1 hD1 hS1 hl)
theorem mb_newi (X : mb_X p m c cc nL s args Ts own D cl tys A ns) {N : Nat} {x : Int} (t0 : Nat) {cA : ClassId} (h1 : Cond.arrayClass .int ∈ Ts) (ht : tys[t0]? = some (cA, .int)) (hx : ¬ zi x < 0) (hN : (zi x).toNatClampNeg = N) (hb : N * componentBytes .int ≤ 536870912) (hcells : k + 1 ≤ R.cells) (hslots : n + N ≤ R.slots) (hd : decode cc pc = .ok (.newarray .int, 2)) (hn : pc + 2 = nx)
    (kk : ∀ q : Nat, mb_A p l e R s m args below meth c Q nL D cl A (ws ++ [(q, .inl (cA, N, .inl (fun _ => 0)))]) (k + 1) (n + N) lv nx (.ref q :: st)) : mb_A p l e R s m args below meth c Q nL D cl A ws k n lv pc (.int (zi x) :: st) := by
  subst hn
  intro H locs ls hP hD hS hl
  refine va_newa (atype := .int) X.1.1 X.1.2.1 (X.1.2.2.2.2 (Cond.arrayClass .int) h1) (ty := .int) rfl X.2.1 hP hD hS X.2.2.1 (a0 := (N, .inl (fun _ => 0))) (fun cB => rfl) hx hN hb hcells hslots hd (fun q cB H1 hK1 hP1 hD1 hS1 => ?_)
  have hlt : t0 < tys.length := (List.getElem?_eq_some_iff.mp ht).1
  have e := ty_uniq hK1 tys.length t0 (cA := cB) (cB := cA) (ty := .int) (by simp) (by rw [List.getElem?_append_left hlt]; exact ht)
  subst e
  exact kk q H1 locs ls hP1 hD1 hS1 hl
theorem mb_newz (X : mb_X p m c cc nL s args Ts own D cl tys A ns) {N : Nat} {x : Int} (t0 : Nat) {cA : ClassId} (h1 : Cond.arrayClass .boolean ∈ Ts) (ht : tys[t0]? = some (cA, .boolean)) (hx : ¬ zi x < 0) (hN : (zi x).toNatClampNeg = N) (hb : N * componentBytes .boolean ≤ 536870912) (hcells : k + 1 ≤ R.cells) (hslots : n + N ≤ R.slots) (hd : decode cc pc = .ok (.newarray .boolean, 2)) (hn : pc + 2 = nx)
    (kk : ∀ q : Nat, mb_A p l e R s m args below meth c Q nL D cl A (ws ++ [(q, .inl (cA, N, .inl (fun _ => 0)))]) (k + 1) (n + N) lv nx (.ref q :: st)) : mb_A p l e R s m args below meth c Q nL D cl A ws k n lv pc (.int (zi x) :: st) := by
  subst hn
  intro H locs ls hP hD hS hl
  refine va_newa (atype := .boolean) X.1.1 X.1.2.1 (X.1.2.2.2.2 (Cond.arrayClass .boolean) h1) (ty := .boolean) rfl X.2.1 hP hD hS X.2.2.1 (a0 := (N, .inl (fun _ => 0))) (fun cB => rfl) hx hN hb hcells hslots hd (fun q cB H1 hK1 hP1 hD1 hS1 => ?_)
  have hlt : t0 < tys.length := (List.getElem?_eq_some_iff.mp ht).1
  have e := ty_uniq hK1 tys.length t0 (cA := cB) (cB := cA) (ty := .boolean) (by simp) (by rw [List.getElem?_append_left hlt]; exact ht)
  subst e
  exact kk q H1 locs ls hP1 hD1 hS1 hl
theorem mb_newq (X : mb_X p m c cc nL s args Ts own D cl tys A ns) {C : String} {index N : Nat} {x : Int} (t0 : Nat) {cA : ClassId} (h1 : Cond.classLink own index C ∈ Ts) (h2 : Cond.arrayOver (.object C) ∈ ns) (ht : tys[t0]? = some (cA, .object C)) (hx : ¬ zi x < 0) (hN : (zi x).toNatClampNeg = N) (hb : N * 4 ≤ 536870912) (hcells : k + 1 ≤ R.cells) (hslots : n + N ≤ R.slots) (hd : decode cc pc = .ok (.anewarray index, 3)) (hn : pc + 3 = nx)
    (kk : ∀ q : Nat, mb_A p l e R s m args below meth c Q nL D cl A (ws ++ [(q, .inl (cA, N, .inr (.inr (.inr (.inr (fun _ => none))))))]) (k + 1) (n + N) lv nx (.ref q :: st)) : mb_A p l e R s m args below meth c Q nL D cl A ws k n lv pc (.int (zi x) :: st) := by
  subst hn
  intro H locs ls hP hD hS hl
  refine va_newq X.1.1 X.1.2.1 X.1.2.2.2.1 (X.1.2.2.2.2 _ h1) (va_AO.of (X.2.2.2 _ h2).1) X.2.1 hP hD hS X.2.2.1 hx hN hb hcells hslots hd (fun q cB H1 hK1 hP1 hD1 hS1 => ?_)
  have hlt : t0 < tys.length := (List.getElem?_eq_some_iff.mp ht).1
  have e := ty_uniq hK1 tys.length t0 (cA := cB) (cB := cA) (ty := .object C) (by simp) (by rw [List.getElem?_append_left hlt]; exact ht)
  subst e
  exact kk q H1 locs ls hP1 hD1 hS1 hl
theorem mb_get (X : mb_X p m c cc nL s args Ts own D cl tys A ns) {ref C : String} {T : u_T} {N ci index a : Nat} (q0 : Nat) {fs : List Value} (he : ws[q0]? = some (a, .inr (ci, fs))) (hc : cl[ci]? = some (C, T, N)) (hin : ∀ w ∈ u_ws C T N, w ∈ Ts) (i : Nat) (hi : i < N) (hlink : Cond.fieldLink own index ref (T i).2.1 (T i).2.2.1 ∈ Ts) (href : (T i).1 = ref) {v : Value} (hv : fs[i]? = some v) (hd : decode cc pc = .ok (.getfield index, 3)) (hn : pc + 3 = nx)
    (kk : mb_A p l e R s m args below meth c Q nL D cl A ws k n lv nx (v :: st)) : mb_A p l e R s m args below meth c Q nL D cl A ws k n lv pc (.ref a :: st) := by
  subst hn
  exact fun H locs ls hP hD hS hl => va_get X.1.1 X.1.2.1 X.1.2.2.2.2 hin X.1.2.2.2.1 X.2.1 hP q0 he hc i hi (X.1.2.2.2.2 _ hlink) (fun x h => by rw [← href]; exact h) hv hd (kk H locs ls hP hD hS hl)
theorem mb_put (X : mb_X p m c cc nL s args Ts own D cl tys A ns) {ref C : String} {T : u_T} {N ci index a : Nat} (ty0 : Nat → FieldType) (hty : ∀ i, i < N → parseFieldDescriptor (T i).2.2.1 = some (ty0 i)) (hnm : ∀ a, a < N → ∀ b, b < N → a ≠ b → (T a).2.1 ≠ (T b).2.1) (q0 : Nat) {fs : List Value} (he : ws[q0]? = some (a, .inr (ci, fs))) (hc : cl[ci]? = some (C, T, N)) (hin : ∀ w ∈ u_ws C T N, w ∈ Ts) (i : Nat) (hi : i < N) (hlink : Cond.fieldLink own index ref (T i).2.1 (T i).2.2.1 ∈ Ts) (href : (T i).1 = ref) (hfin : (T i).2.2.2 = false) {ty : FieldType} {v : Value} (hdt : parseFieldDescriptor (T i).2.2.1 = some ty) (hnr : narrow ty v = v) (hfit : fits ty v = true) (hlen : i < fs.length) (hw : ws.set q0 (a, .inr (ci, fs.set i v)) = ws') (hd : decode cc pc = .ok (.putfield index, 3)) (hn : pc + 3 = nx)
    (kk : mb_A p l e R s m args below meth c Q nL D cl A ws' k n lv nx st) : mb_A p l e R s m args below meth c Q nL D cl A ws k n lv pc (v :: .ref a :: st) := by
  subst hn; subst hw
  exact fun H locs ls hP hD hS hl => va_put X.1.1 X.1.2.1 X.1.2.2.2.2 hin ty0 hty hnm X.1.2.2.2.1 X.2.1 hP hD hS q0 he hc i hi (X.1.2.2.2.2 _ hlink) (fun x h => by rw [← href]; exact h) hfin hdt hnr hfit hlen hd (fun H1 locs1 hP1 hD1 hS1 => kk H1 locs1 ls hP1 hD1 hS1 hl)
theorem mb_putF (X : mb_X p m c cc nL s args Ts own D cl tys A ns) {C : String} {T : u_T} {N ci index a : Nat} (hini : meth.name = "<init>") (ty0 : Nat → FieldType) (hty : ∀ i, i < N → parseFieldDescriptor (T i).2.2.1 = some (ty0 i)) (hnm : ∀ a, a < N → ∀ b, b < N → a ≠ b → (T a).2.1 ≠ (T b).2.1) (q0 : Nat) {fs : List Value} (he : ws[q0]? = some (a, .inr (ci, fs))) (hc : cl[ci]? = some (C, T, N)) (hin : ∀ w ∈ u_ws C T N, w ∈ Ts) (i : Nat) (hi : i < N) (hlink : Cond.fieldLink own index own (T i).2.1 (T i).2.2.1 ∈ Ts) (href : (T i).1 = own) (hfin : (T i).2.2.2 = true) {ty : FieldType} {v : Value} (hdt : parseFieldDescriptor (T i).2.2.1 = some ty) (hnr : narrow ty v = v) (hfit : fits ty v = true) (hlen : i < fs.length) (hw : ws.set q0 (a, .inr (ci, fs.set i v)) = ws') (hd : decode cc pc = .ok (.putfield index, 3)) (hn : pc + 3 = nx)
    (kk : mb_A p l e R s m args below meth c Q nL D cl A ws' k n lv nx st) : mb_A p l e R s m args below meth c Q nL D cl A ws k n lv pc (v :: .ref a :: st) := by
  subst hn; subst hw
  exact fun H locs ls hP hD hS hl => va_putF X.1.1 X.1.2.1 X.1.2.2.2.2 hin ty0 hty hnm X.1.2.2.2.1 X.2.1 hP hD hS q0 he hc i hi (X.1.2.2.2.2 _ hlink) (fun x h => by rw [← href]; exact h) hfin hini href hdt hnr hfit hlen hd (fun H1 locs1 hP1 hD1 hS1 => kk H1 locs1 ls hP1 hD1 hS1 hl)
theorem mb_iast (X : mb_X p m c cc nL s args Ts own D cl tys A ns) (q0 t0 : Nat) {cA : ClassId} {N a : Nat} {f : Nat → Int32} (ha : ws[q0]? = some (a, .inl (cA, N, .inl f))) (ht : tys[t0]? = some (cA, .int)) {i x : Int} (hin : vp_in (zi i) N) (hw : ws.set q0 (a, .inl (cA, N, .inl (upd f (zi i).toNatClampNeg (zi x)))) = ws') (hd : decode cc pc = .ok (.iastore, 1)) (hn : pc + 1 = nx)
    (kk : mb_A p l e R s m args below meth c Q nL D cl A ws' k n lv nx st) : mb_A p l e R s m args below meth c Q nL D cl A ws k n lv pc (.int (zi x) :: .int (zi i) :: .ref a :: st) := by
  subst hn; subst hw
  exact fun H locs ls hP hD hS hl => va_iast X.1.1 X.1.2.1 X.2.1 hP hD hS q0 t0 ha ht hin hd (fun H1 locs1 hP1 hD1 hS1 => kk H1 locs1 ls hP1 hD1 hS1 hl)
theorem mb_zast (X : mb_X p m c cc nL s args Ts own D cl tys A ns) (q0 t0 : Nat) {cA : ClassId} {N a : Nat} {f : Nat → Int32} (ha : ws[q0]? = some (a, .inl (cA, N, .inl f))) (ht : tys[t0]? = some (cA, .boolean)) {i x : Int} (hin : vp_in (zi i) N) (hw : ws.set q0 (a, .inl (cA, N, .inl (upd f (zi i).toNatClampNeg (vp_nar .boolean (zi x))))) = ws') (hd : decode cc pc = .ok (.bastore, 1)) (hn : pc + 1 = nx)
    (kk : mb_A p l e R s m args below meth c Q nL D cl A ws' k n lv nx st) : mb_A p l e R s m args below meth c Q nL D cl A ws k n lv pc (.int (zi x) :: .int (zi i) :: .ref a :: st) := by
  subst hn; subst hw
  exact fun H locs ls hP hD hS hl => va_zast X.1.1 X.1.2.1 X.2.1 hP hD hS q0 t0 ha ht hin hd (fun H1 locs1 hP1 hD1 hS1 => kk H1 locs1 ls hP1 hD1 hS1 hl)
theorem mb_astq (X : mb_X p m c cc nL s args Ts own D cl tys A ns) (q0 t0 qk ci : Nat) {cA : ClassId} {r : vw_C} {N v a : Nat} {vs : List Value} {f : Nat → Option Nat} (ha : ws[q0]? = some (a, .inl (cA, N, .inr (.inr (.inr (.inr f)))))) (ht : tys[t0]? = some (cA, .object r.1)) (hv : ws[qk]? = some (v, .inr (ci, vs))) (hc : cl[ci]? = some r) {i : Int} (hin : vp_in (zi i) N) (hw : ws.set q0 (a, .inl (cA, N, .inr (.inr (.inr (.inr (va_up f (zi i).toNatClampNeg (some v))))))) = ws') (hd : decode cc pc = .ok (.aastore, 1)) (hn : pc + 1 = nx)
    (kk : mb_A p l e R s m args below meth c Q nL D cl A ws' k n lv nx st) : mb_A p l e R s m args below meth c Q nL D cl A ws k n lv pc (.ref v :: .int (zi i) :: .ref a :: st) := by
  subst hn; subst hw
  exact fun H locs ls hP hD hS hl => va_astq X.1.1 X.1.2.1 X.2.1 hP hD hS q0 t0 qk ci ha ht hv hc hin hd (fun H1 locs1 hP1 hD1 hS1 => kk H1 locs1 ls hP1 hD1 hS1 hl)
theorem mb_aald (X : mb_X p m c cc nL s args Ts own D cl tys A ns) (q0 t0 : Nat) {cA : ClassId} {C : String} {N a v : Nat} {f : Nat → Option Nat} (ha : ws[q0]? = some (a, .inl (cA, N, .inr (.inr (.inr (.inr f)))))) (ht : tys[t0]? = some (cA, .object C)) {i : Int} (hin : vp_in (zi i) N) (hv : f (zi i).toNatClampNeg = some v) (hd : decode cc pc = .ok (.aaload, 1)) (hn : pc + 1 = nx)
    (kk : mb_A p l e R s m args below meth c Q nL D cl A ws k n lv nx (.ref v :: st)) : mb_A p l e R s m args below meth c Q nL D cl A ws k n lv pc (.int (zi i) :: .ref a :: st) := by
  subst hn
  intro H locs ls hP hD hS hl
  refine va_aldq X.1.1 X.1.2.1 X.2.1 hP q0 t0 ha ht hin hd ?_
  rw [hv]
  exact kk H locs ls hP hD hS hl
/-- an array's elements, in other words -/
theorem mb_ints (q0 : Nat) {cA : ClassId} {N a : Nat} {f g : Nat → Int32} (ha : ws[q0]? = some (a, .inl (cA, N, .inl f))) (h : ∀ j, j < N → f j = g j) (hw : ws.set q0 (a, .inl (cA, N, .inl g)) = ws') (kk : mb_A p l e R s m args below meth c Q nL D cl A ws' k n lv pc st) : mb_A p l e R s m args below meth c Q nL D cl A ws k n lv pc st := by
  subst hw
  intro H locs ls hP hD hS hl
  refine kk H locs ls (va_P_chg hP ha (fun z => ?_)) (hD.set ha) hS hl
  have z : H[a]? = some (arrV cA N (fun j => .int (f j))) := z
  show H[a]? = some (arrV cA N (fun j => .int (g j)))
  rw [z, arrV_cg (fun j hj => by rw [h j hj])]
theorem mb_refs (q0 : Nat) {cA : ClassId} {N a : Nat} {f g : Nat → Option Nat} (ha : ws[q0]? = some (a, .inl (cA, N, .inr (.inr (.inr (.inr f)))))) (h : ∀ j, j < N → f j = g j) (hw : ws.set q0 (a, .inl (cA, N, .inr (.inr (.inr (.inr g))))) = ws') (kk : mb_A p l e R s m args below meth c Q nL D cl A ws' k n lv pc st) : mb_A p l e R s m args below meth c Q nL D cl A ws k n lv pc st := by
  subst hw
  intro H locs ls hP hD hS hl
  refine kk H locs ls (va_P_chg hP ha (fun z => ?_)) (hD.set ha) hS hl
  have z : H[a]? = some (arrV cA N (fun j => va_rf (f j))) := z
  show H[a]? = some (arrV cA N (fun j => va_rf (g j)))
  rw [z, arrV_cg (fun j hj => by rw [h j hj])]
/-- the cells in another order -/
theorem mb_perm (is : List Nat) (hn : va_nd is = true) (hs : is.filterMap (fun i => ws[i]?) = ws') (hs2 : is.map (fun i => ws[i]?) = ws'.map some) (kk : mb_A p l e R s m args below meth c Q nL D cl A ws' k n lv pc st) : mb_A p l e R s m args below meth c Q nL D cl A ws k n lv pc st :=
  fun H locs ls hP hD hS hl => kk H locs ls (hP.sub is hs) (hD.sub is hn hs2) hS hl
end MB
/-- a constructor's contract: its world before and behind; u tells the new cells' addresses -/
def mb_C (l : Launch) (y : MethodName) (ws : List Cond) (rm : Room) (D : va_G) (cl : List vw_C) (tys : List (ClassId × FieldType)) (ns : List Cond) (As : List Value) (Win : va_W) (Wout : (Nat → Nat) → va_W) (mc ms : Nat) : Prop :=
  ∀ sz : Nat, Met l y ws rm (va_Pc As (fun U => U.heap.size = sz ∧ va_P D cl Win U.heap ∧ va_K D cl tys U ∧ va_D (fun _ => True) Win ∧ ∀ w ∈ ns, mb_nw w U)) (va_Qv (fun _ : Nat → Nat => True) (fun u t => va_P D cl (Wout u) t.heap ∧ va_D (va_A Win sz) (Wout u)) (va_A Win sz)) mc ms (va_A Win sz)
theorem mb_met {l : Launch} {y : MethodName} {ws ws' : List Cond} {rm : Room} {D : va_G} {cl : List vw_C} {tys : List (ClassId × FieldType)} {ns : List Cond} {As : List Value} {Win : va_W} {Wout : (Nat → Nat) → va_W} {mc ms : Nat} {cc : ByteArray} {maxL : Nat} {Ts : List Cond} {own : String} (hy : plainName y.cls = true) (ho : y.cls = own) (hyn : y.name = "<init>") (hT : ∀ w ∈ Ts, w ∈ ws) (hw : ws = Cond.code y cc maxL none :: ws') (hfit : (lg_sl As).length ≤ maxL) (lv0 : List (Nat × Value)) (hlv : lv_args 0 As = lv0)
    (body : ∀ (p : Program) (e : Env) (s : State) (m : MethodId) (args : Array Value) (below : List Frame) (meth : Method) (c : Code) (A : Nat → Prop) (Q : State → Prop), mb_X p m c cc maxL s args Ts own D cl tys A ns → meth.name = "<init>" →
      (∀ (u : Nat → Nat) (lv : List (Nat × Value)) (pc : Nat), decode cc pc = .ok (.return_, 1) → mb_A p l e rm s m args below meth c Q maxL D cl A (Wout u) mc ms lv pc []) →
      mb_A p l e rm s m args below meth c Q maxL D cl A Win 0 0 lv0 0 []) : mb_C l y ws rm D cl tys ns As Win Wout mc ms := by
  intro sz
  subst hlv
  refine Met.ofW (cc := cc) (maxL := maxL) (ret := none) hy hw ?_
  intro p e s m args below meth c s₁ B hml hv
  obtain ⟨rfl, hsz, hP, hK, hD0, hns⟩ := hv
  have hown : s.vm.findClass y.cls = some m.cls := findClass_of_methodNamed B.named
  have hin : meth.name = "<init>" := by rw [(name_of_methodNamed B.named B.method).1]; exact hyn
  have hl := lv_entry As hfit
  subst hsz
  have hD := hD0.self (sz := s.heap.size)
  have hA : ∀ q : Nat, s.heap.size ≤ q → va_A Win s.heap.size q := fun q h => Or.inr h
  rw [lg_entry_eq]
  subst ho
  have X : mb_X p m c cc maxL s As.toArray Ts y.cls D cl tys (va_A Win s.heap.size) ns := ⟨⟨B.exec, B.bytes, hml, hown, fun w hw' => atoms_spec (ws := ws) B.pre w (hT w hw')⟩, hK, hA, hns⟩
  exact body p e s m _ below meth c (va_A Win s.heap.size) _ X hin (fun u lv pc hd H locs ls hP1 hD1 hS1 hl1 => W.vret B.exec B.bytes B.returns (fun t ht hW => ⟨⟨u, rfl, trivial, by rw [ht]; exact hP1, hD1⟩, hS1.F ht⟩) hS1.2.2 hd B.notSynchronized) s.heap [] _ hP hD va_S.rf hl
section MBC
variable {p : Program} {l : Launch} {e : Env} {R : Room} {s : State} {m : MethodId} {args : Array Value} {below : List Frame} {meth : Method} {c : Code} {Q : State → Prop}
variable {cc : ByteArray} {nL : Nat} {own : String} {Ts : List Cond} {D : va_G} {cl : List vw_C} {tys : List (ClassId × FieldType)} {A : Nat → Prop} {ns : List Cond}
variable {ws : va_W} {k n : Nat} {lv : List (Nat × Value)} {pc nx : Nat} {st : List Value}
theorem mb_blind {As : List Value} {Win : va_W} {ns2 : List Cond} {tys2 : List (ClassId × FieldType)} {sz : Nat} : FrameBlind (va_Pc As (fun U => U.heap.size = sz ∧ va_P D cl Win U.heap ∧ va_K D cl tys2 U ∧ va_D (fun _ => True) Win ∧ ∀ w ∈ ns2, mb_nw w U)) := fun a U g mk q => by
  obtain ⟨q0, q1, qP, qK, qD, qn⟩ := q
  exact ⟨q0, q1, qP, va_K.moved (u := U) (U := U.calling g mk a) (Vm.Alike.refl U.vm) qK, qD, fun w hw => mb_nw.same (u := U) (U := U.calling g mk a) rfl (qn w hw)⟩
/-- a constructor's call; isC: the callee's cells, isR: the others -/
theorem mb_init (X : mb_X p m c cc nL s args Ts own D cl tys A ns) {y : MethodName} {bytes : ByteArray} {maxL j index b mc ms k' n' : Nat} {ws2 ws2' : List Cond} {rm : Room} {As rest : List Value} {Win wr : va_W} {Wout : (Nat → Nat) → va_W} {ns2 : List Cond} {tys2 : List (ClassId × FieldType)} (isC isR : List Nat) (its : List Nat)
    (hM : mb_C l y ws2 rm D cl tys2 ns2 (.ref b :: As) Win Wout mc ms) (hG : GoodIn Ts ws2) (hw : ws2 = Cond.code y bytes maxL none :: ws2') (hrc : rm.cells = mc ∧ rm.slots = ms) (h1 : Cond.initialized y.cls ∈ Ts) (hnt : its.filterMap (fun i => tys[i]?) = tys2) (hnn : ∀ w ∈ ns2, w ∈ ns)
    (hl : (∃ host, Cond.methodLinkNest own index y host ∈ ns) ∨ Cond.methodLink own index y ∈ Ts) (h3 : Cond.instanceMethod y ∈ Ts) (hy1 : y.name = "<init>") (hdy : y.cls ≠ "java/lang/invoke/MethodHandle" ∧ y.cls ≠ "java/lang/invoke/VarHandle" ∧ (parseMethodDescriptor y.desc).map (fun d => d.parameters.length) = some j) (hR : rm.frames + 1 ≤ R.frames ∧ 8 + (maxL + 11) + rm.locals ≤ R.locals) (hAs : As.length = j) (hcat : (rest.map fun v => v.category).sum ≤ 8) {st0 : List Value} (hst : st0 = As.reverse ++ .ref b :: rest) (hf : k + mc ≤ R.cells ∧ n + ms ≤ R.slots) (hk' : k + mc = k') (hn' : n + ms = n')
    (hC : isC.map (fun i => ws[i]?) = Win.map some) (hC2 : isC.filterMap (fun i => ws[i]?) = Win) (hR2 : isR.map (fun i => ws[i]?) = wr.map some) (hnd : va_nd isR = true) (hndC : va_nd isC = true) (hdis : ∀ i ∈ isR, i ∉ isC) (hd : decode cc pc = .ok (.invokespecial index, 3)) (hn : pc + 3 = nx)
    (kk : ∀ u : Nat → Nat, mb_A p l e R s m args below meth c Q nL D cl A (wr ++ Wout u) k' n' lv nx rest) : mb_A p l e R s m args below meth c Q nL D cl A ws k n lv pc st0 := by
  subst hn; subst hk'; subst hn'; subst hst
  intro H locs ls hP hD hS hlv
  have hPc := hP.sub isC hC2
  have hDc := hD.sub isC hndC hC
  have hFc := va_free hD hS X.2.2.1 isC hC
  have hpre : PreS s H (va_Pc (.ref b :: As) (fun U => U.heap.size = H.size ∧ va_P D cl Win U.heap ∧ va_K D cl tys2 U ∧ va_D (fun _ => True) Win ∧ ∀ w ∈ ns2, mb_nw w U)) (.ref b :: As) :=
    ⟨mb_blind, fun U hU hW => ⟨rfl, by rw [hU], by rw [hU]; exact hPc, va_K.moved hW.alike (X.2.1.sub its hnt), hDc.weaken (fun _ _ _ _ => trivial), fun w hw => mb_nw.warm hW (X.2.2.2 w (hnn w hw))⟩⟩
  have go : va_Run p l e R s m args below meth c H locs k n mc ms (F0 m pc ls (As.reverse ++ .ref b :: rest)) rest (va_Qv (fun _ : Nat → Nat => True) (fun u t => va_P D cl (Wout u) t.heap ∧ va_D (va_A Win H.size) (Wout u)) (va_A Win H.size) (Value.ref b :: As).toArray) (va_A Win H.size) := by
    rcases hl with ⟨host, hl⟩ | hl
    · exact va_runIN (As := As) (rest := rest) X.1 (hM H.size) ⟨va_cnB j X.1.2.2.2.2 hG hw hrc.1 hrc.2 (X.2.2.2 _ hl).1 (X.1.2.2.2.2 _ h1) hdy hR, hy1, X.1.2.2.2.2 _ h3⟩ hpre rfl hAs hlv.1 rfl (lv_room hcat) hd hf
    · exact va_runI (As := As) (rest := rest) X.1 (hM H.size) (cwI j X.1.2.2.2.2 hG hw hrc.1 hrc.2 (X.1.2.2.2.2 _ h1) (X.1.2.2.2.2 _ hl) (X.1.2.2.2.2 _ h3) hy1 hdy hR) hpre rfl hAs hlv.1 rfl (lv_room hcat) hd hf
  refine va_callv go hS (fun q _ h => hFc q h) hFc (fun u t H1 locs1 ht hvm hw2 hB hz1 hk1 hS1 => ?_)
  obtain ⟨hP1, hD1⟩ := hB
  rw [ht] at hP1
  obtain ⟨hP2, hD2⟩ := va_join (wr := wr) (w1 := Wout u) hP hD isC isR hC hR2 hnd hdis hk1 hFc hP1 hD1
  exact kk u H1 locs1 ls hP2 hD2 hS1 hlv
end MBC
