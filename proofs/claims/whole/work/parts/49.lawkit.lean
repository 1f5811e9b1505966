/-! THE LAW'S MACHINE: the class's cells, the reference's cells, the script -/
def sx (xs : Nat → Int32) (j : Nat) : Int := (xs j).toInt
theorem sx_b (xs : Nat → Int32) (j : Nat) : -2147483648 ≤ sx xs j ∧ sx xs j < 2147483648 := zi_rng (xs j)
def mL_X (p : Program) (m : MethodId) (c : Code) (s : State) (b L : Nat) (xs : Nat → Int32) (D : va_G) (cs : Nat → ClassId) (a1 a2 : Nat → Nat) (zt : Nat) : Prop := (CallFix p m c code 4 s #[Value.ref b] wA "CanonMakerLaw") ∧ (va_K D cmcl (cm_tys cs) s) ∧ (va_X b L xs s s.heap) ∧ (b < s.heap.size) ∧ (cm_inj a1) ∧ (mo_inj a2) ∧ (∀ k, k < 48 → s.heap.size ≤ a1 k) ∧ (∀ k, k < 16 → s.heap.size ≤ a2 k) ∧ (∀ i j, i < 48 → j < 16 → ¬ a1 i = a2 j) ∧ (mk_Z (cm_zs zt) (fun q : Nat => s.heap.size ≤ q) s s.heap)
theorem mL_X.fix {p : Program} {m : MethodId} {c : Code} {s : State} {b L : Nat} {xs : Nat → Int32} {D : va_G} {cs : Nat → ClassId} {a1 a2 : Nat → Nat} {zt : Nat} (h : mL_X p m c s b L xs D cs a1 a2 zt) : CallFix p m c code 4 s #[Value.ref b] wA "CanonMakerLaw" := h.1
theorem mL_X.kn {p : Program} {m : MethodId} {c : Code} {s : State} {b L : Nat} {xs : Nat → Int32} {D : va_G} {cs : Nat → ClassId} {a1 a2 : Nat → Nat} {zt : Nat} (h : mL_X p m c s b L xs D cs a1 a2 zt) : va_K D cmcl (cm_tys cs) s := h.2.1
theorem mL_X.sc {p : Program} {m : MethodId} {c : Code} {s : State} {b L : Nat} {xs : Nat → Int32} {D : va_G} {cs : Nat → ClassId} {a1 a2 : Nat → Nat} {zt : Nat} (h : mL_X p m c s b L xs D cs a1 a2 zt) : va_X b L xs s s.heap := h.2.2.1
theorem mL_X.bl {p : Program} {m : MethodId} {c : Code} {s : State} {b L : Nat} {xs : Nat → Int32} {D : va_G} {cs : Nat → ClassId} {a1 a2 : Nat → Nat} {zt : Nat} (h : mL_X p m c s b L xs D cs a1 a2 zt) : b < s.heap.size := h.2.2.2.1
theorem mL_X.i1 {p : Program} {m : MethodId} {c : Code} {s : State} {b L : Nat} {xs : Nat → Int32} {D : va_G} {cs : Nat → ClassId} {a1 a2 : Nat → Nat} {zt : Nat} (h : mL_X p m c s b L xs D cs a1 a2 zt) : cm_inj a1 := h.2.2.2.2.1
theorem mL_X.i2 {p : Program} {m : MethodId} {c : Code} {s : State} {b L : Nat} {xs : Nat → Int32} {D : va_G} {cs : Nat → ClassId} {a1 a2 : Nat → Nat} {zt : Nat} (h : mL_X p m c s b L xs D cs a1 a2 zt) : mo_inj a2 := h.2.2.2.2.2.1
theorem mL_X.n1 {p : Program} {m : MethodId} {c : Code} {s : State} {b L : Nat} {xs : Nat → Int32} {D : va_G} {cs : Nat → ClassId} {a1 a2 : Nat → Nat} {zt : Nat} (h : mL_X p m c s b L xs D cs a1 a2 zt) : ∀ k, k < 48 → s.heap.size ≤ a1 k := h.2.2.2.2.2.2.1
theorem mL_X.n2 {p : Program} {m : MethodId} {c : Code} {s : State} {b L : Nat} {xs : Nat → Int32} {D : va_G} {cs : Nat → ClassId} {a1 a2 : Nat → Nat} {zt : Nat} (h : mL_X p m c s b L xs D cs a1 a2 zt) : ∀ k, k < 16 → s.heap.size ≤ a2 k := h.2.2.2.2.2.2.2.1
theorem mL_X.dj {p : Program} {m : MethodId} {c : Code} {s : State} {b L : Nat} {xs : Nat → Int32} {D : va_G} {cs : Nat → ClassId} {a1 a2 : Nat → Nat} {zt : Nat} (h : mL_X p m c s b L xs D cs a1 a2 zt) : ∀ i j, i < 48 → j < 16 → ¬ a1 i = a2 j := h.2.2.2.2.2.2.2.2.1
theorem mL_X.zz {p : Program} {m : MethodId} {c : Code} {s : State} {b L : Nat} {xs : Nat → Int32} {D : va_G} {cs : Nat → ClassId} {a1 a2 : Nat → Nat} {zt : Nat} (h : mL_X p m c s b L xs D cs a1 a2 zt) : mk_Z (cm_zs zt) (fun q : Nat => s.heap.size ≤ q) s s.heap := h.2.2.2.2.2.2.2.2.2
def mL_A (p : Program) (l : Launch) (e : Env) (s : State) (m : MethodId) (b : Nat) (below : List Frame) (meth : Method) (c : Code) (Q : State → Prop) (kc ks : Nat) (D : va_G) (cs : Nat → ClassId) (a1 a2 : Nat → Nat) (I1 I2 : Wo) (lv : List (Nat × Value)) (pc : Nat) (st : List Value) : Prop :=
  ∀ (H : Heap) (locs : List Loc) (ls : Array Slot), va_P D cmcl (mk_wl (cm_sh cs a1) 48 a1 I1) H → va_P D cmcl (mk_wl (mo_sh cs a2) 16 a2 I2) H → va_S (fun q : Nat => s.heap.size ≤ q) s.heap H locs → lv_has ls 4 lv → W p l e room_1 s m #[Value.ref b] below meth c H locs kc ks Q (F0 m pc ls st)
section ML2
variable {p : Program} {l : Launch} {e : Env} {s : State} {m : MethodId} {b L : Nat} {xs : Nat → Int32} {below : List Frame} {meth : Method} {c : Code} {Q : State → Prop} {kc ks : Nat}
variable {D : va_G} {cs : Nat → ClassId} {a1 a2 : Nat → Nat} {zt : Nat} {I1 I2 : Wo} {lv : List (Nat × Value)} {pc nx : Nat} {st : List Value}
theorem mL_iconst (X : mL_X p m c s b L xs D cs a1 a2 zt) {x : Int} (hd : decode code pc = .ok (.iconst x, 1)) (hn : pc + 1 = nx) (kk : mL_A p l e s m b below meth c Q kc ks D cs a1 a2 I1 I2 lv nx (.int (zi x) :: st)) : mL_A p l e s m b below meth c Q kc ks D cs a1 a2 I1 I2 lv pc st := by
  subst hn; exact fun H locs ls h1 h2 hS hl => lv_iconst X.fix.1 X.fix.2.1 hd rfl (kk H locs ls h1 h2 hS hl)
theorem mL_bipush (X : mL_X p m c s b L xs D cs a1 a2 zt) {x : Int} (hd : decode code pc = .ok (.bipush x, 2)) (hv : (Int8.ofInt x).toInt32 = zi x) (hn : pc + 2 = nx) (kk : mL_A p l e s m b below meth c Q kc ks D cs a1 a2 I1 I2 lv nx (.int (zi x) :: st)) : mL_A p l e s m b below meth c Q kc ks D cs a1 a2 I1 I2 lv pc st := by
  subst hn; exact fun H locs ls h1 h2 hS hl => lv_bipush X.fix.1 X.fix.2.1 hd hv (kk H locs ls h1 h2 hS hl)
theorem mL_iloadn (X : mL_X p m c s b L xs D cs a1 a2 zt) {k : Fin 4} {x : Int32} (j : Nat) (hd : decode code pc = .ok (.iload_n k, 1)) (hk : lv[j]? = some ((k : Nat), .int x)) (hn : pc + 1 = nx) (kk : mL_A p l e s m b below meth c Q kc ks D cs a1 a2 I1 I2 lv nx (.int x :: st)) : mL_A p l e s m b below meth c Q kc ks D cs a1 a2 I1 I2 lv pc st := by
  subst hn; exact fun H locs ls h1 h2 hS hl => lv_iload_n X.fix.1 X.fix.2.1 hd rfl (lv_at hl j hk) (kk H locs ls h1 h2 hS hl)
theorem mL_aloadn (X : mL_X p m c s b L xs D cs a1 a2 zt) {k : Fin 4} {x : Nat} (j : Nat) (hd : decode code pc = .ok (.aload_n k, 1)) (hk : lv[j]? = some ((k : Nat), .ref x)) (hn : pc + 1 = nx) (kk : mL_A p l e s m b below meth c Q kc ks D cs a1 a2 I1 I2 lv nx (.ref x :: st)) : mL_A p l e s m b below meth c Q kc ks D cs a1 a2 I1 I2 lv pc st := by
  subst hn; exact fun H locs ls h1 h2 hS hl => lv_aload_n X.fix.1 X.fix.2.1 hd rfl (lv_at hl j hk) (kk H locs ls h1 h2 hS hl)
theorem mL_istoren (X : mL_X p m c s b L xs D cs a1 a2 zt) {k : Fin 4} {x : Int32} (lv' : List (Nat × Value)) (hd : decode code pc = .ok (.istore_n k, 1)) (hi : (k : Nat) < 4) (hl' : mk_put lv k (.int x) = lv') (hn : pc + 1 = nx) (kk : mL_A p l e s m b below meth c Q kc ks D cs a1 a2 I1 I2 lv' nx st) : mL_A p l e s m b below meth c Q kc ks D cs a1 a2 I1 I2 lv pc (.int x :: st) := by
  subst hn; exact fun H locs ls h1 h2 hS hl => lv_istore_n X.fix.1 X.fix.2.1 hd rfl hl hi hl' (fun ls' hl2 => kk H locs ls' h1 h2 hS hl2)
theorem mL_iinc (X : mL_X p m c s b L xs D cs a1 a2 zt) {k : Nat} {n x : Int} (j : Nat) (lv' : List (Nat × Value)) (hd : decode code pc = .ok (.iinc k n, 3)) (hk : lv[j]? = some (k, .int (zi x))) (hi : k < 4) (hl' : mk_put lv k (.int (zi (x + n))) = lv') (hn : pc + 3 = nx) (kk : mL_A p l e s m b below meth c Q kc ks D cs a1 a2 I1 I2 lv' nx st) : mL_A p l e s m b below meth c Q kc ks D cs a1 a2 I1 I2 lv pc st := by
  subst hn; exact fun H locs ls h1 h2 hS hl => lv_iinc (v := zi (x + n)) (k := j) X.fix.1 X.fix.2.1 hd hl hk (zi_add x n) hi hl' (fun ls' hl2 => kk H locs ls' h1 h2 hS hl2)
theorem mL_iadd (X : mL_X p m c s b L xs D cs a1 a2 zt) {x y : Int} (hd : decode code pc = .ok (.iadd, 1)) (hn : pc + 1 = nx) (kk : mL_A p l e s m b below meth c Q kc ks D cs a1 a2 I1 I2 lv nx (.int (zi (x + y)) :: st)) : mL_A p l e s m b below meth c Q kc ks D cs a1 a2 I1 I2 lv pc (.int (zi y) :: .int (zi x) :: st) := by
  subst hn; exact fun H locs ls h1 h2 hS hl => lv_iadd X.fix.1 X.fix.2.1 hd (by rw [zi_add]; exact kk H locs ls h1 h2 hS hl)
theorem mL_isub (X : mL_X p m c s b L xs D cs a1 a2 zt) {x y : Int} (hd : decode code pc = .ok (.isub, 1)) (hn : pc + 1 = nx) (kk : mL_A p l e s m b below meth c Q kc ks D cs a1 a2 I1 I2 lv nx (.int (zi (x - y)) :: st)) : mL_A p l e s m b below meth c Q kc ks D cs a1 a2 I1 I2 lv pc (.int (zi y) :: .int (zi x) :: st) := by
  subst hn; exact fun H locs ls h1 h2 hS hl => lv_isub X.fix.1 X.fix.2.1 hd (by rw [zi_sub]; exact kk H locs ls h1 h2 hS hl)
theorem mL_iand (X : mL_X p m c s b L xs D cs a1 a2 zt) {x y : Int} (hd : decode code pc = .ok (.iand, 1)) (hn : pc + 1 = nx) (kk : mL_A p l e s m b below meth c Q kc ks D cs a1 a2 I1 I2 lv nx (.int (zi (ziand x y)) :: st)) : mL_A p l e s m b below meth c Q kc ks D cs a1 a2 I1 I2 lv pc (.int (zi y) :: .int (zi x) :: st) := by
  subst hn; exact fun H locs ls h1 h2 hS hl => lv_iand X.fix.1 X.fix.2.1 hd (by have h := kk H locs ls h1 h2 hS hl; unfold ziand at h; rw [zi_of] at h; exact h)
theorem mL_goto (X : mL_X p m c s b L xs D cs a1 a2 zt) {off : Int} {tgt : Nat} (hd : decode code pc = .ok (.goto off, 3)) (ht : (pc : Int) + off = (tgt : Int)) (kk : mL_A p l e s m b below meth c Q kc ks D cs a1 a2 I1 I2 lv tgt st) : mL_A p l e s m b below meth c Q kc ks D cs a1 a2 I1 I2 lv pc st :=
  fun H locs ls h1 h2 hS hl => lv_goto X.fix.1 X.fix.2.1 hd ht (kk H locs ls h1 h2 hS hl)
theorem mL_gt (X : mL_X p m c s b L xs D cs a1 a2 zt) {x y off : Int} {tgt : Nat} (hd : decode code pc = .ok (.if_icmp .gt off, 3)) (hx : (-2147483648 ≤ x ∧ x < 2147483648)) (hy : (-2147483648 ≤ y ∧ y < 2147483648)) (ht : (pc : Int) + off = (tgt : Int)) (hn : pc + 3 = nx) (kt : y < x → mL_A p l e s m b below meth c Q kc ks D cs a1 a2 I1 I2 lv tgt st) (kf : ¬ y < x → mL_A p l e s m b below meth c Q kc ks D cs a1 a2 I1 I2 lv nx st) : mL_A p l e s m b below meth c Q kc ks D cs a1 a2 I1 I2 lv pc (.int (zi y) :: .int (zi x) :: st) := by
  subst hn; exact fun H locs ls h1 h2 hS hl => lv_icmp_gt X.fix.1 X.fix.2.1 hd ht (fun h => (fun h => kt ((zi_lt hy hx).mp h)) h H locs ls h1 h2 hS hl) (fun h => (fun h => kf (fun q => h ((zi_lt hy hx).mpr q))) h H locs ls h1 h2 hS hl)
/-- the answers are the same ones -/
theorem mL_eq (X : mL_X p m c s b L xs D cs a1 a2 zt) {x y off : Int} {tgt : Nat} (hd : decode code pc = .ok (.if_icmp .eq off, 3)) (ht : (pc : Int) + off = (tgt : Int)) (h : x = y) (kt : mL_A p l e s m b below meth c Q kc ks D cs a1 a2 I1 I2 lv tgt st) : mL_A p l e s m b below meth c Q kc ks D cs a1 a2 I1 I2 lv pc (.int (zi y) :: .int (zi x) :: st) := by
  subst h
  exact fun H locs ls h1 h2 hS hl => lv_icmp_eq X.fix.1 X.fix.2.1 hd ht (fun _ => kt H locs ls h1 h2 hS hl) (fun h => absurd rfl h)
theorem mL_sld (X : mL_X p m c s b L xs D cs a1 a2 zt) {i : Int} {j : Nat} (h0 : 0 ≤ i) (h1 : i < L) (hb : L < 2147483648) (hj : i.toNat = j) (hd : decode code pc = .ok (.iaload, 1)) (hn : pc + 1 = nx) (kk : mL_A p l e s m b below meth c Q kc ks D cs a1 a2 I1 I2 lv nx (.int (zi (sx xs j)) :: st)) : mL_A p l e s m b below meth c Q kc ks D cs a1 a2 I1 I2 lv pc (.int (zi i) :: .ref b :: st) := by
  subst hn; subst hj
  intro H locs ls g1 g2 hS hl
  refine va_sld X.fix.1 X.fix.2.1 X.sc X.bl (Nat.not_le.mpr X.bl) hS (zi_in h0 h1 hb) hd ?_
  rw [zi_cl ⟨h0, by omega⟩]
  have h := kk H locs ls g1 g2 hS hl
  unfold sx at h
  rw [zi_of] at h
  exact h
theorem mL_slen (X : mL_X p m c s b L xs D cs a1 a2 zt) (hd : decode code pc = .ok (.arraylength, 1)) (hn : pc + 1 = nx) (kk : mL_A p l e s m b below meth c Q kc ks D cs a1 a2 I1 I2 lv nx (.int (zi (L : Int)) :: st)) : mL_A p l e s m b below meth c Q kc ks D cs a1 a2 I1 I2 lv pc (.ref b :: st) := by
  subst hn
  intro H locs ls g1 g2 hS hl
  refine va_slen X.fix.1 X.fix.2.1 X.sc X.bl (Nat.not_le.mpr X.bl) hS hd ?_
  have h := kk H locs ls g1 g2 hS hl
  rw [show zi (L : Int) = Int32.ofNat L from Int32.ofInt_eq_ofNat] at h
  exact h
theorem mL_tOut (X : mL_X p m c s b L xs D cs a1 a2 zt) {dflt lo hi : Int} {offs : Array Int} {len : Nat} {x : Int} {tgt : Nat} (hd : decode code pc = .ok (.tableswitch dflt lo hi offs, len)) (hx : -2147483648 ≤ x ∧ x < 2147483648) (h : x < lo ∨ hi < x) (ht : (pc : Int) + dflt = (tgt : Int)) (kk : mL_A p l e s m b below meth c Q kc ks D cs a1 a2 I1 I2 lv tgt st) : mL_A p l e s m b below meth c Q kc ks D cs a1 a2 I1 I2 lv pc (.int (zi x) :: st) :=
  fun H locs ls h1 h2 hS hl => lv_tableOut X.fix.1 X.fix.2.1 hd (by rw [zi_to hx]; exact h) ht (kk H locs ls h1 h2 hS hl)
theorem mL_tIn (X : mL_X p m c s b L xs D cs a1 a2 zt) {dflt lo hi : Int} {offs : Array Int} {len : Nat} {x off : Int} {tgt : Nat} (hd : decode code pc = .ok (.tableswitch dflt lo hi offs, len)) (hx : -2147483648 ≤ x ∧ x < 2147483648) (g1 : lo ≤ x) (g2 : x ≤ hi) (ho : offs[(x - lo).toNat]? = some off) (ht : (pc : Int) + off = (tgt : Int)) (kk : mL_A p l e s m b below meth c Q kc ks D cs a1 a2 I1 I2 lv tgt st) : mL_A p l e s m b below meth c Q kc ks D cs a1 a2 I1 I2 lv pc (.int (zi x) :: st) :=
  fun H locs ls h1 h2 hS hl => lv_tableIn X.fix.1 X.fix.2.1 hd (by rw [zi_to hx]; omega) (by rw [zi_to hx]; omega) (by rw [zi_to hx]; exact ho) ht (kk H locs ls h1 h2 hS hl)
theorem mL_nm {x : Int} (kk : ∀ y : Int, y = x → mL_A p l e s m b below meth c Q kc ks D cs a1 a2 I1 I2 lv pc (.int (zi y) :: st)) : mL_A p l e s m b below meth c Q kc ks D cs a1 a2 I1 I2 lv pc (.int (zi x) :: st) := kk x rfl
/-- a call of the class -/
theorem mL_callX (X : mL_X p m c s b L xs D cs a1 a2 zt) {y : MethodName} {bytes : ByteArray} {maxL n index : Nat} {ret : Option FieldType} {ws ws' : List Cond} {rm : Room} {As rest : List Value} {P : Int → Wo → Prop}
    (hM : cm_C l D cs a1 zt y ws rm (.ref (a1 0) :: As) I1 (mk_pi P)) (hG : GoodIn wA (wsV "CanonMakerLaw" index "CanonMaker" y ws)) (hw : ws = Cond.code y bytes maxL ret :: ws') (hrc : rm.cells = 0 ∧ rm.slots = 0)
    (hdy : y.cls = "CanonMaker" ∧ y.cls ≠ "java/lang/invoke/MethodHandle" ∧ y.cls ≠ "java/lang/invoke/VarHandle" ∧ (parseMethodDescriptor y.desc).map (fun d => d.parameters.length) = some n) (hR : rm.frames + 1 ≤ room_1.frames ∧ 8 + (maxL + 11) + rm.locals ≤ room_1.locals) (hAs : As.length = n) (hcat : (rest.map fun v => v.category).sum ≤ 8) {st0 : List Value} (hst : st0 = As.reverse ++ .ref (a1 0) :: rest) (hkc : kc ≤ room_1.cells ∧ ks ≤ room_1.slots) (hd : decode code pc = .ok (.invokevirtual index, 3)) (hn : pc + 3 = nx)
    (kk : ∀ (r : Int) (J : Wo), P r J → mL_A p l e s m b below meth c Q kc ks D cs a1 a2 J I2 lv nx (.int (zi r) :: rest)) : mL_A p l e s m b below meth c Q kc ks D cs a1 a2 I1 I2 lv pc st0 := by
  subst hst; subst hn
  intro H locs ls h1 h2 hS hl T hT Y
  have hrun := va_runV (p := p) (l := l) (e := e) (R := room_1) (s := s) (m := m) (args := #[Value.ref b]) (below := below) (meth := meth) (c := c) (H := H) (locs := locs) (cells := kc) (slots := ks) (C := "CanonMaker") (b := a1 0) (As := As) (rest := rest) (g := F0 m pc ls (As.reverse ++ .ref (a1 0) :: rest)) X.fix hM (cwV n X.fix.2.2.2.2 hG hw hrc.1 hrc.2 hdy hR) ⟨mk_blind, va_recv X.kn h1 (q0 := 0) (ci := 6) rfl (mk_at (by decide)), fun U hU hW => ⟨rfl, by rw [hU]; exact h1, va_K.moved hW.alike X.kn, by
    rw [hU]
    refine mk_Z.warm hW (fun z hz => ?_)
    have q := (X.zz.kept (fun a x y => hS.2.1 a x y)) z hz
    exact ⟨q.1.narrow (fun w hw => hw.elim (fun k z => by rw [z.2]; exact X.n1 k z.1)), q.2.1.narrow (fun w hw => hw.elim (fun k z => by rw [z.2]; exact X.n1 k z.1)), q.2.2⟩⟩⟩ rfl hAs hl.1 rfl (lv_room hcat) hd ⟨hkc.1, hkc.2⟩
  obtain ⟨v, st₀, t, T', Lc, h0, Y', hL, e1, e2, ⟨v2, I', hv, hp, hP', hK', hz, hk⟩, go⟩ := hrun T hT Y
  cases hv
  obtain ⟨r, rfl, hp⟩ := hp
  rw [h0] at hz hk
  have hsub : ∀ q, mk_in 48 a1 q → s.heap.size ≤ q := fun q h => h.elim (fun k z => by rw [z.2]; exact X.n1 k z.1)
  have h2' : va_P D cmcl (mk_wl (mo_sh cs a2) 16 a2 I2) T'.heap := h2.kept (fun k x hx => by
    obtain ⟨g1, g2⟩ := mk_get? hx
    rw [e1]
    refine hk x.1 ((h2 k x hx).lt) (fun z => ?_)
    obtain ⟨i, w1, w2⟩ := z
    rw [g2] at w2
    exact X.dj i k w1 g1 w2.symm)
  obtain ⟨t2, a3, b3⟩ := kk r I' hp T'.heap (locs ++ Lc) ls (by rw [e1]; exact hP') h2' ⟨Nat.le_trans hS.1 (by rw [e1]; exact hz), fun q h1 h2 => by rw [e1, hk q (Nat.lt_of_lt_of_le h1 hS.1) (fun z => h2 (hsub q z))]; exact hS.2.1 q h1 h2, fun q hq => by
    rcases List.mem_append.mp hq with h | h
    · exact hS.2.2 q h
    · exact hsub _ (hL q h)⟩ hl T' rfl Y'
  exact ⟨t2, go t2 a3, b3⟩
/-- a call of the reference -/
theorem mL_callM (X : mL_X p m c s b L xs D cs a1 a2 zt) {y : MethodName} {bytes : ByteArray} {maxL n index : Nat} {ret : Option FieldType} {ws ws' : List Cond} {rm : Room} {As rest : List Value} {P : Int → Wo → Prop}
    (hM : mo_C l D cs a2 y ws rm (.ref (a2 0) :: As) I2 (mk_pi P)) (hG : GoodIn wA (wsV "CanonMakerLaw" index "CanonMakerModel" y ws)) (hw : ws = Cond.code y bytes maxL ret :: ws') (hrc : rm.cells = 0 ∧ rm.slots = 0)
    (hdy : y.cls = "CanonMakerModel" ∧ y.cls ≠ "java/lang/invoke/MethodHandle" ∧ y.cls ≠ "java/lang/invoke/VarHandle" ∧ (parseMethodDescriptor y.desc).map (fun d => d.parameters.length) = some n) (hR : rm.frames + 1 ≤ room_1.frames ∧ 8 + (maxL + 11) + rm.locals ≤ room_1.locals) (hAs : As.length = n) (hcat : (rest.map fun v => v.category).sum ≤ 8) {st0 : List Value} (hst : st0 = As.reverse ++ .ref (a2 0) :: rest) (hkc : kc ≤ room_1.cells ∧ ks ≤ room_1.slots) (hd : decode code pc = .ok (.invokevirtual index, 3)) (hn : pc + 3 = nx)
    (kk : ∀ (r : Int) (J : Wo), P r J → mL_A p l e s m b below meth c Q kc ks D cs a1 a2 I1 J lv nx (.int (zi r) :: rest)) : mL_A p l e s m b below meth c Q kc ks D cs a1 a2 I1 I2 lv pc st0 := by
  subst hst; subst hn
  intro H locs ls h1 h2 hS hl T hT Y
  have hK2 : va_K D cmcl (mo_tys cs) s := X.kn.sub [0, 1] rfl
  have hrun := va_runV (p := p) (l := l) (e := e) (R := room_1) (s := s) (m := m) (args := #[Value.ref b]) (below := below) (meth := meth) (c := c) (H := H) (locs := locs) (cells := kc) (slots := ks) (C := "CanonMakerModel") (b := a2 0) (As := As) (rest := rest) (g := F0 m pc ls (As.reverse ++ .ref (a2 0) :: rest)) X.fix hM (cwV n X.fix.2.2.2.2 hG hw hrc.1 hrc.2 hdy hR) ⟨mk_blind, va_recv hK2 h2 (q0 := 0) (ci := 7) rfl (mk_at (by decide)), fun U hU hW => ⟨rfl, by rw [hU]; exact h2, va_K.moved hW.alike hK2, fun z hz => absurd hz List.not_mem_nil⟩⟩ rfl hAs hl.1 rfl (lv_room hcat) hd ⟨hkc.1, hkc.2⟩
  obtain ⟨v, st₀, t, T', Lc, h0, Y', hL, e1, e2, ⟨v2, I', hv, hp, hP', hK', hz, hk⟩, go⟩ := hrun T hT Y
  cases hv
  obtain ⟨r, rfl, hp⟩ := hp
  rw [h0] at hz hk
  have hsub : ∀ q, mk_in 16 a2 q → s.heap.size ≤ q := fun q h => h.elim (fun k z => by rw [z.2]; exact X.n2 k z.1)
  have h1' : va_P D cmcl (mk_wl (cm_sh cs a1) 48 a1 I1) T'.heap := h1.kept (fun k x hx => by
    obtain ⟨g1, g2⟩ := mk_get? hx
    rw [e1]
    refine hk x.1 ((h1 k x hx).lt) (fun z => ?_)
    obtain ⟨i, w1, w2⟩ := z
    rw [g2] at w2
    exact X.dj k i g1 w1 w2)
  obtain ⟨t2, a3, b3⟩ := kk r I' hp T'.heap (locs ++ Lc) ls h1' (by rw [e1]; exact hP') ⟨Nat.le_trans hS.1 (by rw [e1]; exact hz), fun q h1 h2 => by rw [e1, hk q (Nat.lt_of_lt_of_le h1 hS.1) (fun z => h2 (hsub q z))]; exact hS.2.1 q h1 h2, fun q hq => by
    rcases List.mem_append.mp hq with h | h
    · exact hS.2.2 q h
    · exact hsub _ (hL q h)⟩ hl T' rfl Y'
  exact ⟨t2, go t2 a3, b3⟩
end ML2

theorem d_law_0 : decode code 0 = .ok (.new 7, 3) := by decide +kernel
theorem d_law_3 : decode code 3 = .ok (.dup, 1) := by decide +kernel
theorem d_law_4 : decode code 4 = .ok (.invokespecial 9, 3) := by decide +kernel
theorem d_law_7 : decode code 7 = .ok (.astore_n 1, 1) := by decide +kernel
theorem d_law_8 : decode code 8 = .ok (.new 10, 3) := by decide +kernel
theorem d_law_11 : decode code 11 = .ok (.dup, 1) := by decide +kernel
theorem d_law_12 : decode code 12 = .ok (.invokespecial 12, 3) := by decide +kernel
theorem d_law_15 : decode code 15 = .ok (.astore_n 2, 1) := by decide +kernel
theorem d_law_16 : decode code 16 = .ok (.iconst 0, 1) := by decide +kernel
theorem d_law_17 : decode code 17 = .ok (.istore_n 3, 1) := by decide +kernel
theorem d_law_18 : decode code 18 = .ok (.iload_n 3, 1) := by decide +kernel
theorem d_law_19 : decode code 19 = .ok (.aload_n 0, 1) := by decide +kernel
theorem d_law_20 : decode code 20 = .ok (.arraylength, 1) := by decide +kernel
theorem d_law_21 : decode code 21 = .ok (.bipush 6, 2) := by decide +kernel
theorem d_law_23 : decode code 23 = .ok (.isub, 1) := by decide +kernel
theorem d_law_24 : decode code 24 = .ok (.if_icmp .gt 640, 3) := by decide +kernel
theorem d_law_27 : decode code 27 = .ok (.aload_n 0, 1) := by decide +kernel
theorem d_law_28 : decode code 28 = .ok (.iload_n 3, 1) := by decide +kernel
theorem d_law_29 : decode code 29 = .ok (.iaload, 1) := by decide +kernel
theorem d_law_30 : decode code 30 = .ok (.bipush 31, 2) := by decide +kernel
theorem d_law_32 : decode code 32 = .ok (.iand, 1) := by decide +kernel
theorem d_law_33 : decode code 33 = .ok (.tableswitch 625 0 19 #[95, 128, 161, 194, 217, 230, 293, 316, 349, 372, 395, 418, 441, 454, 487, 500, 533, 556, 569, 592], 95) := by decide +kernel
theorem d_law_128 : decode code 128 = .ok (.aload_n 1, 1) := by decide +kernel
theorem d_law_129 : decode code 129 = .ok (.aload_n 0, 1) := by decide +kernel
theorem d_law_130 : decode code 130 = .ok (.iload_n 3, 1) := by decide +kernel
theorem d_law_131 : decode code 131 = .ok (.iconst 1, 1) := by decide +kernel
theorem d_law_132 : decode code 132 = .ok (.iadd, 1) := by decide +kernel
theorem d_law_133 : decode code 133 = .ok (.iaload, 1) := by decide +kernel
theorem d_law_134 : decode code 134 = .ok (.aload_n 0, 1) := by decide +kernel
theorem d_law_135 : decode code 135 = .ok (.iload_n 3, 1) := by decide +kernel
theorem d_law_136 : decode code 136 = .ok (.iconst 2, 1) := by decide +kernel
theorem d_law_137 : decode code 137 = .ok (.iadd, 1) := by decide +kernel
theorem d_law_138 : decode code 138 = .ok (.iaload, 1) := by decide +kernel
theorem d_law_139 : decode code 139 = .ok (.invokevirtual 13, 3) := by decide +kernel
theorem d_law_142 : decode code 142 = .ok (.aload_n 2, 1) := by decide +kernel
theorem d_law_143 : decode code 143 = .ok (.aload_n 0, 1) := by decide +kernel
theorem d_law_144 : decode code 144 = .ok (.iload_n 3, 1) := by decide +kernel
theorem d_law_145 : decode code 145 = .ok (.iconst 1, 1) := by decide +kernel
theorem d_law_146 : decode code 146 = .ok (.iadd, 1) := by decide +kernel
theorem d_law_147 : decode code 147 = .ok (.iaload, 1) := by decide +kernel
theorem d_law_148 : decode code 148 = .ok (.aload_n 0, 1) := by decide +kernel
theorem d_law_149 : decode code 149 = .ok (.iload_n 3, 1) := by decide +kernel
theorem d_law_150 : decode code 150 = .ok (.iconst 2, 1) := by decide +kernel
theorem d_law_151 : decode code 151 = .ok (.iadd, 1) := by decide +kernel
theorem d_law_152 : decode code 152 = .ok (.iaload, 1) := by decide +kernel
theorem d_law_153 : decode code 153 = .ok (.invokevirtual 17, 3) := by decide +kernel
theorem d_law_156 : decode code 156 = .ok (.if_icmp .eq 502, 3) := by decide +kernel
theorem d_law_159 : decode code 159 = .ok (.iconst 0, 1) := by decide +kernel
theorem d_law_160 : decode code 160 = .ok (.ireturn, 1) := by decide +kernel
theorem d_law_161 : decode code 161 = .ok (.aload_n 1, 1) := by decide +kernel
theorem d_law_162 : decode code 162 = .ok (.aload_n 0, 1) := by decide +kernel
theorem d_law_163 : decode code 163 = .ok (.iload_n 3, 1) := by decide +kernel
theorem d_law_164 : decode code 164 = .ok (.iconst 1, 1) := by decide +kernel
theorem d_law_165 : decode code 165 = .ok (.iadd, 1) := by decide +kernel
theorem d_law_166 : decode code 166 = .ok (.iaload, 1) := by decide +kernel
theorem d_law_167 : decode code 167 = .ok (.aload_n 0, 1) := by decide +kernel
theorem d_law_168 : decode code 168 = .ok (.iload_n 3, 1) := by decide +kernel
theorem d_law_169 : decode code 169 = .ok (.iconst 2, 1) := by decide +kernel
theorem d_law_170 : decode code 170 = .ok (.iadd, 1) := by decide +kernel
theorem d_law_171 : decode code 171 = .ok (.iaload, 1) := by decide +kernel
theorem d_law_172 : decode code 172 = .ok (.invokevirtual 18, 3) := by decide +kernel
theorem d_law_175 : decode code 175 = .ok (.aload_n 2, 1) := by decide +kernel
theorem d_law_176 : decode code 176 = .ok (.aload_n 0, 1) := by decide +kernel
theorem d_law_177 : decode code 177 = .ok (.iload_n 3, 1) := by decide +kernel
theorem d_law_178 : decode code 178 = .ok (.iconst 1, 1) := by decide +kernel
theorem d_law_179 : decode code 179 = .ok (.iadd, 1) := by decide +kernel
theorem d_law_180 : decode code 180 = .ok (.iaload, 1) := by decide +kernel
theorem d_law_181 : decode code 181 = .ok (.aload_n 0, 1) := by decide +kernel
theorem d_law_182 : decode code 182 = .ok (.iload_n 3, 1) := by decide +kernel
theorem d_law_183 : decode code 183 = .ok (.iconst 2, 1) := by decide +kernel
theorem d_law_184 : decode code 184 = .ok (.iadd, 1) := by decide +kernel
theorem d_law_185 : decode code 185 = .ok (.iaload, 1) := by decide +kernel
theorem d_law_186 : decode code 186 = .ok (.invokevirtual 21, 3) := by decide +kernel
theorem d_law_189 : decode code 189 = .ok (.if_icmp .eq 469, 3) := by decide +kernel
theorem d_law_192 : decode code 192 = .ok (.iconst 0, 1) := by decide +kernel
theorem d_law_193 : decode code 193 = .ok (.ireturn, 1) := by decide +kernel
theorem d_law_194 : decode code 194 = .ok (.aload_n 1, 1) := by decide +kernel
theorem d_law_195 : decode code 195 = .ok (.aload_n 0, 1) := by decide +kernel
theorem d_law_196 : decode code 196 = .ok (.iload_n 3, 1) := by decide +kernel
theorem d_law_197 : decode code 197 = .ok (.iconst 1, 1) := by decide +kernel
theorem d_law_198 : decode code 198 = .ok (.iadd, 1) := by decide +kernel
theorem d_law_199 : decode code 199 = .ok (.iaload, 1) := by decide +kernel
theorem d_law_200 : decode code 200 = .ok (.aload_n 0, 1) := by decide +kernel
theorem d_law_201 : decode code 201 = .ok (.iload_n 3, 1) := by decide +kernel
theorem d_law_202 : decode code 202 = .ok (.iconst 2, 1) := by decide +kernel
theorem d_law_203 : decode code 203 = .ok (.iadd, 1) := by decide +kernel
theorem d_law_204 : decode code 204 = .ok (.iaload, 1) := by decide +kernel
theorem d_law_205 : decode code 205 = .ok (.invokevirtual 22, 3) := by decide +kernel
theorem d_law_208 : decode code 208 = .ok (.aload_n 2, 1) := by decide +kernel
theorem d_law_209 : decode code 209 = .ok (.aload_n 0, 1) := by decide +kernel
theorem d_law_210 : decode code 210 = .ok (.iload_n 3, 1) := by decide +kernel
theorem d_law_211 : decode code 211 = .ok (.iconst 1, 1) := by decide +kernel
theorem d_law_212 : decode code 212 = .ok (.iadd, 1) := by decide +kernel
theorem d_law_213 : decode code 213 = .ok (.iaload, 1) := by decide +kernel
theorem d_law_214 : decode code 214 = .ok (.aload_n 0, 1) := by decide +kernel
theorem d_law_215 : decode code 215 = .ok (.iload_n 3, 1) := by decide +kernel
theorem d_law_216 : decode code 216 = .ok (.iconst 2, 1) := by decide +kernel
theorem d_law_217 : decode code 217 = .ok (.iadd, 1) := by decide +kernel
theorem d_law_218 : decode code 218 = .ok (.iaload, 1) := by decide +kernel
theorem d_law_219 : decode code 219 = .ok (.invokevirtual 25, 3) := by decide +kernel
theorem d_law_222 : decode code 222 = .ok (.if_icmp .eq 436, 3) := by decide +kernel
theorem d_law_225 : decode code 225 = .ok (.iconst 0, 1) := by decide +kernel
theorem d_law_226 : decode code 226 = .ok (.ireturn, 1) := by decide +kernel
theorem d_law_227 : decode code 227 = .ok (.aload_n 1, 1) := by decide +kernel
theorem d_law_228 : decode code 228 = .ok (.aload_n 0, 1) := by decide +kernel
theorem d_law_229 : decode code 229 = .ok (.iload_n 3, 1) := by decide +kernel
theorem d_law_230 : decode code 230 = .ok (.iconst 1, 1) := by decide +kernel
theorem d_law_231 : decode code 231 = .ok (.iadd, 1) := by decide +kernel
theorem d_law_232 : decode code 232 = .ok (.iaload, 1) := by decide +kernel
theorem d_law_233 : decode code 233 = .ok (.invokevirtual 26, 3) := by decide +kernel
theorem d_law_236 : decode code 236 = .ok (.aload_n 2, 1) := by decide +kernel
theorem d_law_237 : decode code 237 = .ok (.aload_n 0, 1) := by decide +kernel
theorem d_law_238 : decode code 238 = .ok (.iload_n 3, 1) := by decide +kernel
theorem d_law_239 : decode code 239 = .ok (.iconst 1, 1) := by decide +kernel
theorem d_law_240 : decode code 240 = .ok (.iadd, 1) := by decide +kernel
theorem d_law_241 : decode code 241 = .ok (.iaload, 1) := by decide +kernel
theorem d_law_242 : decode code 242 = .ok (.invokevirtual 30, 3) := by decide +kernel
theorem d_law_245 : decode code 245 = .ok (.if_icmp .eq 413, 3) := by decide +kernel
theorem d_law_248 : decode code 248 = .ok (.iconst 0, 1) := by decide +kernel
theorem d_law_249 : decode code 249 = .ok (.ireturn, 1) := by decide +kernel
theorem d_law_250 : decode code 250 = .ok (.aload_n 1, 1) := by decide +kernel
theorem d_law_251 : decode code 251 = .ok (.invokevirtual 31, 3) := by decide +kernel
theorem d_law_254 : decode code 254 = .ok (.aload_n 2, 1) := by decide +kernel
theorem d_law_255 : decode code 255 = .ok (.invokevirtual 35, 3) := by decide +kernel
theorem d_law_258 : decode code 258 = .ok (.if_icmp .eq 400, 3) := by decide +kernel
theorem d_law_261 : decode code 261 = .ok (.iconst 0, 1) := by decide +kernel
theorem d_law_262 : decode code 262 = .ok (.ireturn, 1) := by decide +kernel
theorem d_law_263 : decode code 263 = .ok (.aload_n 1, 1) := by decide +kernel
theorem d_law_264 : decode code 264 = .ok (.aload_n 0, 1) := by decide +kernel
theorem d_law_265 : decode code 265 = .ok (.iload_n 3, 1) := by decide +kernel
theorem d_law_266 : decode code 266 = .ok (.iconst 1, 1) := by decide +kernel
theorem d_law_267 : decode code 267 = .ok (.iadd, 1) := by decide +kernel
theorem d_law_268 : decode code 268 = .ok (.iaload, 1) := by decide +kernel
theorem d_law_269 : decode code 269 = .ok (.aload_n 0, 1) := by decide +kernel
theorem d_law_270 : decode code 270 = .ok (.iload_n 3, 1) := by decide +kernel
theorem d_law_271 : decode code 271 = .ok (.iconst 2, 1) := by decide +kernel
theorem d_law_272 : decode code 272 = .ok (.iadd, 1) := by decide +kernel
theorem d_law_273 : decode code 273 = .ok (.iaload, 1) := by decide +kernel
theorem d_law_274 : decode code 274 = .ok (.aload_n 0, 1) := by decide +kernel
theorem d_law_275 : decode code 275 = .ok (.iload_n 3, 1) := by decide +kernel
theorem d_law_276 : decode code 276 = .ok (.iconst 3, 1) := by decide +kernel
theorem d_law_277 : decode code 277 = .ok (.iadd, 1) := by decide +kernel
theorem d_law_278 : decode code 278 = .ok (.iaload, 1) := by decide +kernel
theorem d_law_279 : decode code 279 = .ok (.aload_n 0, 1) := by decide +kernel
theorem d_law_280 : decode code 280 = .ok (.iload_n 3, 1) := by decide +kernel
theorem d_law_281 : decode code 281 = .ok (.iconst 4, 1) := by decide +kernel
theorem d_law_282 : decode code 282 = .ok (.iadd, 1) := by decide +kernel
theorem d_law_283 : decode code 283 = .ok (.iaload, 1) := by decide +kernel
theorem d_law_284 : decode code 284 = .ok (.aload_n 0, 1) := by decide +kernel
theorem d_law_285 : decode code 285 = .ok (.iload_n 3, 1) := by decide +kernel
theorem d_law_286 : decode code 286 = .ok (.iconst 5, 1) := by decide +kernel
theorem d_law_287 : decode code 287 = .ok (.iadd, 1) := by decide +kernel
theorem d_law_288 : decode code 288 = .ok (.iaload, 1) := by decide +kernel
theorem d_law_289 : decode code 289 = .ok (.invokevirtual 36, 3) := by decide +kernel
theorem d_law_292 : decode code 292 = .ok (.aload_n 2, 1) := by decide +kernel
theorem d_law_293 : decode code 293 = .ok (.aload_n 0, 1) := by decide +kernel
theorem d_law_294 : decode code 294 = .ok (.iload_n 3, 1) := by decide +kernel
theorem d_law_295 : decode code 295 = .ok (.iconst 1, 1) := by decide +kernel
theorem d_law_296 : decode code 296 = .ok (.iadd, 1) := by decide +kernel
theorem d_law_297 : decode code 297 = .ok (.iaload, 1) := by decide +kernel
theorem d_law_298 : decode code 298 = .ok (.aload_n 0, 1) := by decide +kernel
theorem d_law_299 : decode code 299 = .ok (.iload_n 3, 1) := by decide +kernel
theorem d_law_300 : decode code 300 = .ok (.iconst 2, 1) := by decide +kernel
theorem d_law_301 : decode code 301 = .ok (.iadd, 1) := by decide +kernel
theorem d_law_302 : decode code 302 = .ok (.iaload, 1) := by decide +kernel
theorem d_law_303 : decode code 303 = .ok (.aload_n 0, 1) := by decide +kernel
theorem d_law_304 : decode code 304 = .ok (.iload_n 3, 1) := by decide +kernel
theorem d_law_305 : decode code 305 = .ok (.iconst 3, 1) := by decide +kernel
theorem d_law_306 : decode code 306 = .ok (.iadd, 1) := by decide +kernel
theorem d_law_307 : decode code 307 = .ok (.iaload, 1) := by decide +kernel
theorem d_law_308 : decode code 308 = .ok (.aload_n 0, 1) := by decide +kernel
theorem d_law_309 : decode code 309 = .ok (.iload_n 3, 1) := by decide +kernel
theorem d_law_310 : decode code 310 = .ok (.iconst 4, 1) := by decide +kernel
theorem d_law_311 : decode code 311 = .ok (.iadd, 1) := by decide +kernel
theorem d_law_312 : decode code 312 = .ok (.iaload, 1) := by decide +kernel
theorem d_law_313 : decode code 313 = .ok (.aload_n 0, 1) := by decide +kernel
theorem d_law_314 : decode code 314 = .ok (.iload_n 3, 1) := by decide +kernel
theorem d_law_315 : decode code 315 = .ok (.iconst 5, 1) := by decide +kernel
theorem d_law_316 : decode code 316 = .ok (.iadd, 1) := by decide +kernel
theorem d_law_317 : decode code 317 = .ok (.iaload, 1) := by decide +kernel
theorem d_law_318 : decode code 318 = .ok (.invokevirtual 40, 3) := by decide +kernel
theorem d_law_321 : decode code 321 = .ok (.if_icmp .eq 337, 3) := by decide +kernel
theorem d_law_324 : decode code 324 = .ok (.iconst 0, 1) := by decide +kernel
theorem d_law_325 : decode code 325 = .ok (.ireturn, 1) := by decide +kernel
theorem d_law_326 : decode code 326 = .ok (.aload_n 1, 1) := by decide +kernel
theorem d_law_327 : decode code 327 = .ok (.aload_n 0, 1) := by decide +kernel
theorem d_law_328 : decode code 328 = .ok (.iload_n 3, 1) := by decide +kernel
theorem d_law_329 : decode code 329 = .ok (.iconst 1, 1) := by decide +kernel
theorem d_law_330 : decode code 330 = .ok (.iadd, 1) := by decide +kernel
theorem d_law_331 : decode code 331 = .ok (.iaload, 1) := by decide +kernel
theorem d_law_332 : decode code 332 = .ok (.invokevirtual 41, 3) := by decide +kernel
theorem d_law_335 : decode code 335 = .ok (.aload_n 2, 1) := by decide +kernel
theorem d_law_336 : decode code 336 = .ok (.aload_n 0, 1) := by decide +kernel
theorem d_law_337 : decode code 337 = .ok (.iload_n 3, 1) := by decide +kernel
theorem d_law_338 : decode code 338 = .ok (.iconst 1, 1) := by decide +kernel
theorem d_law_339 : decode code 339 = .ok (.iadd, 1) := by decide +kernel
theorem d_law_340 : decode code 340 = .ok (.iaload, 1) := by decide +kernel
theorem d_law_341 : decode code 341 = .ok (.invokevirtual 44, 3) := by decide +kernel
theorem d_law_344 : decode code 344 = .ok (.if_icmp .eq 314, 3) := by decide +kernel
theorem d_law_347 : decode code 347 = .ok (.iconst 0, 1) := by decide +kernel
theorem d_law_348 : decode code 348 = .ok (.ireturn, 1) := by decide +kernel
theorem d_law_349 : decode code 349 = .ok (.aload_n 1, 1) := by decide +kernel
theorem d_law_350 : decode code 350 = .ok (.aload_n 0, 1) := by decide +kernel
theorem d_law_351 : decode code 351 = .ok (.iload_n 3, 1) := by decide +kernel
theorem d_law_352 : decode code 352 = .ok (.iconst 1, 1) := by decide +kernel
theorem d_law_353 : decode code 353 = .ok (.iadd, 1) := by decide +kernel
theorem d_law_354 : decode code 354 = .ok (.iaload, 1) := by decide +kernel
theorem d_law_355 : decode code 355 = .ok (.aload_n 0, 1) := by decide +kernel
theorem d_law_356 : decode code 356 = .ok (.iload_n 3, 1) := by decide +kernel
theorem d_law_357 : decode code 357 = .ok (.iconst 2, 1) := by decide +kernel
theorem d_law_358 : decode code 358 = .ok (.iadd, 1) := by decide +kernel
theorem d_law_359 : decode code 359 = .ok (.iaload, 1) := by decide +kernel
theorem d_law_360 : decode code 360 = .ok (.invokevirtual 45, 3) := by decide +kernel
theorem d_law_363 : decode code 363 = .ok (.aload_n 2, 1) := by decide +kernel
theorem d_law_364 : decode code 364 = .ok (.aload_n 0, 1) := by decide +kernel
theorem d_law_365 : decode code 365 = .ok (.iload_n 3, 1) := by decide +kernel
theorem d_law_366 : decode code 366 = .ok (.iconst 1, 1) := by decide +kernel
theorem d_law_367 : decode code 367 = .ok (.iadd, 1) := by decide +kernel
theorem d_law_368 : decode code 368 = .ok (.iaload, 1) := by decide +kernel
theorem d_law_369 : decode code 369 = .ok (.aload_n 0, 1) := by decide +kernel
theorem d_law_370 : decode code 370 = .ok (.iload_n 3, 1) := by decide +kernel
theorem d_law_371 : decode code 371 = .ok (.iconst 2, 1) := by decide +kernel
theorem d_law_372 : decode code 372 = .ok (.iadd, 1) := by decide +kernel
theorem d_law_373 : decode code 373 = .ok (.iaload, 1) := by decide +kernel
theorem d_law_374 : decode code 374 = .ok (.invokevirtual 48, 3) := by decide +kernel
theorem d_law_377 : decode code 377 = .ok (.if_icmp .eq 281, 3) := by decide +kernel
theorem d_law_380 : decode code 380 = .ok (.iconst 0, 1) := by decide +kernel
theorem d_law_381 : decode code 381 = .ok (.ireturn, 1) := by decide +kernel
theorem d_law_382 : decode code 382 = .ok (.aload_n 1, 1) := by decide +kernel
theorem d_law_383 : decode code 383 = .ok (.aload_n 0, 1) := by decide +kernel
theorem d_law_384 : decode code 384 = .ok (.iload_n 3, 1) := by decide +kernel
theorem d_law_385 : decode code 385 = .ok (.iconst 1, 1) := by decide +kernel
theorem d_law_386 : decode code 386 = .ok (.iadd, 1) := by decide +kernel
theorem d_law_387 : decode code 387 = .ok (.iaload, 1) := by decide +kernel
theorem d_law_388 : decode code 388 = .ok (.invokevirtual 49, 3) := by decide +kernel
theorem d_law_391 : decode code 391 = .ok (.aload_n 2, 1) := by decide +kernel
theorem d_law_392 : decode code 392 = .ok (.aload_n 0, 1) := by decide +kernel
theorem d_law_393 : decode code 393 = .ok (.iload_n 3, 1) := by decide +kernel
theorem d_law_394 : decode code 394 = .ok (.iconst 1, 1) := by decide +kernel
theorem d_law_395 : decode code 395 = .ok (.iadd, 1) := by decide +kernel
theorem d_law_396 : decode code 396 = .ok (.iaload, 1) := by decide +kernel
theorem d_law_397 : decode code 397 = .ok (.invokevirtual 52, 3) := by decide +kernel
theorem d_law_400 : decode code 400 = .ok (.if_icmp .eq 258, 3) := by decide +kernel
theorem d_law_403 : decode code 403 = .ok (.iconst 0, 1) := by decide +kernel
theorem d_law_404 : decode code 404 = .ok (.ireturn, 1) := by decide +kernel
theorem d_law_405 : decode code 405 = .ok (.aload_n 1, 1) := by decide +kernel
theorem d_law_406 : decode code 406 = .ok (.aload_n 0, 1) := by decide +kernel
theorem d_law_407 : decode code 407 = .ok (.iload_n 3, 1) := by decide +kernel
theorem d_law_408 : decode code 408 = .ok (.iconst 1, 1) := by decide +kernel
theorem d_law_409 : decode code 409 = .ok (.iadd, 1) := by decide +kernel
theorem d_law_410 : decode code 410 = .ok (.iaload, 1) := by decide +kernel
theorem d_law_411 : decode code 411 = .ok (.invokevirtual 53, 3) := by decide +kernel
theorem d_law_414 : decode code 414 = .ok (.aload_n 2, 1) := by decide +kernel
theorem d_law_415 : decode code 415 = .ok (.aload_n 0, 1) := by decide +kernel
theorem d_law_416 : decode code 416 = .ok (.iload_n 3, 1) := by decide +kernel
theorem d_law_417 : decode code 417 = .ok (.iconst 1, 1) := by decide +kernel
theorem d_law_418 : decode code 418 = .ok (.iadd, 1) := by decide +kernel
theorem d_law_419 : decode code 419 = .ok (.iaload, 1) := by decide +kernel
theorem d_law_420 : decode code 420 = .ok (.invokevirtual 56, 3) := by decide +kernel
theorem d_law_423 : decode code 423 = .ok (.if_icmp .eq 235, 3) := by decide +kernel
theorem d_law_426 : decode code 426 = .ok (.iconst 0, 1) := by decide +kernel
theorem d_law_427 : decode code 427 = .ok (.ireturn, 1) := by decide +kernel
theorem d_law_428 : decode code 428 = .ok (.aload_n 1, 1) := by decide +kernel
theorem d_law_429 : decode code 429 = .ok (.aload_n 0, 1) := by decide +kernel
theorem d_law_430 : decode code 430 = .ok (.iload_n 3, 1) := by decide +kernel
theorem d_law_431 : decode code 431 = .ok (.iconst 1, 1) := by decide +kernel
theorem d_law_432 : decode code 432 = .ok (.iadd, 1) := by decide +kernel
theorem d_law_433 : decode code 433 = .ok (.iaload, 1) := by decide +kernel
theorem d_law_434 : decode code 434 = .ok (.invokevirtual 57, 3) := by decide +kernel
theorem d_law_437 : decode code 437 = .ok (.aload_n 2, 1) := by decide +kernel
theorem d_law_438 : decode code 438 = .ok (.aload_n 0, 1) := by decide +kernel
theorem d_law_439 : decode code 439 = .ok (.iload_n 3, 1) := by decide +kernel
theorem d_law_440 : decode code 440 = .ok (.iconst 1, 1) := by decide +kernel
theorem d_law_441 : decode code 441 = .ok (.iadd, 1) := by decide +kernel
theorem d_law_442 : decode code 442 = .ok (.iaload, 1) := by decide +kernel
theorem d_law_443 : decode code 443 = .ok (.invokevirtual 60, 3) := by decide +kernel
theorem d_law_446 : decode code 446 = .ok (.if_icmp .eq 212, 3) := by decide +kernel
theorem d_law_449 : decode code 449 = .ok (.iconst 0, 1) := by decide +kernel
theorem d_law_450 : decode code 450 = .ok (.ireturn, 1) := by decide +kernel
theorem d_law_451 : decode code 451 = .ok (.aload_n 1, 1) := by decide +kernel
theorem d_law_452 : decode code 452 = .ok (.aload_n 0, 1) := by decide +kernel
theorem d_law_453 : decode code 453 = .ok (.iload_n 3, 1) := by decide +kernel
theorem d_law_454 : decode code 454 = .ok (.iconst 1, 1) := by decide +kernel
theorem d_law_455 : decode code 455 = .ok (.iadd, 1) := by decide +kernel
theorem d_law_456 : decode code 456 = .ok (.iaload, 1) := by decide +kernel
theorem d_law_457 : decode code 457 = .ok (.invokevirtual 61, 3) := by decide +kernel
theorem d_law_460 : decode code 460 = .ok (.aload_n 2, 1) := by decide +kernel
theorem d_law_461 : decode code 461 = .ok (.aload_n 0, 1) := by decide +kernel
theorem d_law_462 : decode code 462 = .ok (.iload_n 3, 1) := by decide +kernel
theorem d_law_463 : decode code 463 = .ok (.iconst 1, 1) := by decide +kernel
theorem d_law_464 : decode code 464 = .ok (.iadd, 1) := by decide +kernel
theorem d_law_465 : decode code 465 = .ok (.iaload, 1) := by decide +kernel
theorem d_law_466 : decode code 466 = .ok (.invokevirtual 64, 3) := by decide +kernel
theorem d_law_469 : decode code 469 = .ok (.if_icmp .eq 189, 3) := by decide +kernel
theorem d_law_472 : decode code 472 = .ok (.iconst 0, 1) := by decide +kernel
theorem d_law_473 : decode code 473 = .ok (.ireturn, 1) := by decide +kernel
theorem d_law_474 : decode code 474 = .ok (.aload_n 1, 1) := by decide +kernel
theorem d_law_475 : decode code 475 = .ok (.invokevirtual 65, 3) := by decide +kernel
theorem d_law_478 : decode code 478 = .ok (.aload_n 2, 1) := by decide +kernel
theorem d_law_479 : decode code 479 = .ok (.invokevirtual 68, 3) := by decide +kernel
theorem d_law_482 : decode code 482 = .ok (.if_icmp .eq 176, 3) := by decide +kernel
theorem d_law_485 : decode code 485 = .ok (.iconst 0, 1) := by decide +kernel
theorem d_law_486 : decode code 486 = .ok (.ireturn, 1) := by decide +kernel
theorem d_law_487 : decode code 487 = .ok (.aload_n 1, 1) := by decide +kernel
theorem d_law_488 : decode code 488 = .ok (.aload_n 0, 1) := by decide +kernel
theorem d_law_489 : decode code 489 = .ok (.iload_n 3, 1) := by decide +kernel
theorem d_law_490 : decode code 490 = .ok (.iconst 1, 1) := by decide +kernel
theorem d_law_491 : decode code 491 = .ok (.iadd, 1) := by decide +kernel
theorem d_law_492 : decode code 492 = .ok (.iaload, 1) := by decide +kernel
theorem d_law_493 : decode code 493 = .ok (.aload_n 0, 1) := by decide +kernel
theorem d_law_494 : decode code 494 = .ok (.iload_n 3, 1) := by decide +kernel
theorem d_law_495 : decode code 495 = .ok (.iconst 2, 1) := by decide +kernel
theorem d_law_496 : decode code 496 = .ok (.iadd, 1) := by decide +kernel
theorem d_law_497 : decode code 497 = .ok (.iaload, 1) := by decide +kernel
theorem d_law_498 : decode code 498 = .ok (.invokevirtual 69, 3) := by decide +kernel
theorem d_law_501 : decode code 501 = .ok (.aload_n 2, 1) := by decide +kernel
theorem d_law_502 : decode code 502 = .ok (.aload_n 0, 1) := by decide +kernel
theorem d_law_503 : decode code 503 = .ok (.iload_n 3, 1) := by decide +kernel
theorem d_law_504 : decode code 504 = .ok (.iconst 1, 1) := by decide +kernel
theorem d_law_505 : decode code 505 = .ok (.iadd, 1) := by decide +kernel
theorem d_law_506 : decode code 506 = .ok (.iaload, 1) := by decide +kernel
theorem d_law_507 : decode code 507 = .ok (.aload_n 0, 1) := by decide +kernel
theorem d_law_508 : decode code 508 = .ok (.iload_n 3, 1) := by decide +kernel
theorem d_law_509 : decode code 509 = .ok (.iconst 2, 1) := by decide +kernel
theorem d_law_510 : decode code 510 = .ok (.iadd, 1) := by decide +kernel
theorem d_law_511 : decode code 511 = .ok (.iaload, 1) := by decide +kernel
theorem d_law_512 : decode code 512 = .ok (.invokevirtual 72, 3) := by decide +kernel
theorem d_law_515 : decode code 515 = .ok (.if_icmp .eq 143, 3) := by decide +kernel
theorem d_law_518 : decode code 518 = .ok (.iconst 0, 1) := by decide +kernel
theorem d_law_519 : decode code 519 = .ok (.ireturn, 1) := by decide +kernel
theorem d_law_520 : decode code 520 = .ok (.aload_n 1, 1) := by decide +kernel
theorem d_law_521 : decode code 521 = .ok (.invokevirtual 73, 3) := by decide +kernel
theorem d_law_524 : decode code 524 = .ok (.aload_n 2, 1) := by decide +kernel
theorem d_law_525 : decode code 525 = .ok (.invokevirtual 76, 3) := by decide +kernel
theorem d_law_528 : decode code 528 = .ok (.if_icmp .eq 130, 3) := by decide +kernel
theorem d_law_531 : decode code 531 = .ok (.iconst 0, 1) := by decide +kernel
theorem d_law_532 : decode code 532 = .ok (.ireturn, 1) := by decide +kernel
theorem d_law_533 : decode code 533 = .ok (.aload_n 1, 1) := by decide +kernel
theorem d_law_534 : decode code 534 = .ok (.aload_n 0, 1) := by decide +kernel
theorem d_law_535 : decode code 535 = .ok (.iload_n 3, 1) := by decide +kernel
theorem d_law_536 : decode code 536 = .ok (.iconst 1, 1) := by decide +kernel
theorem d_law_537 : decode code 537 = .ok (.iadd, 1) := by decide +kernel
theorem d_law_538 : decode code 538 = .ok (.iaload, 1) := by decide +kernel
theorem d_law_539 : decode code 539 = .ok (.aload_n 0, 1) := by decide +kernel
theorem d_law_540 : decode code 540 = .ok (.iload_n 3, 1) := by decide +kernel
theorem d_law_541 : decode code 541 = .ok (.iconst 2, 1) := by decide +kernel
theorem d_law_542 : decode code 542 = .ok (.iadd, 1) := by decide +kernel
theorem d_law_543 : decode code 543 = .ok (.iaload, 1) := by decide +kernel
theorem d_law_544 : decode code 544 = .ok (.invokevirtual 77, 3) := by decide +kernel
theorem d_law_547 : decode code 547 = .ok (.aload_n 2, 1) := by decide +kernel
theorem d_law_548 : decode code 548 = .ok (.aload_n 0, 1) := by decide +kernel
theorem d_law_549 : decode code 549 = .ok (.iload_n 3, 1) := by decide +kernel
theorem d_law_550 : decode code 550 = .ok (.iconst 1, 1) := by decide +kernel
theorem d_law_551 : decode code 551 = .ok (.iadd, 1) := by decide +kernel
theorem d_law_552 : decode code 552 = .ok (.iaload, 1) := by decide +kernel
theorem d_law_553 : decode code 553 = .ok (.aload_n 0, 1) := by decide +kernel
theorem d_law_554 : decode code 554 = .ok (.iload_n 3, 1) := by decide +kernel
theorem d_law_555 : decode code 555 = .ok (.iconst 2, 1) := by decide +kernel
theorem d_law_556 : decode code 556 = .ok (.iadd, 1) := by decide +kernel
theorem d_law_557 : decode code 557 = .ok (.iaload, 1) := by decide +kernel
theorem d_law_558 : decode code 558 = .ok (.invokevirtual 80, 3) := by decide +kernel
theorem d_law_561 : decode code 561 = .ok (.if_icmp .eq 97, 3) := by decide +kernel
theorem d_law_564 : decode code 564 = .ok (.iconst 0, 1) := by decide +kernel
theorem d_law_565 : decode code 565 = .ok (.ireturn, 1) := by decide +kernel
theorem d_law_566 : decode code 566 = .ok (.aload_n 1, 1) := by decide +kernel
theorem d_law_567 : decode code 567 = .ok (.aload_n 0, 1) := by decide +kernel
theorem d_law_568 : decode code 568 = .ok (.iload_n 3, 1) := by decide +kernel
theorem d_law_569 : decode code 569 = .ok (.iconst 1, 1) := by decide +kernel
theorem d_law_570 : decode code 570 = .ok (.iadd, 1) := by decide +kernel
theorem d_law_571 : decode code 571 = .ok (.iaload, 1) := by decide +kernel
theorem d_law_572 : decode code 572 = .ok (.invokevirtual 81, 3) := by decide +kernel
theorem d_law_575 : decode code 575 = .ok (.aload_n 2, 1) := by decide +kernel
theorem d_law_576 : decode code 576 = .ok (.aload_n 0, 1) := by decide +kernel
theorem d_law_577 : decode code 577 = .ok (.iload_n 3, 1) := by decide +kernel
theorem d_law_578 : decode code 578 = .ok (.iconst 1, 1) := by decide +kernel
theorem d_law_579 : decode code 579 = .ok (.iadd, 1) := by decide +kernel
theorem d_law_580 : decode code 580 = .ok (.iaload, 1) := by decide +kernel
theorem d_law_581 : decode code 581 = .ok (.invokevirtual 84, 3) := by decide +kernel
theorem d_law_584 : decode code 584 = .ok (.if_icmp .eq 74, 3) := by decide +kernel
theorem d_law_587 : decode code 587 = .ok (.iconst 0, 1) := by decide +kernel
theorem d_law_588 : decode code 588 = .ok (.ireturn, 1) := by decide +kernel
theorem d_law_589 : decode code 589 = .ok (.aload_n 1, 1) := by decide +kernel
theorem d_law_590 : decode code 590 = .ok (.invokevirtual 85, 3) := by decide +kernel
theorem d_law_593 : decode code 593 = .ok (.aload_n 2, 1) := by decide +kernel
theorem d_law_594 : decode code 594 = .ok (.invokevirtual 88, 3) := by decide +kernel
theorem d_law_597 : decode code 597 = .ok (.if_icmp .eq 61, 3) := by decide +kernel
theorem d_law_600 : decode code 600 = .ok (.iconst 0, 1) := by decide +kernel
theorem d_law_601 : decode code 601 = .ok (.ireturn, 1) := by decide +kernel
theorem d_law_602 : decode code 602 = .ok (.aload_n 1, 1) := by decide +kernel
theorem d_law_603 : decode code 603 = .ok (.aload_n 0, 1) := by decide +kernel
theorem d_law_604 : decode code 604 = .ok (.iload_n 3, 1) := by decide +kernel
theorem d_law_605 : decode code 605 = .ok (.iconst 1, 1) := by decide +kernel
theorem d_law_606 : decode code 606 = .ok (.iadd, 1) := by decide +kernel
theorem d_law_607 : decode code 607 = .ok (.iaload, 1) := by decide +kernel
theorem d_law_608 : decode code 608 = .ok (.invokevirtual 89, 3) := by decide +kernel
theorem d_law_611 : decode code 611 = .ok (.aload_n 2, 1) := by decide +kernel
theorem d_law_612 : decode code 612 = .ok (.aload_n 0, 1) := by decide +kernel
theorem d_law_613 : decode code 613 = .ok (.iload_n 3, 1) := by decide +kernel
theorem d_law_614 : decode code 614 = .ok (.iconst 1, 1) := by decide +kernel
theorem d_law_615 : decode code 615 = .ok (.iadd, 1) := by decide +kernel
theorem d_law_616 : decode code 616 = .ok (.iaload, 1) := by decide +kernel
theorem d_law_617 : decode code 617 = .ok (.invokevirtual 92, 3) := by decide +kernel
theorem d_law_620 : decode code 620 = .ok (.if_icmp .eq 38, 3) := by decide +kernel
theorem d_law_623 : decode code 623 = .ok (.iconst 0, 1) := by decide +kernel
theorem d_law_624 : decode code 624 = .ok (.ireturn, 1) := by decide +kernel
theorem d_law_625 : decode code 625 = .ok (.aload_n 1, 1) := by decide +kernel
theorem d_law_626 : decode code 626 = .ok (.aload_n 0, 1) := by decide +kernel
theorem d_law_627 : decode code 627 = .ok (.iload_n 3, 1) := by decide +kernel
theorem d_law_628 : decode code 628 = .ok (.iconst 1, 1) := by decide +kernel
theorem d_law_629 : decode code 629 = .ok (.iadd, 1) := by decide +kernel
theorem d_law_630 : decode code 630 = .ok (.iaload, 1) := by decide +kernel
theorem d_law_631 : decode code 631 = .ok (.aload_n 0, 1) := by decide +kernel
theorem d_law_632 : decode code 632 = .ok (.iload_n 3, 1) := by decide +kernel
theorem d_law_633 : decode code 633 = .ok (.iconst 2, 1) := by decide +kernel
theorem d_law_634 : decode code 634 = .ok (.iadd, 1) := by decide +kernel
theorem d_law_635 : decode code 635 = .ok (.iaload, 1) := by decide +kernel
theorem d_law_636 : decode code 636 = .ok (.invokevirtual 93, 3) := by decide +kernel
theorem d_law_639 : decode code 639 = .ok (.aload_n 2, 1) := by decide +kernel
theorem d_law_640 : decode code 640 = .ok (.aload_n 0, 1) := by decide +kernel
theorem d_law_641 : decode code 641 = .ok (.iload_n 3, 1) := by decide +kernel
theorem d_law_642 : decode code 642 = .ok (.iconst 1, 1) := by decide +kernel
theorem d_law_643 : decode code 643 = .ok (.iadd, 1) := by decide +kernel
theorem d_law_644 : decode code 644 = .ok (.iaload, 1) := by decide +kernel
theorem d_law_645 : decode code 645 = .ok (.aload_n 0, 1) := by decide +kernel
theorem d_law_646 : decode code 646 = .ok (.iload_n 3, 1) := by decide +kernel
theorem d_law_647 : decode code 647 = .ok (.iconst 2, 1) := by decide +kernel
theorem d_law_648 : decode code 648 = .ok (.iadd, 1) := by decide +kernel
theorem d_law_649 : decode code 649 = .ok (.iaload, 1) := by decide +kernel
theorem d_law_650 : decode code 650 = .ok (.invokevirtual 96, 3) := by decide +kernel
theorem d_law_653 : decode code 653 = .ok (.if_icmp .eq 5, 3) := by decide +kernel
theorem d_law_656 : decode code 656 = .ok (.iconst 0, 1) := by decide +kernel
theorem d_law_657 : decode code 657 = .ok (.ireturn, 1) := by decide +kernel
theorem d_law_658 : decode code 658 = .ok (.iinc 3 6, 3) := by decide +kernel
theorem d_law_661 : decode code 661 = .ok (.goto (-643), 3) := by decide +kernel
theorem d_law_664 : decode code 664 = .ok (.iconst 1, 1) := by decide +kernel
theorem d_law_665 : decode code 665 = .ok (.ireturn, 1) := by decide +kernel