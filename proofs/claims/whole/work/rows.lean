section
/-! MINI-KIT: an abstract machine over the kit's W. A world is a table of ints I (cell, slot), its cells at ad k with shape sh k (I k);
the first NW cells may be written. mk_A I lv pc st: 'from pc, with these ints, locals, stack, the machine comes to Q'. -/
abbrev Wo : Type := Nat → Nat → Int
def zi (x : Int) : Int32 := Int32.ofInt x
theorem zi_add (x y : Int) : zi x + zi y = zi (x + y) := (Int32.ofInt_add x y).symm
theorem zi_sub (x y : Int) : zi x - zi y = zi (x - y) := (Int32.ofInt_sub x y).symm
theorem zi_mul (x y : Int) : zi x * zi y = zi (x * y) := (Int32.ofInt_mul x y).symm
theorem zi_neg (x : Int) : - zi x = zi (-x) := (Int32.ofInt_neg x).symm
theorem zi_to {x : Int} (h : -2147483648 ≤ x ∧ x < 2147483648) : (zi x).toInt = x := Int32.toInt_ofInt_of_le (by have := h.1; simpa using this) (by have := h.2; simpa using this)
theorem zi_of (x : Int32) : zi x.toInt = x := Int32.ofInt_toInt x
theorem zi_rng (x : Int32) : -2147483648 ≤ x.toInt ∧ x.toInt < 2147483648 := ⟨by have := Int32.le_toInt x; simpa using this, by have := Int32.toInt_lt x; simpa using this⟩
theorem zi_lt {x y : Int} (hx : -2147483648 ≤ x ∧ x < 2147483648) (hy : -2147483648 ≤ y ∧ y < 2147483648) : zi x < zi y ↔ x < y := by rw [Int32.lt_iff_toInt_lt, zi_to hx, zi_to hy]
theorem zi_le {x y : Int} (hx : -2147483648 ≤ x ∧ x < 2147483648) (hy : -2147483648 ≤ y ∧ y < 2147483648) : zi x ≤ zi y ↔ x ≤ y := by rw [Int32.le_iff_toInt_le, zi_to hx, zi_to hy]
theorem zi_eq {x y : Int} (hx : -2147483648 ≤ x ∧ x < 2147483648) (hy : -2147483648 ≤ y ∧ y < 2147483648) : zi x = zi y ↔ x = y := by rw [← Int32.toInt_inj, zi_to hx, zi_to hy]
theorem zi_0 : (0 : Int32) = zi 0 := rfl
theorem zi_cl {x : Int} (hx : 0 ≤ x ∧ x < 2147483648) : (zi x).toNatClampNeg = x.toNat := by
  show (zi x).toInt.toNat = x.toNat
  rw [zi_to ⟨by omega, hx.2⟩]
theorem zi_in {x : Int} {n : Nat} (h0 : 0 ≤ x) (h1 : x < n) (hn : n < 2147483648) : vp_in (zi x) n := by
  have hz : -2147483648 ≤ x ∧ x < 2147483648 := by omega
  rintro (h | h)
  · rw [zi_0, zi_lt hz (by omega)] at h; omega
  · rw [zi_cl ⟨h0, hz.2⟩] at h; omega
/-- the bit operations and the remainders, as functions of ints -/
def ziand (x y : Int) : Int := (zi x &&& zi y).toInt
def zior (x y : Int) : Int := (zi x ||| zi y).toInt
def zixor (x y : Int) : Int := (zi x ^^^ zi y).toInt
def zishl (x y : Int) : Int := (zi x <<< (zi y &&& 31)).toInt
def zishr (x y : Int) : Int := (zi x >>> (zi y &&& 31)).toInt
def up1 (f : Nat → Int) (k : Nat) (x : Int) : Nat → Int := fun j => if j = k then x else f j
def up2 (I : Wo) (q k : Nat) (x : Int) : Wo := fun a => if a = q then up1 (I q) k x else I a
def upr (I : Wo) (q : Nat) (f : Nat → Int) : Wo := fun a => if a = q then f else I a
theorem up1_s (f : Nat → Int) (k : Nat) (x : Int) : up1 f k x k = x := if_pos rfl
theorem up1_n {f : Nat → Int} {k j : Nat} {x : Int} (h : j ≠ k) : up1 f k x j = f j := if_neg h
theorem up2_s (I : Wo) (q k : Nat) (x : Int) : up2 I q k x q = up1 (I q) k x := if_pos rfl
theorem up2_n {I : Wo} {q k a : Nat} {x : Int} (h : a ≠ q) : up2 I q k x a = I a := if_neg h
theorem upr_s (I : Wo) (q : Nat) (f : Nat → Int) : upr I q f q = f := if_pos rfl
theorem upr_n {I : Wo} {q a : Nat} {f : Nat → Int} (h : a ≠ q) : upr I q f a = I a := if_neg h
theorem zi_upd (f : Nat → Int) (k : Nat) (x : Int) : upd (fun j => zi (f j)) k (zi x) = fun j => zi (up1 f k x j) := by
  funext j
  unfold upd up1
  split <;> rfl
/-- the world's list of cells -/
def mk_wl (sh : Nat → (Nat → Int) → va_E) (NC : Nat) (ad : Nat → Nat) (I : Wo) : va_W := (List.range NC).map (fun k => (ad k, sh k (I k)))
def mk_in (NW : Nat) (ad : Nat → Nat) (q : Nat) : Prop := ∃ k, k < NW ∧ q = ad k
theorem mk_at {sh : Nat → (Nat → Int) → va_E} {NC : Nat} {ad : Nat → Nat} {I : Wo} {k : Nat} (hk : k < NC) : (mk_wl sh NC ad I)[k]? = some (ad k, sh k (I k)) := by
  unfold mk_wl
  rw [List.getElem?_map, List.getElem?_range hk]
  rfl
theorem mk_len {sh : Nat → (Nat → Int) → va_E} {NC : Nat} {ad : Nat → Nat} {I : Wo} : (mk_wl sh NC ad I).length = NC := by
  unfold mk_wl
  rw [List.length_map, List.length_range]
theorem mk_get? {sh : Nat → (Nat → Int) → va_E} {NC : Nat} {ad : Nat → Nat} {I : Wo} {k : Nat} {q : Nat × va_E} (h : (mk_wl sh NC ad I)[k]? = some q) : k < NC ∧ q = (ad k, sh k (I k)) := by
  have hk : k < NC := by have := (List.getElem?_eq_some_iff.mp h).1; rwa [mk_len] at this
  rw [mk_at hk] at h
  exact ⟨hk, (Option.some.inj h).symm⟩
theorem mk_set {sh : Nat → (Nat → Int) → va_E} {NC : Nat} {ad : Nat → Nat} {I : Wo} {q : Nat} {f : Nat → Int} {e : va_E} (he : sh q f = e) : (mk_wl sh NC ad I).set q (ad q, e) = mk_wl sh NC ad (upr I q f) := by
  apply List.ext_getElem?
  intro j
  by_cases hj : j < NC
  · rw [mk_at hj]
    by_cases h : j = q
    · subst h
      rw [List.getElem?_set_self (by rw [mk_len]; exact hj), upr_s, he]
    · rw [List.getElem?_set_ne (Ne.symm h), mk_at hj, upr_n h]
  · rw [List.getElem?_eq_none (by rw [List.length_set, mk_len]; omega), List.getElem?_eq_none (by rw [mk_len]; omega)]
theorem mk_D {sh : Nat → (Nat → Int) → va_E} {NC : Nat} {ad : Nat → Nat} {I : Wo} (hi : ∀ i j, i < NC → j < NC → ad i = ad j → i = j) : va_D (fun _ => True) (mk_wl sh NC ad I) :=
  ⟨fun i j p q hp hq h => by
    obtain ⟨h1, rfl⟩ := mk_get? hp
    obtain ⟨h2, rfl⟩ := mk_get? hq
    exact hi i j h1 h2 h, fun _ _ _ => trivial⟩
theorem up2_upr (I : Wo) (q k : Nat) (x : Int) : up2 I q k x = upr I q (up1 (I q) k x) := rfl
/-- static int arrays that nobody writes: (class, name, descriptor, address, length, contents), (own, pool entry, ref, host) of the one place that reads it -/
abbrev mk_Zt : Type := (String × String × String × Nat × Nat × (Nat → Int)) × (String × Nat × String × String)
def mk_Z1 (z : mk_Zt) (A : Nat → Prop) (U : State) (H : Heap) : Prop := va_Z z.1.1 z.1.2.1 z.1.2.2.1 (.ref z.1.2.2.2.1) A U H ∧ va_T .int z.1.2.2.2.1 z.1.2.2.2.2.1 (fun j => .int (zi (z.1.2.2.2.2.2 j))) A U H ∧ va_Nw (.fieldLinkNest z.2.1 z.2.2.1 z.2.2.2.1 z.1.2.1 z.1.2.2.1 z.2.2.2.2) U
def mk_Z (zs : List mk_Zt) (A : Nat → Prop) (U : State) (H : Heap) : Prop := ∀ z ∈ zs, mk_Z1 z A U H
theorem mk_Z.same {zs : List mk_Zt} {A : Nat → Prop} {u U : State} {H : Heap} (hvm : u.vm = U.vm) (h : mk_Z zs A u H) : mk_Z zs A U H := fun z hz => ⟨(h z hz).1.moved (hvm ▸ Vm.Alike.refl u.vm), (h z hz).2.1.moved (hvm ▸ Vm.Alike.refl u.vm), va_Nw.same rfl hvm (h z hz).2.2⟩
theorem mk_Z.warm {zs : List mk_Zt} {A : Nat → Prop} {u U : State} {H : Heap} (hW : u.WarmedH U.vm) (h : mk_Z zs A u H) : mk_Z zs A U H := fun z hz => ⟨(h z hz).1.moved hW.alike, (h z hz).2.1.moved hW.alike, va_Nw.warmF hW (h z hz).2.2⟩
theorem mk_Z.kept {zs : List mk_Zt} {A : Nat → Prop} {U : State} {H H1 : Heap} (h : mk_Z zs A U H) (hq : ∀ a : Nat, a < H.size → ¬ A a → H1[a]? = H[a]?) : mk_Z zs A U H1 := fun z hz => ⟨(h z hz).1.kept hq, (h z hz).2.1.kept hq, (h z hz).2.2⟩
/-- what a method's contract says: the ints I, the arguments As; Post of the answer and the ints behind -/
def mk_Q (D : va_G) (cl : List vw_C) (tys : List (ClassId × FieldType)) (sh : Nat → (Nat → Int) → va_E) (NC NW : Nat) (ad : Nat → Nat) (Post : Option Value → Wo → Prop) : Array Value → State → Outcome → State → Prop :=
  fun _ st oc t => ∃ (v : Option Value) (I' : Wo), oc = .returned v ∧ Post v I' ∧ va_P D cl (mk_wl sh NC ad I') t.heap ∧ va_K D cl tys t ∧ va_F (mk_in NW ad) st t
def mk_P (D : va_G) (cl : List vw_C) (tys : List (ClassId × FieldType)) (sh : Nat → (Nat → Int) → va_E) (NC NW : Nat) (ad : Nat → Nat) (zs : List mk_Zt) (As : List Value) (I : Wo) : Array Value → State → Prop :=
  va_Pc As (fun U => va_P D cl (mk_wl sh NC ad I) U.heap ∧ va_K D cl tys U ∧ mk_Z zs (mk_in NW ad) U U.heap)
def mk_C (l : Launch) (y : MethodName) (ws : List Cond) (rm : Room) (D : va_G) (cl : List vw_C) (tys : List (ClassId × FieldType)) (sh : Nat → (Nat → Int) → va_E) (NC NW : Nat) (ad : Nat → Nat) (zs : List mk_Zt) (As : List Value) (I : Wo) (Post : Option Value → Wo → Prop) : Prop :=
  Met l y ws rm (mk_P D cl tys sh NC NW ad zs As I) (mk_Q D cl tys sh NC NW ad Post) 0 0 (mk_in NW ad)
/-- what stays fixed through a method's walk -/
def mk_X (p : Program) (m : MethodId) (c : Code) (cc : ByteArray) (nL : Nat) (s : State) (args : Array Value) (Ts : List Cond) (own : String) (D : va_G) (cl : List vw_C) (tys : List (ClassId × FieldType)) (NC NW : Nat) (ad : Nat → Nat) (zs : List mk_Zt) : Prop :=
  CallFix p m c cc nL s args Ts own ∧ va_K D cl tys s ∧ (∀ i j, i < NC → j < NC → ad i = ad j → i = j) ∧ NW ≤ NC ∧ mk_Z zs (mk_in NW ad) s s.heap
def mk_A (p : Program) (l : Launch) (e : Env) (R : Room) (s : State) (m : MethodId) (args : Array Value) (below : List Frame) (meth : Method) (c : Code) (Q : State → Prop) (nL : Nat) (D : va_G) (cl : List vw_C) (sh : Nat → (Nat → Int) → va_E) (NC NW : Nat) (ad : Nat → Nat)
    (I : Wo) (lv : List (Nat × Value)) (pc : Nat) (st : List Value) : Prop :=
  ∀ (H : Heap) (locs : List Loc) (ls : Array Slot), va_P D cl (mk_wl sh NC ad I) H → va_S (mk_in NW ad) s.heap H locs → lv_has ls nL lv → W p l e R s m args below meth c H locs 0 0 Q (F0 m pc ls st)
section MK
variable {p : Program} {l : Launch} {e : Env} {R : Room} {s : State} {m : MethodId} {args : Array Value} {below : List Frame} {meth : Method} {c : Code} {Q : State → Prop}
variable {cc : ByteArray} {nL : Nat} {own : String} {Ts : List Cond} {D : va_G} {cl : List vw_C} {tys : List (ClassId × FieldType)} {sh : Nat → (Nat → Int) → va_E} {NC NW : Nat} {ad : Nat → Nat} {zs : List mk_Zt}
variable {I : Wo} {lv : List (Nat × Value)} {pc nx : Nat} {st : List Value}
/-- other ints, equal ones -/
theorem mk_same {I' : Wo} (h : I = I') (kk : mk_A p l e R s m args below meth c Q nL D cl sh NC NW ad I' lv pc st) : mk_A p l e R s m args below meth c Q nL D cl sh NC NW ad I lv pc st := h ▸ kk
/-- fewer locals, in another order -/
theorem mk_lv {lv' : List (Nat × Value)} (ks : List Nat) (h : lv_pick lv ks = lv') (kk : mk_A p l e R s m args below meth c Q nL D cl sh NC NW ad I lv' pc st) : mk_A p l e R s m args below meth c Q nL D cl sh NC NW ad I lv pc st := fun H locs ls hP hS hl => kk H locs ls hP hS (lv_sub hl ks h)
theorem mk_iconst (X : mk_X p m c cc nL s args Ts own D cl tys NC NW ad zs) {n : Int} (hd : decode cc pc = .ok (.iconst n, 1)) (hn : pc + 1 = nx) (kk : mk_A p l e R s m args below meth c Q nL D cl sh NC NW ad I lv nx (.int (zi n) :: st)) : mk_A p l e R s m args below meth c Q nL D cl sh NC NW ad I lv pc st := by
  subst hn; exact fun H locs ls hP hS hl => lv_iconst X.1.1 X.1.2.1 hd rfl (kk H locs ls hP hS hl)
theorem mk_bipush (X : mk_X p m c cc nL s args Ts own D cl tys NC NW ad zs) {n : Int} (hd : decode cc pc = .ok (.bipush n, 2)) (hv : (Int8.ofInt n).toInt32 = zi n) (hn : pc + 2 = nx) (kk : mk_A p l e R s m args below meth c Q nL D cl sh NC NW ad I lv nx (.int (zi n) :: st)) : mk_A p l e R s m args below meth c Q nL D cl sh NC NW ad I lv pc st := by
  subst hn; exact fun H locs ls hP hS hl => lv_bipush X.1.1 X.1.2.1 hd hv (kk H locs ls hP hS hl)
theorem mk_sipush (X : mk_X p m c cc nL s args Ts own D cl tys NC NW ad zs) {n : Int} (hd : decode cc pc = .ok (.sipush n, 3)) (hv : (Int16.ofInt n).toInt32 = zi n) (hn : pc + 3 = nx) (kk : mk_A p l e R s m args below meth c Q nL D cl sh NC NW ad I lv nx (.int (zi n) :: st)) : mk_A p l e R s m args below meth c Q nL D cl sh NC NW ad I lv pc st := by
  subst hn; exact fun H locs ls hP hS hl => lv_sipush X.1.1 X.1.2.1 hd hv (kk H locs ls hP hS hl)
theorem mk_ldc (X : mk_X p m c cc nL s args Ts own D cl tys NC NW ad zs) {n : Int} {v : Int32} {index : Nat} (hd : decode cc pc = .ok (.ldc index, 2)) (hc : Cond.constant own index v ∈ Ts) (hv : v = zi n) (hn : pc + 2 = nx) (kk : mk_A p l e R s m args below meth c Q nL D cl sh NC NW ad I lv nx (.int (zi n) :: st)) : mk_A p l e R s m args below meth c Q nL D cl sh NC NW ad I lv pc st := by
  subst hn; subst hv; exact fun H locs ls hP hS hl => lv_ldc X.1.1 X.1.2.1 X.1.2.2.2.1 (X.1.2.2.2.2 _ hc) hd (kk H locs ls hP hS hl)
theorem mk_iloadn (X : mk_X p m c cc nL s args Ts own D cl tys NC NW ad zs) {k : Fin 4} {x : Int32} (j : Nat) (hd : decode cc pc = .ok (.iload_n k, 1)) (hk : lv[j]? = some ((k : Nat), .int x)) (hn : pc + 1 = nx) (kk : mk_A p l e R s m args below meth c Q nL D cl sh NC NW ad I lv nx (.int x :: st)) : mk_A p l e R s m args below meth c Q nL D cl sh NC NW ad I lv pc st := by
  subst hn; exact fun H locs ls hP hS hl => lv_iload_n X.1.1 X.1.2.1 hd rfl (lv_at hl j hk) (kk H locs ls hP hS hl)
theorem mk_iload (X : mk_X p m c cc nL s args Ts own D cl tys NC NW ad zs) {k : Nat} {x : Int32} (j : Nat) (hd : decode cc pc = .ok (.iload k, 2)) (hk : lv[j]? = some (k, .int x)) (hn : pc + 2 = nx) (kk : mk_A p l e R s m args below meth c Q nL D cl sh NC NW ad I lv nx (.int x :: st)) : mk_A p l e R s m args below meth c Q nL D cl sh NC NW ad I lv pc st := by
  subst hn; exact fun H locs ls hP hS hl => lv_iload X.1.1 X.1.2.1 hd (lv_at hl j hk) (kk H locs ls hP hS hl)
theorem mk_aloadn (X : mk_X p m c cc nL s args Ts own D cl tys NC NW ad zs) {k : Fin 4} {x : Nat} (j : Nat) (hd : decode cc pc = .ok (.aload_n k, 1)) (hk : lv[j]? = some ((k : Nat), .ref x)) (hn : pc + 1 = nx) (kk : mk_A p l e R s m args below meth c Q nL D cl sh NC NW ad I lv nx (.ref x :: st)) : mk_A p l e R s m args below meth c Q nL D cl sh NC NW ad I lv pc st := by
  subst hn; exact fun H locs ls hP hS hl => lv_aload_n X.1.1 X.1.2.1 hd rfl (lv_at hl j hk) (kk H locs ls hP hS hl)
theorem mk_aload (X : mk_X p m c cc nL s args Ts own D cl tys NC NW ad zs) {k : Nat} {x : Nat} (j : Nat) (hd : decode cc pc = .ok (.aload k, 2)) (hk : lv[j]? = some (k, .ref x)) (hn : pc + 2 = nx) (kk : mk_A p l e R s m args below meth c Q nL D cl sh NC NW ad I lv nx (.ref x :: st)) : mk_A p l e R s m args below meth c Q nL D cl sh NC NW ad I lv pc st := by
  subst hn; exact fun H locs ls hP hS hl => lv_aload X.1.1 X.1.2.1 hd (lv_at hl j hk) (kk H locs ls hP hS hl)
/-- the locals behind a store of one slot -/
abbrev mk_put (lv : List (Nat × Value)) (i : Nat) (v : Value) : List (Nat × Value) := (i, v) :: lv.filter (fun q => !(q.1 == i) && !(q.1 + 1 == i && q.2.category == 2))
theorem mk_istoren (X : mk_X p m c cc nL s args Ts own D cl tys NC NW ad zs) {k : Fin 4} {x : Int32} (lv' : List (Nat × Value)) (hd : decode cc pc = .ok (.istore_n k, 1)) (hi : (k : Nat) < nL) (hl' : mk_put lv k (.int x) = lv') (hn : pc + 1 = nx) (kk : mk_A p l e R s m args below meth c Q nL D cl sh NC NW ad I lv' nx st) : mk_A p l e R s m args below meth c Q nL D cl sh NC NW ad I lv pc (.int x :: st) := by
  subst hn; exact fun H locs ls hP hS hl => lv_istore_n X.1.1 X.1.2.1 hd rfl hl hi hl' (fun ls' hl2 => kk H locs ls' hP hS hl2)
theorem mk_istore (X : mk_X p m c cc nL s args Ts own D cl tys NC NW ad zs) {k : Nat} {x : Int32} (lv' : List (Nat × Value)) (hd : decode cc pc = .ok (.istore k, 2)) (hi : k < nL) (hl' : mk_put lv k (.int x) = lv') (hn : pc + 2 = nx) (kk : mk_A p l e R s m args below meth c Q nL D cl sh NC NW ad I lv' nx st) : mk_A p l e R s m args below meth c Q nL D cl sh NC NW ad I lv pc (.int x :: st) := by
  subst hn; exact fun H locs ls hP hS hl => lv_istore X.1.1 X.1.2.1 hd hl hi hl' (fun ls' hl2 => kk H locs ls' hP hS hl2)
theorem mk_astoren (X : mk_X p m c cc nL s args Ts own D cl tys NC NW ad zs) {k : Fin 4} {x : Nat} (lv' : List (Nat × Value)) (hd : decode cc pc = .ok (.astore_n k, 1)) (hi : (k : Nat) < nL) (hl' : mk_put lv k (.ref x) = lv') (hn : pc + 1 = nx) (kk : mk_A p l e R s m args below meth c Q nL D cl sh NC NW ad I lv' nx st) : mk_A p l e R s m args below meth c Q nL D cl sh NC NW ad I lv pc (.ref x :: st) := by
  subst hn; exact fun H locs ls hP hS hl => lv_astore_n X.1.1 X.1.2.1 hd rfl hl hi hl' (fun ls' hl2 => kk H locs ls' hP hS hl2)
theorem mk_astore (X : mk_X p m c cc nL s args Ts own D cl tys NC NW ad zs) {k : Nat} {x : Nat} (lv' : List (Nat × Value)) (hd : decode cc pc = .ok (.astore k, 2)) (hi : k < nL) (hl' : mk_put lv k (.ref x) = lv') (hn : pc + 2 = nx) (kk : mk_A p l e R s m args below meth c Q nL D cl sh NC NW ad I lv' nx st) : mk_A p l e R s m args below meth c Q nL D cl sh NC NW ad I lv pc (.ref x :: st) := by
  subst hn; exact fun H locs ls hP hS hl => lv_astore X.1.1 X.1.2.1 hd hl hi hl' (fun ls' hl2 => kk H locs ls' hP hS hl2)
theorem mk_iinc (X : mk_X p m c cc nL s args Ts own D cl tys NC NW ad zs) {k : Nat} {n x : Int} (j : Nat) (lv' : List (Nat × Value)) (hd : decode cc pc = .ok (.iinc k n, 3)) (hk : lv[j]? = some (k, .int (zi x))) (hi : k < nL) (hl' : mk_put lv k (.int (zi (x + n))) = lv') (hn : pc + 3 = nx) (kk : mk_A p l e R s m args below meth c Q nL D cl sh NC NW ad I lv' nx st) : mk_A p l e R s m args below meth c Q nL D cl sh NC NW ad I lv pc st := by
  subst hn; exact fun H locs ls hP hS hl => lv_iinc (v := zi (x + n)) (k := j) X.1.1 X.1.2.1 hd hl hk (zi_add x n) hi hl' (fun ls' hl2 => kk H locs ls' hP hS hl2)
theorem mk_iadd (X : mk_X p m c cc nL s args Ts own D cl tys NC NW ad zs) {x y : Int} (hd : decode cc pc = .ok (.iadd, 1)) (hn : pc + 1 = nx) (kk : mk_A p l e R s m args below meth c Q nL D cl sh NC NW ad I lv nx (.int (zi (x + y)) :: st)) : mk_A p l e R s m args below meth c Q nL D cl sh NC NW ad I lv pc (.int (zi y) :: .int (zi x) :: st) := by
  subst hn; exact fun H locs ls hP hS hl => lv_iadd X.1.1 X.1.2.1 hd (by rw [zi_add]; exact kk H locs ls hP hS hl)
theorem mk_isub (X : mk_X p m c cc nL s args Ts own D cl tys NC NW ad zs) {x y : Int} (hd : decode cc pc = .ok (.isub, 1)) (hn : pc + 1 = nx) (kk : mk_A p l e R s m args below meth c Q nL D cl sh NC NW ad I lv nx (.int (zi (x - y)) :: st)) : mk_A p l e R s m args below meth c Q nL D cl sh NC NW ad I lv pc (.int (zi y) :: .int (zi x) :: st) := by
  subst hn; exact fun H locs ls hP hS hl => lv_isub X.1.1 X.1.2.1 hd (by rw [zi_sub]; exact kk H locs ls hP hS hl)
theorem mk_imul (X : mk_X p m c cc nL s args Ts own D cl tys NC NW ad zs) {x y : Int} (hd : decode cc pc = .ok (.imul, 1)) (hn : pc + 1 = nx) (kk : mk_A p l e R s m args below meth c Q nL D cl sh NC NW ad I lv nx (.int (zi (x * y)) :: st)) : mk_A p l e R s m args below meth c Q nL D cl sh NC NW ad I lv pc (.int (zi y) :: .int (zi x) :: st) := by
  subst hn; exact fun H locs ls hP hS hl => lv_imul X.1.1 X.1.2.1 hd (by rw [zi_mul]; exact kk H locs ls hP hS hl)
theorem mk_ineg (X : mk_X p m c cc nL s args Ts own D cl tys NC NW ad zs) {x : Int} (hd : decode cc pc = .ok (.ineg, 1)) (hn : pc + 1 = nx) (kk : mk_A p l e R s m args below meth c Q nL D cl sh NC NW ad I lv nx (.int (zi (-x)) :: st)) : mk_A p l e R s m args below meth c Q nL D cl sh NC NW ad I lv pc (.int (zi x) :: st) := by
  subst hn; exact fun H locs ls hP hS hl => lv_ineg X.1.1 X.1.2.1 hd (by rw [zi_neg]; exact kk H locs ls hP hS hl)
theorem mk_iand (X : mk_X p m c cc nL s args Ts own D cl tys NC NW ad zs) {x y : Int} (hd : decode cc pc = .ok (.iand, 1)) (hn : pc + 1 = nx) (kk : mk_A p l e R s m args below meth c Q nL D cl sh NC NW ad I lv nx (.int (zi (ziand x y)) :: st)) : mk_A p l e R s m args below meth c Q nL D cl sh NC NW ad I lv pc (.int (zi y) :: .int (zi x) :: st) := by
  subst hn; exact fun H locs ls hP hS hl => lv_iand X.1.1 X.1.2.1 hd (by have h := kk H locs ls hP hS hl; rwa [ziand, zi_of] at h)
theorem mk_ior (X : mk_X p m c cc nL s args Ts own D cl tys NC NW ad zs) {x y : Int} (hd : decode cc pc = .ok (.ior, 1)) (hn : pc + 1 = nx) (kk : mk_A p l e R s m args below meth c Q nL D cl sh NC NW ad I lv nx (.int (zi (zior x y)) :: st)) : mk_A p l e R s m args below meth c Q nL D cl sh NC NW ad I lv pc (.int (zi y) :: .int (zi x) :: st) := by
  subst hn; exact fun H locs ls hP hS hl => lv_ior X.1.1 X.1.2.1 hd (by have h := kk H locs ls hP hS hl; rwa [zior, zi_of] at h)
theorem mk_ishl (X : mk_X p m c cc nL s args Ts own D cl tys NC NW ad zs) {x y : Int} (hd : decode cc pc = .ok (.ishl, 1)) (hn : pc + 1 = nx) (kk : mk_A p l e R s m args below meth c Q nL D cl sh NC NW ad I lv nx (.int (zi (zishl x y)) :: st)) : mk_A p l e R s m args below meth c Q nL D cl sh NC NW ad I lv pc (.int (zi y) :: .int (zi x) :: st) := by
  subst hn; exact fun H locs ls hP hS hl => lv_ishl X.1.1 X.1.2.1 hd (by have h := kk H locs ls hP hS hl; rwa [zishl, zi_of] at h)
theorem mk_ishr (X : mk_X p m c cc nL s args Ts own D cl tys NC NW ad zs) {x y : Int} (hd : decode cc pc = .ok (.ishr, 1)) (hn : pc + 1 = nx) (kk : mk_A p l e R s m args below meth c Q nL D cl sh NC NW ad I lv nx (.int (zi (zishr x y)) :: st)) : mk_A p l e R s m args below meth c Q nL D cl sh NC NW ad I lv pc (.int (zi y) :: .int (zi x) :: st) := by
  subst hn; exact fun H locs ls hP hS hl => lv_ishr X.1.1 X.1.2.1 hd (by have h := kk H locs ls hP hS hl; rwa [zishr, zi_of] at h)
theorem mk_dup (X : mk_X p m c cc nL s args Ts own D cl tys NC NW ad zs) {v : Value} (hd : decode cc pc = .ok (.dup, 1)) (hv : v.category = 1) (hn : pc + 1 = nx) (kk : mk_A p l e R s m args below meth c Q nL D cl sh NC NW ad I lv nx (v :: v :: st)) : mk_A p l e R s m args below meth c Q nL D cl sh NC NW ad I lv pc (v :: st) := by
  subst hn; exact fun H locs ls hP hS hl => lv_dup X.1.1 X.1.2.1 hd hv (kk H locs ls hP hS hl)
theorem mk_pop (X : mk_X p m c cc nL s args Ts own D cl tys NC NW ad zs) {v : Value} (hd : decode cc pc = .ok (.pop, 1)) (hv : v.category = 1) (hn : pc + 1 = nx) (kk : mk_A p l e R s m args below meth c Q nL D cl sh NC NW ad I lv nx st) : mk_A p l e R s m args below meth c Q nL D cl sh NC NW ad I lv pc (v :: st) := by
  subst hn; exact fun H locs ls hP hS hl => lv_pop X.1.1 X.1.2.1 hd hv (kk H locs ls hP hS hl)
theorem mk_goto (X : mk_X p m c cc nL s args Ts own D cl tys NC NW ad zs) {off : Int} {tgt : Nat} (hd : decode cc pc = .ok (.goto off, 3)) (ht : (pc : Int) + off = (tgt : Int)) (kk : mk_A p l e R s m args below meth c Q nL D cl sh NC NW ad I lv tgt st) : mk_A p l e R s m args below meth c Q nL D cl sh NC NW ad I lv pc st :=
  fun H locs ls hP hS hl => lv_goto X.1.1 X.1.2.1 hd ht (kk H locs ls hP hS hl)
theorem mk_icmp_eq (X : mk_X p m c cc nL s args Ts own D cl tys NC NW ad zs) {x y off : Int} {tgt : Nat} (hd : decode cc pc = .ok (.if_icmp .eq off, 3)) (hx : (-2147483648 ≤ x ∧ x < 2147483648)) (hy : (-2147483648 ≤ y ∧ y < 2147483648)) (ht : (pc : Int) + off = (tgt : Int)) (hn : pc + 3 = nx) (kt : x = y → mk_A p l e R s m args below meth c Q nL D cl sh NC NW ad I lv tgt st) (kf : ¬ x = y → mk_A p l e R s m args below meth c Q nL D cl sh NC NW ad I lv nx st) : mk_A p l e R s m args below meth c Q nL D cl sh NC NW ad I lv pc (.int (zi y) :: .int (zi x) :: st) := by
  subst hn; exact fun H locs ls hP hS hl => lv_icmp_eq X.1.1 X.1.2.1 hd ht (fun h => (fun h => kt ((zi_eq hx hy).mp h)) h H locs ls hP hS hl) (fun h => (fun h => kf (fun q => h ((zi_eq hx hy).mpr q))) h H locs ls hP hS hl)
theorem mk_if_eq (X : mk_X p m c cc nL s args Ts own D cl tys NC NW ad zs) {x off : Int} {tgt : Nat} (hd : decode cc pc = .ok (.ifCond .eq off, 3)) (hx : (-2147483648 ≤ x ∧ x < 2147483648)) (ht : (pc : Int) + off = (tgt : Int)) (hn : pc + 3 = nx) (kt : x = 0 → mk_A p l e R s m args below meth c Q nL D cl sh NC NW ad I lv tgt st) (kf : ¬ x = 0 → mk_A p l e R s m args below meth c Q nL D cl sh NC NW ad I lv nx st) : mk_A p l e R s m args below meth c Q nL D cl sh NC NW ad I lv pc (.int (zi x) :: st) := by
  subst hn; exact fun H locs ls hP hS hl => lv_if_eq X.1.1 X.1.2.1 hd ht (fun h => (fun h => kt ((zi_eq hx (by decide)).mp h)) h H locs ls hP hS hl) (fun h => (fun h => kf (fun q => h ((zi_eq hx (by decide)).mpr q))) h H locs ls hP hS hl)
theorem mk_icmp_ne (X : mk_X p m c cc nL s args Ts own D cl tys NC NW ad zs) {x y off : Int} {tgt : Nat} (hd : decode cc pc = .ok (.if_icmp .ne off, 3)) (hx : (-2147483648 ≤ x ∧ x < 2147483648)) (hy : (-2147483648 ≤ y ∧ y < 2147483648)) (ht : (pc : Int) + off = (tgt : Int)) (hn : pc + 3 = nx) (kt : ¬ x = y → mk_A p l e R s m args below meth c Q nL D cl sh NC NW ad I lv tgt st) (kf : x = y → mk_A p l e R s m args below meth c Q nL D cl sh NC NW ad I lv nx st) : mk_A p l e R s m args below meth c Q nL D cl sh NC NW ad I lv pc (.int (zi y) :: .int (zi x) :: st) := by
  subst hn; exact fun H locs ls hP hS hl => lv_icmp_ne X.1.1 X.1.2.1 hd ht (fun h => (fun h => kt (fun q => h ((zi_eq hx hy).mpr q))) h H locs ls hP hS hl) (fun h => (fun h => kf ((zi_eq hx hy).mp h)) h H locs ls hP hS hl)
theorem mk_if_ne (X : mk_X p m c cc nL s args Ts own D cl tys NC NW ad zs) {x off : Int} {tgt : Nat} (hd : decode cc pc = .ok (.ifCond .ne off, 3)) (hx : (-2147483648 ≤ x ∧ x < 2147483648)) (ht : (pc : Int) + off = (tgt : Int)) (hn : pc + 3 = nx) (kt : ¬ x = 0 → mk_A p l e R s m args below meth c Q nL D cl sh NC NW ad I lv tgt st) (kf : x = 0 → mk_A p l e R s m args below meth c Q nL D cl sh NC NW ad I lv nx st) : mk_A p l e R s m args below meth c Q nL D cl sh NC NW ad I lv pc (.int (zi x) :: st) := by
  subst hn; exact fun H locs ls hP hS hl => lv_if_ne X.1.1 X.1.2.1 hd ht (fun h => (fun h => kt (fun q => h ((zi_eq hx (by decide)).mpr q))) h H locs ls hP hS hl) (fun h => (fun h => kf ((zi_eq hx (by decide)).mp h)) h H locs ls hP hS hl)
theorem mk_icmp_lt (X : mk_X p m c cc nL s args Ts own D cl tys NC NW ad zs) {x y off : Int} {tgt : Nat} (hd : decode cc pc = .ok (.if_icmp .lt off, 3)) (hx : (-2147483648 ≤ x ∧ x < 2147483648)) (hy : (-2147483648 ≤ y ∧ y < 2147483648)) (ht : (pc : Int) + off = (tgt : Int)) (hn : pc + 3 = nx) (kt : x < y → mk_A p l e R s m args below meth c Q nL D cl sh NC NW ad I lv tgt st) (kf : ¬ x < y → mk_A p l e R s m args below meth c Q nL D cl sh NC NW ad I lv nx st) : mk_A p l e R s m args below meth c Q nL D cl sh NC NW ad I lv pc (.int (zi y) :: .int (zi x) :: st) := by
  subst hn; exact fun H locs ls hP hS hl => lv_icmp_lt X.1.1 X.1.2.1 hd ht (fun h => (fun h => kt ((zi_lt hx hy).mp h)) h H locs ls hP hS hl) (fun h => (fun h => kf (fun q => h ((zi_lt hx hy).mpr q))) h H locs ls hP hS hl)
theorem mk_if_lt (X : mk_X p m c cc nL s args Ts own D cl tys NC NW ad zs) {x off : Int} {tgt : Nat} (hd : decode cc pc = .ok (.ifCond .lt off, 3)) (hx : (-2147483648 ≤ x ∧ x < 2147483648)) (ht : (pc : Int) + off = (tgt : Int)) (hn : pc + 3 = nx) (kt : x < 0 → mk_A p l e R s m args below meth c Q nL D cl sh NC NW ad I lv tgt st) (kf : ¬ x < 0 → mk_A p l e R s m args below meth c Q nL D cl sh NC NW ad I lv nx st) : mk_A p l e R s m args below meth c Q nL D cl sh NC NW ad I lv pc (.int (zi x) :: st) := by
  subst hn; exact fun H locs ls hP hS hl => lv_if_lt X.1.1 X.1.2.1 hd ht (fun h => (fun h => kt ((zi_lt hx (by decide)).mp h)) h H locs ls hP hS hl) (fun h => (fun h => kf (fun q => h ((zi_lt hx (by decide)).mpr q))) h H locs ls hP hS hl)
theorem mk_icmp_ge (X : mk_X p m c cc nL s args Ts own D cl tys NC NW ad zs) {x y off : Int} {tgt : Nat} (hd : decode cc pc = .ok (.if_icmp .ge off, 3)) (hx : (-2147483648 ≤ x ∧ x < 2147483648)) (hy : (-2147483648 ≤ y ∧ y < 2147483648)) (ht : (pc : Int) + off = (tgt : Int)) (hn : pc + 3 = nx) (kt : y ≤ x → mk_A p l e R s m args below meth c Q nL D cl sh NC NW ad I lv tgt st) (kf : ¬ y ≤ x → mk_A p l e R s m args below meth c Q nL D cl sh NC NW ad I lv nx st) : mk_A p l e R s m args below meth c Q nL D cl sh NC NW ad I lv pc (.int (zi y) :: .int (zi x) :: st) := by
  subst hn; exact fun H locs ls hP hS hl => lv_icmp_ge X.1.1 X.1.2.1 hd ht (fun h => (fun h => kt ((zi_le hy hx).mp h)) h H locs ls hP hS hl) (fun h => (fun h => kf (fun q => h ((zi_le hy hx).mpr q))) h H locs ls hP hS hl)
theorem mk_if_ge (X : mk_X p m c cc nL s args Ts own D cl tys NC NW ad zs) {x off : Int} {tgt : Nat} (hd : decode cc pc = .ok (.ifCond .ge off, 3)) (hx : (-2147483648 ≤ x ∧ x < 2147483648)) (ht : (pc : Int) + off = (tgt : Int)) (hn : pc + 3 = nx) (kt : 0 ≤ x → mk_A p l e R s m args below meth c Q nL D cl sh NC NW ad I lv tgt st) (kf : ¬ 0 ≤ x → mk_A p l e R s m args below meth c Q nL D cl sh NC NW ad I lv nx st) : mk_A p l e R s m args below meth c Q nL D cl sh NC NW ad I lv pc (.int (zi x) :: st) := by
  subst hn; exact fun H locs ls hP hS hl => lv_if_ge X.1.1 X.1.2.1 hd ht (fun h => (fun h => kt ((zi_le (by decide) hx).mp h)) h H locs ls hP hS hl) (fun h => (fun h => kf (fun q => h ((zi_le (by decide) hx).mpr q))) h H locs ls hP hS hl)
theorem mk_icmp_gt (X : mk_X p m c cc nL s args Ts own D cl tys NC NW ad zs) {x y off : Int} {tgt : Nat} (hd : decode cc pc = .ok (.if_icmp .gt off, 3)) (hx : (-2147483648 ≤ x ∧ x < 2147483648)) (hy : (-2147483648 ≤ y ∧ y < 2147483648)) (ht : (pc : Int) + off = (tgt : Int)) (hn : pc + 3 = nx) (kt : y < x → mk_A p l e R s m args below meth c Q nL D cl sh NC NW ad I lv tgt st) (kf : ¬ y < x → mk_A p l e R s m args below meth c Q nL D cl sh NC NW ad I lv nx st) : mk_A p l e R s m args below meth c Q nL D cl sh NC NW ad I lv pc (.int (zi y) :: .int (zi x) :: st) := by
  subst hn; exact fun H locs ls hP hS hl => lv_icmp_gt X.1.1 X.1.2.1 hd ht (fun h => (fun h => kt ((zi_lt hy hx).mp h)) h H locs ls hP hS hl) (fun h => (fun h => kf (fun q => h ((zi_lt hy hx).mpr q))) h H locs ls hP hS hl)
theorem mk_if_gt (X : mk_X p m c cc nL s args Ts own D cl tys NC NW ad zs) {x off : Int} {tgt : Nat} (hd : decode cc pc = .ok (.ifCond .gt off, 3)) (hx : (-2147483648 ≤ x ∧ x < 2147483648)) (ht : (pc : Int) + off = (tgt : Int)) (hn : pc + 3 = nx) (kt : 0 < x → mk_A p l e R s m args below meth c Q nL D cl sh NC NW ad I lv tgt st) (kf : ¬ 0 < x → mk_A p l e R s m args below meth c Q nL D cl sh NC NW ad I lv nx st) : mk_A p l e R s m args below meth c Q nL D cl sh NC NW ad I lv pc (.int (zi x) :: st) := by
  subst hn; exact fun H locs ls hP hS hl => lv_if_gt X.1.1 X.1.2.1 hd ht (fun h => (fun h => kt ((zi_lt (by decide) hx).mp h)) h H locs ls hP hS hl) (fun h => (fun h => kf (fun q => h ((zi_lt (by decide) hx).mpr q))) h H locs ls hP hS hl)
theorem mk_icmp_le (X : mk_X p m c cc nL s args Ts own D cl tys NC NW ad zs) {x y off : Int} {tgt : Nat} (hd : decode cc pc = .ok (.if_icmp .le off, 3)) (hx : (-2147483648 ≤ x ∧ x < 2147483648)) (hy : (-2147483648 ≤ y ∧ y < 2147483648)) (ht : (pc : Int) + off = (tgt : Int)) (hn : pc + 3 = nx) (kt : x ≤ y → mk_A p l e R s m args below meth c Q nL D cl sh NC NW ad I lv tgt st) (kf : ¬ x ≤ y → mk_A p l e R s m args below meth c Q nL D cl sh NC NW ad I lv nx st) : mk_A p l e R s m args below meth c Q nL D cl sh NC NW ad I lv pc (.int (zi y) :: .int (zi x) :: st) := by
  subst hn; exact fun H locs ls hP hS hl => lv_icmp_le X.1.1 X.1.2.1 hd ht (fun h => (fun h => kt ((zi_le hx hy).mp h)) h H locs ls hP hS hl) (fun h => (fun h => kf (fun q => h ((zi_le hx hy).mpr q))) h H locs ls hP hS hl)
theorem mk_if_le (X : mk_X p m c cc nL s args Ts own D cl tys NC NW ad zs) {x off : Int} {tgt : Nat} (hd : decode cc pc = .ok (.ifCond .le off, 3)) (hx : (-2147483648 ≤ x ∧ x < 2147483648)) (ht : (pc : Int) + off = (tgt : Int)) (hn : pc + 3 = nx) (kt : x ≤ 0 → mk_A p l e R s m args below meth c Q nL D cl sh NC NW ad I lv tgt st) (kf : ¬ x ≤ 0 → mk_A p l e R s m args below meth c Q nL D cl sh NC NW ad I lv nx st) : mk_A p l e R s m args below meth c Q nL D cl sh NC NW ad I lv pc (.int (zi x) :: st) := by
  subst hn; exact fun H locs ls hP hS hl => lv_if_le X.1.1 X.1.2.1 hd ht (fun h => (fun h => kt ((zi_le hx (by decide)).mp h)) h H locs ls hP hS hl) (fun h => (fun h => kf (fun q => h ((zi_le hx (by decide)).mpr q))) h H locs ls hP hS hl)
theorem zi_div {x y : Int} (hx : (-2147483648 ≤ x ∧ x < 2147483648)) (hy : (-2147483648 ≤ y ∧ y < 2147483648)) : zi x / zi y = zi (x.tdiv y) := by
  have e1 : Int32.minValue.toInt = -2147483648 := by decide
  have e2 : Int32.maxValue.toInt = 2147483647 := by decide
  exact (Int32.ofInt_tdiv (by omega) (by omega) (by omega) (by omega)).symm
theorem zi_rem {x y : Int} (hx : (-2147483648 ≤ x ∧ x < 2147483648)) (hy : (-2147483648 ≤ y ∧ y < 2147483648)) : zi x - zi x / zi y * zi y = zi (x.tmod y) := by
  rw [zi_div hx hy, zi_mul, zi_sub, Int.tmod_def, Int.mul_comm]
theorem mk_idiv (X : mk_X p m c cc nL s args Ts own D cl tys NC NW ad zs) {x y : Int} (hd : decode cc pc = .ok (.idiv, 1)) (hx : (-2147483648 ≤ x ∧ x < 2147483648)) (hy : (-2147483648 ≤ y ∧ y < 2147483648)) (h0 : ¬ y = 0) (hn : pc + 1 = nx) (kk : mk_A p l e R s m args below meth c Q nL D cl sh NC NW ad I lv nx (.int (zi (x.tdiv y)) :: st)) : mk_A p l e R s m args below meth c Q nL D cl sh NC NW ad I lv pc (.int (zi y) :: .int (zi x) :: st) := by
  subst hn; exact fun H locs ls hP hS hl => lv_idiv X.1.1 X.1.2.1 hd (fun h => h0 ((zi_eq hy (by decide)).mp h)) (by rw [zi_div hx hy]; exact kk H locs ls hP hS hl)
theorem mk_irem (X : mk_X p m c cc nL s args Ts own D cl tys NC NW ad zs) {x y : Int} (hd : decode cc pc = .ok (.irem, 1)) (hx : (-2147483648 ≤ x ∧ x < 2147483648)) (hy : (-2147483648 ≤ y ∧ y < 2147483648)) (h0 : ¬ y = 0) (hn : pc + 1 = nx) (kk : mk_A p l e R s m args below meth c Q nL D cl sh NC NW ad I lv nx (.int (zi (x.tmod y)) :: st)) : mk_A p l e R s m args below meth c Q nL D cl sh NC NW ad I lv pc (.int (zi y) :: .int (zi x) :: st) := by
  subst hn; exact fun H locs ls hP hS hl => lv_irem X.1.1 X.1.2.1 hd (fun h => h0 ((zi_eq hy (by decide)).mp h)) (by rw [zi_rem hx hy]; exact kk H locs ls hP hS hl)
theorem mk_dupx1 (X : mk_X p m c cc nL s args Ts own D cl tys NC NW ad zs) {v w : Value} (hd : decode cc pc = .ok (.dup_x1, 1)) (hv : v.category = 1) (hw : w.category = 1) (hn : pc + 1 = nx) (kk : mk_A p l e R s m args below meth c Q nL D cl sh NC NW ad I lv nx (v :: w :: v :: st)) : mk_A p l e R s m args below meth c Q nL D cl sh NC NW ad I lv pc (v :: w :: st) := by
  subst hn; exact fun H locs ls hP hS hl => lv_dup_x1 X.1.1 X.1.2.1 hd hv hw (kk H locs ls hP hS hl)
theorem mk_dup2 (X : mk_X p m c cc nL s args Ts own D cl tys NC NW ad zs) {v w : Value} (hd : decode cc pc = .ok (.dup2, 1)) (hv : v.category = 1) (hw : w.category = 1) (hn : pc + 1 = nx) (kk : mk_A p l e R s m args below meth c Q nL D cl sh NC NW ad I lv nx (v :: w :: v :: w :: st)) : mk_A p l e R s m args below meth c Q nL D cl sh NC NW ad I lv pc (v :: w :: st) := by
  subst hn; exact fun H locs ls hP hS hl => lv_dup2_11 X.1.1 X.1.2.1 hd hv hw (kk H locs ls hP hS hl)
theorem mk_ixor (X : mk_X p m c cc nL s args Ts own D cl tys NC NW ad zs) {x y : Int} (hd : decode cc pc = .ok (.ixor, 1)) (hn : pc + 1 = nx) (kk : mk_A p l e R s m args below meth c Q nL D cl sh NC NW ad I lv nx (.int (zi (zixor x y)) :: st)) : mk_A p l e R s m args below meth c Q nL D cl sh NC NW ad I lv pc (.int (zi y) :: .int (zi x) :: st) := by
  subst hn; exact fun H locs ls hP hS hl => lv_ixor X.1.1 X.1.2.1 hd (by have h := kk H locs ls hP hS hl; rwa [zixor, zi_of] at h)
/-- getfield of the cell q (an object of class number ci), its field k -/
theorem mk_get (X : mk_X p m c cc nL s args Ts own D cl tys NC NW ad zs) {ref C : String} {T : u_T} {N ci index : Nat} (q : Nat) (hq : q < NC) {fs : List Value} (he : sh q (I q) = .inr (ci, fs)) (hc : cl[ci]? = some (C, T, N)) (hin : ∀ w ∈ u_ws C T N, w ∈ Ts) (k : Nat) (hk : k < N) (hlink : Cond.fieldLink own index ref (T k).2.1 (T k).2.2.1 ∈ Ts) (href : (T k).1 = ref) {v : Value} (hv : fs[k]? = some v) (hd : decode cc pc = .ok (.getfield index, 3)) (hn : pc + 3 = nx)
    (kk : mk_A p l e R s m args below meth c Q nL D cl sh NC NW ad I lv nx (v :: st)) : mk_A p l e R s m args below meth c Q nL D cl sh NC NW ad I lv pc (.ref (ad q) :: st) := by
  subst hn
  exact fun H locs ls hP hS hl => va_get X.1.1 X.1.2.1 X.1.2.2.2.2 hin X.1.2.2.2.1 X.2.1 hP q (by rw [mk_at hq, he]) hc k hk (X.1.2.2.2.2 _ hlink) (fun x h => by rw [← href]; exact h) hv hd (kk H locs ls hP hS hl)
/-- putfield of an int (or a boolean) -/
theorem mk_putf (X : mk_X p m c cc nL s args Ts own D cl tys NC NW ad zs) {ref C : String} {T : u_T} {N ci index : Nat} (ty0 : Nat → FieldType) (hty : ∀ k, k < N → parseFieldDescriptor (T k).2.2.1 = some (ty0 k)) (hnm : ∀ a, a < N → ∀ b, b < N → a ≠ b → (T a).2.1 ≠ (T b).2.1) (q : Nat) (hq : q < NW) {fs : List Value} (he : sh q (I q) = .inr (ci, fs)) (hc : cl[ci]? = some (C, T, N)) (hin : ∀ w ∈ u_ws C T N, w ∈ Ts) (k : Nat) (hk : k < N) (hlink : Cond.fieldLink own index ref (T k).2.1 (T k).2.2.1 ∈ Ts) (href : (T k).1 = ref) (hfin : (T k).2.2.2 = false) {ty : FieldType} {x : Int} (hdt : parseFieldDescriptor (T k).2.2.1 = some ty) (hnr : narrow ty (.int (zi x)) = .int (zi x)) (hfit : fits ty (.int (zi x)) = true) (hlen : k < fs.length) (hset : sh q (up1 (I q) k x) = .inr (ci, fs.set k (.int (zi x)))) (hd : decode cc pc = .ok (.putfield index, 3)) (hn : pc + 3 = nx)
    (kk : mk_A p l e R s m args below meth c Q nL D cl sh NC NW ad (up2 I q k x) lv nx st) : mk_A p l e R s m args below meth c Q nL D cl sh NC NW ad I lv pc (.int (zi x) :: .ref (ad q) :: st) := by
  subst hn
  intro H locs ls hP hS hl
  have hqC : q < NC := Nat.lt_of_lt_of_le hq X.2.2.2.1
  have hD : va_D (fun _ => True) (mk_wl sh NC ad I) := mk_D X.2.2.1
  have hap := va_apart (own := own) X.1.2.2.2.2 hin ty0 hty hnm X.2.1 hc
  have he' : (mk_wl sh NC ad I)[q]? = some (ad q, .inr (ci, fs)) := by rw [mk_at hqC, he]
  obtain ⟨r, h1, cell, q1, q2, q3, q4⟩ := hP q _ he'
  have hr : r = (C, T, N) := Option.some.inj (h1.symm.trans hc)
  subst hr
  obtain ⟨hSl, hfc, kC, hkC, hkind⟩ := X.2.1.1 ci _ hc
  obtain ⟨cf, kf, fi, f, hi, hsl⟩ := hSl k hk
  have hlay := X.1.2.2.2.2 _ (hin _ (u_in_lay hk))
  unfold u_lay at hlay
  rw [if_neg (by rw [hfin]; decide)] at hlay
  have hst := (u_facts hfc hkC (u_lays X.1.2.2.2.2 hin hk) hi).1
  have h6 := u_store hfc hkC hkind hlay hi hdt hnr hfit
  refine W.putK X.1.1 X.1.2.1 (f := f) ⟨X.1.2.2.2.1, X.1.2.2.2.2 _ hlink, ⟨_, _, _, by rw [← href]; exact hi⟩, hst⟩ (by rw [q2]; exact h6) q1 q3 (by rw [hsl]; exact k2_hasslot (q4 k hk)) rfl rfl hd fun H' e1 e2 e3 => ?_
  rw [hsl] at e1 ⊢
  have hP' := hP.set hD he' (e := .inr (ci, fs.set k (.int (zi x)))) ⟨_, hc, t_OB.to (V := updV (vp_V fs) k (.int (zi x))) ⟨_, e1, q2, q3, t_set q4 hap hk (.int (zi x))⟩ (fun j _ => vp_updV_set hlen (.int (zi x)) j)⟩ e3
  rw [mk_set hset] at hP'
  exact kk H' _ ls hP' (hS.put e2 e3 ⟨q, hq, rfl⟩) hl
theorem mk_iald (X : mk_X p m c cc nL s args Ts own D cl tys NC NW ad zs) (q t0 : Nat) (hq : q < NC) {cA : ClassId} {n : Nat} (he : sh q (I q) = .inl (cA, n, .inl (fun j => zi (I q j)))) (ht : tys[t0]? = some (cA, .int)) {i : Int} {j : Nat} (h0 : 0 ≤ i) (h1 : i < n) (hb : n < 2147483648) (hj : i.toNat = j) (hd : decode cc pc = .ok (.iaload, 1)) (hn : pc + 1 = nx)
    (kk : mk_A p l e R s m args below meth c Q nL D cl sh NC NW ad I lv nx (.int (zi (I q j)) :: st)) : mk_A p l e R s m args below meth c Q nL D cl sh NC NW ad I lv pc (.int (zi i) :: .ref (ad q) :: st) := by
  subst hn; subst hj
  intro H locs ls hP hS hl
  refine va_iald X.1.1 X.1.2.1 X.2.1 hP q t0 (f := fun j => zi (I q j)) (by rw [mk_at hq, he]) ht (zi_in h0 h1 hb) hd ?_
  rw [zi_cl ⟨h0, by omega⟩]
  exact kk H locs ls hP hS hl
theorem mk_zald (X : mk_X p m c cc nL s args Ts own D cl tys NC NW ad zs) (q t0 : Nat) (hq : q < NC) {cA : ClassId} {n : Nat} (he : sh q (I q) = .inl (cA, n, .inl (fun j => zi (I q j)))) (ht : tys[t0]? = some (cA, .boolean)) {i : Int} {j : Nat} (h0 : 0 ≤ i) (h1 : i < n) (hb : n < 2147483648) (hj : i.toNat = j) (hd : decode cc pc = .ok (.baload, 1)) (hn : pc + 1 = nx)
    (kk : mk_A p l e R s m args below meth c Q nL D cl sh NC NW ad I lv nx (.int (zi (I q j)) :: st)) : mk_A p l e R s m args below meth c Q nL D cl sh NC NW ad I lv pc (.int (zi i) :: .ref (ad q) :: st) := by
  subst hn; subst hj
  intro H locs ls hP hS hl
  refine va_zald X.1.1 X.1.2.1 X.2.1 hP q t0 (f := fun j => zi (I q j)) (by rw [mk_at hq, he]) ht (zi_in h0 h1 hb) hd ?_
  rw [zi_cl ⟨h0, by omega⟩]
  exact kk H locs ls hP hS hl
theorem mk_iast (X : mk_X p m c cc nL s args Ts own D cl tys NC NW ad zs) (q t0 : Nat) (hq : q < NW) {cA : ClassId} {n : Nat} (he : ∀ f, sh q f = .inl (cA, n, .inl (fun j => zi (f j)))) (ht : tys[t0]? = some (cA, .int)) {i x : Int} {j : Nat} (h0 : 0 ≤ i) (h1 : i < n) (hb : n < 2147483648) (hj : i.toNat = j) (hd : decode cc pc = .ok (.iastore, 1)) (hn : pc + 1 = nx)
    (kk : mk_A p l e R s m args below meth c Q nL D cl sh NC NW ad (up2 I q j x) lv nx st) : mk_A p l e R s m args below meth c Q nL D cl sh NC NW ad I lv pc (.int (zi x) :: .int (zi i) :: .ref (ad q) :: st) := by
  subst hn; subst hj
  intro H locs ls hP hS hl
  have hqC : q < NC := Nat.lt_of_lt_of_le hq X.2.2.2.1
  have hD : va_D (fun _ => True) (mk_wl sh NC ad I) := mk_D X.2.2.1
  have he' : (mk_wl sh NC ad I)[q]? = some (ad q, .inl (cA, n, .inl (fun j => zi (I q j)))) := by rw [mk_at hqC, he]
  refine W.iast X.1.1 X.1.2.1 (hP q _ he') ((X.2.1.2 t0 _ ht).1 n (fun j => .int (zi (I q j)))) (fun q => by cases q) (by show ¬ (zi i < 0 ∨ (arrV _ _ _).slots.size ≤ _); rw [arrV_size]; exact zi_in h0 h1 hb) rfl rfl hd fun H1 e1 z oq => ?_
  have hP' := hP.set hD he' (e := .inl (cA, n, .inl (fun j => zi (up1 (I q) i.toNat x j)))) (by
    show H1[ad q]? = some (vp_cell _ _)
    rw [e1, vp_cell_i, vp_cell_i, arrV_store, zi_cl ⟨h0, by omega⟩]
    congr 2
    funext j
    by_cases hj : j = i.toNat
    · subst hj; simp [updV, up1]
    · simp [updV, up1, hj]) oq
  rw [mk_set (he _)] at hP'
  exact kk H1 _ ls hP' (hS.put z oq ⟨q, hq, rfl⟩) hl
theorem mk_zast (X : mk_X p m c cc nL s args Ts own D cl tys NC NW ad zs) (q t0 : Nat) (hq : q < NW) {cA : ClassId} {n : Nat} (he : ∀ f, sh q f = .inl (cA, n, .inl (fun j => zi (f j)))) (ht : tys[t0]? = some (cA, .boolean)) {i x : Int} {j : Nat} (h0 : 0 ≤ i) (h1 : i < n) (hb : n < 2147483648) (hx : x = 0 ∨ x = 1) (hj : i.toNat = j) (hd : decode cc pc = .ok (.bastore, 1)) (hn : pc + 1 = nx)
    (kk : mk_A p l e R s m args below meth c Q nL D cl sh NC NW ad (up2 I q j x) lv nx st) : mk_A p l e R s m args below meth c Q nL D cl sh NC NW ad I lv pc (.int (zi x) :: .int (zi i) :: .ref (ad q) :: st) := by
  subst hn; subst hj
  intro H locs ls hP hS hl
  have hqC : q < NC := Nat.lt_of_lt_of_le hq X.2.2.2.1
  have hD : va_D (fun _ => True) (mk_wl sh NC ad I) := mk_D X.2.2.1
  have he' : (mk_wl sh NC ad I)[q]? = some (ad q, .inl (cA, n, .inl (fun j => zi (I q j)))) := by rw [mk_at hqC, he]
  have hnr : narrow .boolean (.int (zi x)) = .int (zi x) := by rcases hx with rfl | rfl <;> rfl
  refine W.zast X.1.1 X.1.2.1 (hP q _ he') ((X.2.1.2 t0 _ ht).1 n (fun j => .int (zi (I q j)))) (fun q => by cases q) (by show ¬ (zi i < 0 ∨ (arrV _ _ _).slots.size ≤ _); rw [arrV_size]; exact zi_in h0 h1 hb) rfl rfl hd fun H1 e1 z oq => ?_
  have hP' := hP.set hD he' (e := .inl (cA, n, .inl (fun j => zi (up1 (I q) i.toNat x j)))) (by
    show H1[ad q]? = some (vp_cell _ _)
    rw [e1, vp_cell_i, vp_cell_i, arrV_store, zi_cl ⟨h0, by omega⟩, hnr]
    congr 2
    funext j
    by_cases hj : j = i.toNat
    · subst hj; simp [updV, up1]
    · simp [updV, up1, hj]) oq
  rw [mk_set (he _)] at hP'
  exact kk H1 _ ls hP' (hS.put z oq ⟨q, hq, rfl⟩) hl
theorem mk_aald (X : mk_X p m c cc nL s args Ts own D cl tys NC NW ad zs) (q t0 : Nat) (hq : q < NC) {cA : ClassId} {C : String} {n a : Nat} {f : Nat → Option Nat} (he : sh q (I q) = .inl (cA, n, .inr (.inr (.inr (.inr f))))) (ht : tys[t0]? = some (cA, .object C)) {i : Int} (h0 : 0 ≤ i) (h1 : i < n) (hb : n < 2147483648) {j : Nat} (hj : i.toNat = j) (hv : f j = some a) (hd : decode cc pc = .ok (.aaload, 1)) (hn : pc + 1 = nx)
    (kk : mk_A p l e R s m args below meth c Q nL D cl sh NC NW ad I lv nx (.ref a :: st)) : mk_A p l e R s m args below meth c Q nL D cl sh NC NW ad I lv pc (.int (zi i) :: .ref (ad q) :: st) := by
  subst hn; subst hj
  intro H locs ls hP hS hl
  refine va_aldq X.1.1 X.1.2.1 X.2.1 hP q t0 (f := f) (by rw [mk_at hq, he]) ht (zi_in h0 h1 hb) hd ?_
  rw [zi_cl ⟨h0, by omega⟩, hv]
  exact kk H locs ls hP hS hl
theorem mk_alen (X : mk_X p m c cc nL s args Ts own D cl tys NC NW ad zs) (q t0 : Nat) (hq : q < NC) {cA : ClassId} {x : vp_A} (he : sh q (I q) = .inl (cA, x)) {ty : FieldType} (ht : tys[t0]? = some (cA, ty)) (hd : decode cc pc = .ok (.arraylength, 1)) (hn : pc + 1 = nx)
    (kk : mk_A p l e R s m args below meth c Q nL D cl sh NC NW ad I lv nx (.int (zi x.1) :: st)) : mk_A p l e R s m args below meth c Q nL D cl sh NC NW ad I lv pc (.ref (ad q) :: st) := by
  subst hn
  intro H locs ls hP hS hl
  exact va_alen X.1.1 X.1.2.1 X.2.1 hP q t0 (by rw [mk_at hq, he]) ht (v := zi x.1) (Int32.ofInt_eq_ofNat).symm hd (kk H locs ls hP hS hl)
/-- a call that runs by a contract of this world -/
theorem mk_go (X : mk_X p m c cc nL s args Ts own D cl tys NC NW ad zs) {st0 rest : List Value} {Post : Option Value → Wo → Prop} {a : Array Value} (hr : ∀ (H : Heap) (locs : List Loc) (ls : Array Slot), va_P D cl (mk_wl sh NC ad I) H → va_S (mk_in NW ad) s.heap H locs → lv_has ls nL lv → va_Run p l e R s m args below meth c H locs 0 0 0 0 (F0 m pc ls st0) rest (mk_Q D cl tys sh NC NW ad Post a) (mk_in NW ad)) (hn : pc + 3 = nx)
    (kk : ∀ (v : Option Value) (I' : Wo), Post v I' → mk_A p l e R s m args below meth c Q nL D cl sh NC NW ad I' lv nx (v.toList ++ rest)) : mk_A p l e R s m args below meth c Q nL D cl sh NC NW ad I lv pc st0 := by
  subst hn
  intro H locs ls hP hS hl T hT Y
  obtain ⟨v, st₀, t, T', L, h0, Y', hL, e1, e2, ⟨v2, I', hv, hp, hP', hK', hz, hk⟩, go⟩ := hr H locs ls hP hS hl T hT Y
  cases hv
  rw [h0] at hz hk
  obtain ⟨t2, a1, b1⟩ := kk v I' hp T'.heap (locs ++ L) ls (by rw [e1]; exact hP') ⟨Nat.le_trans hS.1 (by rw [e1]; exact hz), fun q h1 h2 => by rw [e1, hk q (Nat.lt_of_lt_of_le h1 hS.1) h2]; exact hS.2.1 q h1 h2, fun q hq => by
    rcases List.mem_append.mp hq with h | h
    · exact hS.2.2 q h
    · exact hL q h⟩ hl T' rfl Y'
  exact ⟨t2, go t2 a1, b1⟩
theorem mk_blind {As : List Value} : FrameBlind (mk_P D cl tys sh NC NW ad zs As I) := fun a U g mk q => by
  obtain ⟨q0, qP, qK, qZ⟩ := q
  exact ⟨q0, qP, va_K.moved (u := U) (U := U.calling g mk a) (Vm.Alike.refl U.vm) qK, mk_Z.same (u := U) (U := U.calling g mk a) rfl qZ⟩
theorem mk_pre (X : mk_X p m c cc nL s args Ts own D cl tys NC NW ad zs) {As : List Value} {H : Heap} {locs : List Loc} (hP : va_P D cl (mk_wl sh NC ad I) H) (hS : va_S (mk_in NW ad) s.heap H locs) : ∀ U : State, U.heap = H → s.WarmedH U.vm → mk_P D cl tys sh NC NW ad zs As I As.toArray U := fun U hU hW =>
  ⟨rfl, by rw [hU]; exact hP, va_K.moved hW.alike X.2.1, by rw [hU]; exact mk_Z.warm hW (X.2.2.2.2.kept (fun a h1 h2 => hS.2.1 a h1 h2))⟩
/-- invokevirtual of a method y of the cell q's class -/
theorem mk_callV (X : mk_X p m c cc nL s args Ts own D cl tys NC NW ad zs) {y : MethodName} {bytes : ByteArray} {maxL n index : Nat} {ret : Option FieldType} {ws ws' : List Cond} {rm : Room} {C : String} {T : u_T} {N ci : Nat} {As rest : List Value} {Post : Option Value → Wo → Prop}
    (q : Nat) (hq : q < NC) {fs : List Value} (he : sh q (I q) = .inr (ci, fs)) (hc : cl[ci]? = some (C, T, N)) (hM : mk_C l y ws rm D cl tys sh NC NW ad zs (.ref (ad q) :: As) I Post) (hG : GoodIn Ts (wsV own index C y ws)) (hw : ws = Cond.code y bytes maxL ret :: ws') (hrc : rm.cells = 0 ∧ rm.slots = 0)
    (hdy : y.cls = C ∧ y.cls ≠ "java/lang/invoke/MethodHandle" ∧ y.cls ≠ "java/lang/invoke/VarHandle" ∧ (parseMethodDescriptor y.desc).map (fun d => d.parameters.length) = some n) (hR : rm.frames + 1 ≤ R.frames ∧ 8 + (maxL + 11) + rm.locals ≤ R.locals) (hAs : As.length = n) (hcat : (rest.map fun v => v.category).sum ≤ 8) {st0 : List Value} (hst : st0 = As.reverse ++ .ref (ad q) :: rest) (hd : decode cc pc = .ok (.invokevirtual index, 3)) (hn : pc + 3 = nx)
    (kk : ∀ (v : Option Value) (I' : Wo), Post v I' → mk_A p l e R s m args below meth c Q nL D cl sh NC NW ad I' lv nx (v.toList ++ rest)) : mk_A p l e R s m args below meth c Q nL D cl sh NC NW ad I lv pc st0 := by
  subst hst
  exact mk_go X (Post := Post) (a := (Value.ref (ad q) :: As).toArray) (fun H locs ls hP hS hl => va_runV (C := C) (b := ad q) (As := As) X.1 hM (cwV n X.1.2.2.2.2 hG hw hrc.1 hrc.2 hdy hR) ⟨mk_blind, va_recv X.2.1 hP hc (q0 := q) (by rw [mk_at hq, he]), mk_pre X hP hS⟩ rfl hAs hl.1 rfl (lv_room hcat) hd ⟨Nat.zero_le _, Nat.zero_le _⟩) hn kk
/-- invokestatic of a method of the own class -/
theorem mk_callS (X : mk_X p m c cc nL s args Ts own D cl tys NC NW ad zs) {y : MethodName} {bytes : ByteArray} {maxL n index : Nat} {ret : Option FieldType} {ws ws' : List Cond} {rm : Room} {As rest : List Value} {Post : Option Value → Wo → Prop}
    (hM : mk_C l y ws rm D cl tys sh NC NW ad zs As I Post) (hG : GoodIn Ts (wsS own index y ws)) (hw : ws = Cond.code y bytes maxL ret :: ws') (hrc : rm.cells = 0 ∧ rm.slots = 0)
    (hdy : y.cls = own ∧ y.cls ≠ "java/lang/invoke/MethodHandle" ∧ y.cls ≠ "java/lang/invoke/VarHandle" ∧ (parseMethodDescriptor y.desc).map (fun d => d.parameters.length) = some n) (hR : rm.frames + 1 ≤ R.frames ∧ 8 + (maxL + 11) + rm.locals ≤ R.locals) (hAs : As.length = n) (hcat : (rest.map fun v => v.category).sum ≤ 8) {st0 : List Value} (hst : st0 = As.reverse ++ rest) (hd : decode cc pc = .ok (.invokestatic index, 3)) (hn : pc + 3 = nx)
    (kk : ∀ (v : Option Value) (I' : Wo), Post v I' → mk_A p l e R s m args below meth c Q nL D cl sh NC NW ad I' lv nx (v.toList ++ rest)) : mk_A p l e R s m args below meth c Q nL D cl sh NC NW ad I lv pc st0 := by
  subst hst
  exact mk_go X (Post := Post) (a := As.toArray) (fun H locs ls hP hS hl => va_runS (As := As) X.1 hM (cwS n X.1.2.2.2.2 hG hw hrc.1 hrc.2 hdy hR) ⟨mk_blind, mk_pre X hP hS⟩ rfl hAs hl.1 rfl (lv_room hcat) hd ⟨Nat.zero_le _, Nat.zero_le _⟩) hn kk
end MK
section MKR
variable {p : Program} {l : Launch} {e : Env} {R : Room} {s : State} {m : MethodId} {args : Array Value} {below : List Frame} {meth : Method} {c : Code}
variable {cc : ByteArray} {nL : Nat} {own : String} {Ts : List Cond} {D : va_G} {cl : List vw_C} {tys : List (ClassId × FieldType)} {sh : Nat → (Nat → Int) → va_E} {NC NW : Nat} {ad : Nat → Nat} {zs : List mk_Zt}
variable {I : Wo} {lv : List (Nat × Value)} {pc nx : Nat} {st : List Value} {Post : Option Value → Wo → Prop}
theorem mk_end (X : mk_X p m c cc nL s args Ts own D cl tys NC NW ad zs) {v : Option Value} {H : Heap} {locs : List Loc} (hP : va_P D cl (mk_wl sh NC ad I) H) (hS : va_S (mk_in NW ad) s.heap H locs) (hp : Post v I) : ∀ t : State, t.heap = H → s.WarmedH t.vm → mk_Q D cl tys sh NC NW ad Post args s (.returned v) t := fun t ht hW =>
  ⟨v, I, rfl, hp, by rw [ht]; exact hP, va_K.moved hW.alike X.2.1, hS.F ht⟩
theorem mk_iret (X : mk_X p m c cc nL s args Ts own D cl tys NC NW ad zs) {v : Int32} (hlk : meth.locks = false) (hr : meth.sig.returnType = some .int) (hd : decode cc pc = .ok (.ireturn, 1)) (hp : Post (some (.int v)) I) : mk_A p l e R s m args below meth c (MQ below (mk_Q D cl tys sh NC NW ad Post) args s 0 0 (mk_in NW ad)) nL D cl sh NC NW ad I lv pc [.int v] :=
  fun H locs ls hP hS hl => W.iret X.1.1 X.1.2.1 hr (mk_end X hP hS hp) hS.2.2 hd hlk
theorem mk_zret (X : mk_X p m c cc nL s args Ts own D cl tys NC NW ad zs) {v : Int32} {ty : FieldType} (hlk : meth.locks = false) (hr : meth.sig.returnType = some ty) (hnr : narrow ty (.int v) = .int v) (hd : decode cc pc = .ok (.ireturn, 1)) (hp : Post (some (.int v)) I) : mk_A p l e R s m args below meth c (MQ below (mk_Q D cl tys sh NC NW ad Post) args s 0 0 (mk_in NW ad)) nL D cl sh NC NW ad I lv pc [.int v] :=
  fun H locs ls hP hS hl => W.zret X.1.1 X.1.2.1 hr hnr (mk_end X hP hS hp) hS.2.2 hd hlk
theorem mk_vret (X : mk_X p m c cc nL s args Ts own D cl tys NC NW ad zs) (hlk : meth.locks = false) (hr : meth.sig.returnType = none) (hd : decode cc pc = .ok (.return_, 1)) (hp : Post none I) : mk_A p l e R s m args below meth c (MQ below (mk_Q D cl tys sh NC NW ad Post) args s 0 0 (mk_in NW ad)) nL D cl sh NC NW ad I lv pc [] :=
  fun H locs ls hP hS hl => W.vret X.1.1 X.1.2.1 hr (mk_end X hP hS hp) hS.2.2 hd hlk
end MKR
/-- a contract out of a walk -/
theorem mk_met {l : Launch} {y : MethodName} {ws ws' : List Cond} {rm : Room} {D : va_G} {cl : List vw_C} {tys : List (ClassId × FieldType)} {sh : Nat → (Nat → Int) → va_E} {NC NW : Nat} {ad : Nat → Nat} {zs : List mk_Zt} {As : List Value} {I : Wo} {Post : Option Value → Wo → Prop} {cc : ByteArray} {maxL : Nat} {ret : Option FieldType}
    {Ts : List Cond} {own : String} (hinj : ∀ i j, i < NC → j < NC → ad i = ad j → i = j) (hNW : NW ≤ NC) (hy : plainName y.cls = true) (ho : y.cls = own) (hT : ∀ w ∈ Ts, w ∈ ws) (hw : ws = Cond.code y cc maxL ret :: ws') (hfit : (lg_sl As).length ≤ maxL)
    (body : ∀ (p : Program) (e : Env) (s : State) (m : MethodId) (args : Array Value) (below : List Frame) (meth : Method) (c : Code), mk_X p m c cc maxL s args Ts own D cl tys NC NW ad zs → meth.sig.returnType = ret → meth.locks = false →
      mk_A p l e (headSpec ws rm).room s m args below meth c (MQ below (mk_Q D cl tys sh NC NW ad Post) args s 0 0 (mk_in NW ad)) maxL D cl sh NC NW ad I (lv_args 0 As) 0 []) : mk_C l y ws rm D cl tys sh NC NW ad zs As I Post := by
  refine Met.ofW (cc := cc) (maxL := maxL) (ret := ret) hy hw ?_
  intro p e s m args below meth c s₁ B hml hv
  obtain ⟨rfl, hP, hK, hZ⟩ := hv
  have hown : s.vm.findClass y.cls = some m.cls := findClass_of_methodNamed B.named
  have hl := lv_entry As hfit
  rw [lg_entry_eq]
  subst ho
  exact body p e s m _ below meth c ⟨⟨B.exec, B.bytes, hml, hown, fun w hw' => atoms_spec (ws := ws) B.pre w (hT w hw')⟩, hK, hinj, hNW, hZ⟩ B.returns B.notSynchronized s.heap [] _ hP va_S.rf hl
section MKM
variable {p : Program} {l : Launch} {e : Env} {R : Room} {s : State} {m : MethodId} {args : Array Value} {below : List Frame} {meth : Method} {c : Code} {Q : State → Prop}
variable {cc : ByteArray} {nL : Nat} {own : String} {Ts : List Cond} {D : va_G} {cl : List vw_C} {tys : List (ClassId × FieldType)} {sh : Nat → (Nat → Int) → va_E} {NC NW : Nat} {ad : Nat → Nat} {zs : List mk_Zt}
variable {I : Wo} {lv : List (Nat × Value)} {pc nx : Nat} {st : List Value}
theorem zi_max {x y : Int} (hx : -2147483648 ≤ x ∧ x < 2147483648) (hy : -2147483648 ≤ y ∧ y < 2147483648) : (if zi x < zi y then zi y else zi x) = zi (max x y) := by
  by_cases h : x < y
  · rw [if_pos ((zi_lt hx hy).mpr h), show max x y = y by omega]
  · rw [if_neg (fun q => h ((zi_lt hx hy).mp q)), show max x y = x by omega]
theorem zi_min {x y : Int} (hx : -2147483648 ≤ x ∧ x < 2147483648) (hy : -2147483648 ≤ y ∧ y < 2147483648) : (if zi y < zi x then zi y else zi x) = zi (min x y) := by
  by_cases h : y < x
  · rw [if_pos ((zi_lt hy hx).mpr h), show min x y = y by omega]
  · rw [if_neg (fun q => h ((zi_lt hy hx).mp q)), show min x y = x by omega]
theorem zi_abs {x : Int} (hx : -2147483648 ≤ x ∧ x < 2147483648) : (if 0 ≤ zi x then zi x else 0 - zi x) = zi (x.natAbs : Int) := by
  have h0 : (0 : Int32) ≤ zi x ↔ 0 ≤ x := zi_le (x := 0) (by decide) hx
  by_cases h : 0 ≤ x
  · rw [if_pos (h0.mpr h), show (x.natAbs : Int) = x by omega]
  · rw [if_neg (fun q => h (h0.mp q)), zi_0, zi_sub, show (x.natAbs : Int) = 0 - x by omega]
theorem mk_mmax (X : mk_X p m c cc nL s args Ts own D cl tys NC NW ad zs) {index : Nat} (hlink : Cond.methodLink own index Lib.Math.max.name ∈ Ts) (hstat : Cond.static Lib.Math.max.name ∈ Ts) (hini : Cond.initialized "java/lang/Math" ∈ Ts) (hcode : Cond.code Lib.Math.max.name Lib.Math.max.code 2 (some .int) ∈ Ts)
    (hfr : 1 ≤ R.frames) (hlo : (st.map fun v => v.category).sum + 13 ≤ R.locals) {x y : Int} (hx : -2147483648 ≤ x ∧ x < 2147483648) (hy : -2147483648 ≤ y ∧ y < 2147483648) (hd : decode cc pc = .ok (.invokestatic index, 3)) (hn : pc + 3 = nx)
    (kk : mk_A p l e R s m args below meth c Q nL D cl sh NC NW ad I lv nx (.int (zi (max x y)) :: st)) : mk_A p l e R s m args below meth c Q nL D cl sh NC NW ad I lv pc (.int (zi y) :: .int (zi x) :: st) := by
  subst hn
  intro H locs ls hP hS hl
  refine va_mmax X.1.1 X.1.2.1 (by rw [hl.1]; exact X.1.2.2.1) X.1.2.2.2.1 (X.1.2.2.2.2 _ hlink) (X.1.2.2.2.2 _ hstat) (X.1.2.2.2.2 _ hini) (X.1.2.2.2.2 _ hcode) hfr hlo (Nat.zero_le _) (Nat.zero_le _) hd ?_
  rw [zi_max hx hy]
  exact kk H locs ls hP hS hl
theorem mk_mmin (X : mk_X p m c cc nL s args Ts own D cl tys NC NW ad zs) {index : Nat} (hlink : Cond.methodLink own index Lib.Math.min.name ∈ Ts) (hstat : Cond.static Lib.Math.min.name ∈ Ts) (hini : Cond.initialized "java/lang/Math" ∈ Ts) (hcode : Cond.code Lib.Math.min.name Lib.Math.min.code 2 (some .int) ∈ Ts)
    (hfr : 1 ≤ R.frames) (hlo : (st.map fun v => v.category).sum + 13 ≤ R.locals) {x y : Int} (hx : -2147483648 ≤ x ∧ x < 2147483648) (hy : -2147483648 ≤ y ∧ y < 2147483648) (hd : decode cc pc = .ok (.invokestatic index, 3)) (hn : pc + 3 = nx)
    (kk : mk_A p l e R s m args below meth c Q nL D cl sh NC NW ad I lv nx (.int (zi (min x y)) :: st)) : mk_A p l e R s m args below meth c Q nL D cl sh NC NW ad I lv pc (.int (zi y) :: .int (zi x) :: st) := by
  subst hn
  intro H locs ls hP hS hl
  refine va_mmin X.1.1 X.1.2.1 (by rw [hl.1]; exact X.1.2.2.1) X.1.2.2.2.1 (X.1.2.2.2.2 _ hlink) (X.1.2.2.2.2 _ hstat) (X.1.2.2.2.2 _ hini) (X.1.2.2.2.2 _ hcode) hfr hlo (Nat.zero_le _) (Nat.zero_le _) hd ?_
  rw [zi_min hx hy]
  exact kk H locs ls hP hS hl
theorem mk_mabs (X : mk_X p m c cc nL s args Ts own D cl tys NC NW ad zs) {index : Nat} (hlink : Cond.methodLink own index Lib.Math.abs.name ∈ Ts) (hstat : Cond.static Lib.Math.abs.name ∈ Ts) (hini : Cond.initialized "java/lang/Math" ∈ Ts) (hcode : Cond.code Lib.Math.abs.name Lib.Math.abs.code 1 (some .int) ∈ Ts)
    (hfr : 1 ≤ R.frames) (hlo : (st.map fun v => v.category).sum + 13 ≤ R.locals) {x : Int} (hx : -2147483648 ≤ x ∧ x < 2147483648) (hd : decode cc pc = .ok (.invokestatic index, 3)) (hn : pc + 3 = nx)
    (kk : mk_A p l e R s m args below meth c Q nL D cl sh NC NW ad I lv nx (.int (zi (x.natAbs : Int)) :: st)) : mk_A p l e R s m args below meth c Q nL D cl sh NC NW ad I lv pc (.int (zi x) :: st) := by
  subst hn
  intro H locs ls hP hS hl
  refine va_mabs X.1.1 X.1.2.1 (by rw [hl.1]; exact X.1.2.2.1) X.1.2.2.2.1 (X.1.2.2.2.2 _ hlink) (X.1.2.2.2.2 _ hstat) (X.1.2.2.2.2 _ hini) (X.1.2.2.2.2 _ hcode) hfr hlo (Nat.zero_le _) (Nat.zero_le _) hd ?_
  rw [zi_abs hx]
  exact kk H locs ls hP hS hl
end MKM
theorem up2_ss (I : Wo) (q k : Nat) (x : Int) : up2 I q k x q k = x := by rw [up2_s, up1_s]
theorem up2_o (I : Wo) (q k : Nat) (x : Int) : ∀ a b, (a ≠ q ∨ b ≠ k) → up2 I q k x a b = I a b := fun a b h => by
  by_cases ha : a = q
  · subst ha
    rw [up2_s, up1_n (h.resolve_left (fun z => z rfl))]
  · rw [up2_n ha]
theorem zi_nb {x : Int} (h : x = 0 ∨ x = 1) : narrow .boolean (.int (zi x)) = .int (zi x) := by rcases h with rfl | rfl <;> rfl
theorem zi_fb {x : Int} (h : x = 0 ∨ x = 1) : fits .boolean (.int (zi x)) = true := by rcases h with rfl | rfl <;> rfl
/-- the ends of methods: an int (Pi), nothing (Pv) -/
def mk_pi (P : Int → Wo → Prop) : Option Value → Wo → Prop := fun v J => ∃ r : Int, v = some (.int (zi r)) ∧ P r J
def mk_pv (P : Wo → Prop) : Option Value → Wo → Prop := fun v J => v = none ∧ P J
section MKX
variable {p : Program} {l : Launch} {e : Env} {R : Room} {s : State} {m : MethodId} {args : Array Value} {below : List Frame} {meth : Method} {c : Code} {Q : State → Prop}
variable {cc : ByteArray} {nL : Nat} {own : String} {Ts : List Cond} {D : va_G} {cl : List vw_C} {tys : List (ClassId × FieldType)} {sh : Nat → (Nat → Int) → va_E} {NC NW : Nat} {ad : Nat → Nat} {zs : List mk_Zt}
variable {I : Wo} {lv : List (Nat × Value)} {pc nx : Nat} {st : List Value}
theorem mk_nm {x : Int} (kk : ∀ y : Int, y = x → mk_A p l e R s m args below meth c Q nL D cl sh NC NW ad I lv pc (.int (zi y) :: st)) : mk_A p l e R s m args below meth c Q nL D cl sh NC NW ad I lv pc (.int (zi x) :: st) := kk x rfl
/-- a private static array of the nest's, its elements, its length -/
theorem mk_gets (X : mk_X p m c cc nL s args Ts own D cl tys NC NW ad zs) {z : mk_Zt} (hz : z ∈ zs) {index : Nat} (hi : z.2.1 = own ∧ z.2.2.1 = index ∧ z.2.2.2.1 = z.1.1) (hd : decode cc pc = .ok (.getstatic index, 3)) (hn : pc + 3 = nx) (kk : mk_A p l e R s m args below meth c Q nL D cl sh NC NW ad I lv nx (.ref z.1.2.2.2.1 :: st)) : mk_A p l e R s m args below meth c Q nL D cl sh NC NW ad I lv pc st := by
  subst hn
  intro H locs ls hP hS hl
  have hZ := X.2.2.2.2 z hz
  have h := hZ.2.2
  rw [hi.1, hi.2.1, hi.2.2] at h
  exact va_getsN (host := z.2.2.2.2) X.1.1 X.1.2.1 hZ.1 hS X.1.2.2.2.1 (va_Nw.use rfl h) (fun x h => h) hd (kk H locs ls hP hS hl)
theorem mk_tald (X : mk_X p m c cc nL s args Ts own D cl tys NC NW ad zs) {z : mk_Zt} (hz : z ∈ zs) {i : Int} {j : Nat} (h0 : 0 ≤ i) (h1 : i < z.1.2.2.2.2.1) (hb : z.1.2.2.2.2.1 < 2147483648) (hj : i.toNat = j) (hd : decode cc pc = .ok (.iaload, 1)) (hn : pc + 1 = nx) (kk : mk_A p l e R s m args below meth c Q nL D cl sh NC NW ad I lv nx (.int (zi (z.1.2.2.2.2.2 j)) :: st)) : mk_A p l e R s m args below meth c Q nL D cl sh NC NW ad I lv pc (.int (zi i) :: .ref z.1.2.2.2.1 :: st) := by
  subst hn; subst hj
  intro H locs ls hP hS hl
  exact va_ti X.1.1 X.1.2.1 (X.2.2.2.2 z hz).2.1 hS (zi_in h0 h1 hb) (by rw [zi_cl ⟨h0, by omega⟩]) hd (kk H locs ls hP hS hl)
theorem mk_tlen (X : mk_X p m c cc nL s args Ts own D cl tys NC NW ad zs) {z : mk_Zt} (hz : z ∈ zs) (hd : decode cc pc = .ok (.arraylength, 1)) (hn : pc + 1 = nx) (kk : mk_A p l e R s m args below meth c Q nL D cl sh NC NW ad I lv nx (.int (zi z.1.2.2.2.2.1) :: st)) : mk_A p l e R s m args below meth c Q nL D cl sh NC NW ad I lv pc (.ref z.1.2.2.2.1 :: st) := by
  subst hn
  intro H locs ls hP hS hl
  exact va_tlen X.1.1 X.1.2.1 (X.2.2.2.2 z hz).2.1 hS (v := zi z.1.2.2.2.2.1) (Int32.ofInt_eq_ofNat).symm hd (kk H locs ls hP hS hl)
theorem mk_lookup (X : mk_X p m c cc nL s args Ts own D cl tys NC NW ad zs) {dflt : Int} {ps : Array (Int × Int)} {len : Nat} {x off : Int} {tgt : Nat} (hd : decode cc pc = .ok (.lookupswitch dflt ps, len)) (hx : -2147483648 ≤ x ∧ x < 2147483648) (ho : (ps.toList.zip (ps.toList.drop 1)).all (fun (a, next) => a.1 < next.1) = true ∧ Op.lookupswitch.offset ps.toList dflt x = off) (ht : (pc : Int) + off = (tgt : Int)) (kk : mk_A p l e R s m args below meth c Q nL D cl sh NC NW ad I lv tgt st) : mk_A p l e R s m args below meth c Q nL D cl sh NC NW ad I lv pc (.int (zi x) :: st) :=
  fun H locs ls hP hS hl => lv_lookup X.1.1 X.1.2.1 hd ho.1 (by rw [zi_to hx]; exact ho.2) ht (kk H locs ls hP hS hl)
theorem mk_tableOut (X : mk_X p m c cc nL s args Ts own D cl tys NC NW ad zs) {dflt lo hi : Int} {offs : Array Int} {len : Nat} {x : Int} {tgt : Nat} (hd : decode cc pc = .ok (.tableswitch dflt lo hi offs, len)) (hx : -2147483648 ≤ x ∧ x < 2147483648) (h : x < lo ∨ hi < x) (ht : (pc : Int) + dflt = (tgt : Int)) (kk : mk_A p l e R s m args below meth c Q nL D cl sh NC NW ad I lv tgt st) : mk_A p l e R s m args below meth c Q nL D cl sh NC NW ad I lv pc (.int (zi x) :: st) :=
  fun H locs ls hP hS hl => lv_tableOut X.1.1 X.1.2.1 hd (by rw [zi_to hx]; exact h) ht (kk H locs ls hP hS hl)
theorem mk_tableIn (X : mk_X p m c cc nL s args Ts own D cl tys NC NW ad zs) {dflt lo hi : Int} {offs : Array Int} {len : Nat} {x off : Int} {tgt : Nat} (hd : decode cc pc = .ok (.tableswitch dflt lo hi offs, len)) (hx : -2147483648 ≤ x ∧ x < 2147483648) (h1 : lo ≤ x) (h2 : x ≤ hi) (ho : offs[(x - lo).toNat]? = some off) (ht : (pc : Int) + off = (tgt : Int)) (kk : mk_A p l e R s m args below meth c Q nL D cl sh NC NW ad I lv tgt st) : mk_A p l e R s m args below meth c Q nL D cl sh NC NW ad I lv pc (.int (zi x) :: st) :=
  fun H locs ls hP hS hl => lv_tableIn X.1.1 X.1.2.1 hd (by rw [zi_to hx]; omega) (by rw [zi_to hx]; omega) (by rw [zi_to hx]; exact ho) ht (kk H locs ls hP hS hl)
theorem mk_callVi (X : mk_X p m c cc nL s args Ts own D cl tys NC NW ad zs) {y : MethodName} {bytes : ByteArray} {maxL n index : Nat} {ret : Option FieldType} {ws ws' : List Cond} {rm : Room} {C : String} {T : u_T} {N ci : Nat} {As rest : List Value} {P : Int → Wo → Prop}
    (q : Nat) (hq : q < NC) {fs : List Value} (he : sh q (I q) = .inr (ci, fs)) (hc : cl[ci]? = some (C, T, N)) (hM : mk_C l y ws rm D cl tys sh NC NW ad zs (.ref (ad q) :: As) I (mk_pi P)) (hG : GoodIn Ts (wsV own index C y ws)) (hw : ws = Cond.code y bytes maxL ret :: ws') (hrc : rm.cells = 0 ∧ rm.slots = 0)
    (hdy : y.cls = C ∧ y.cls ≠ "java/lang/invoke/MethodHandle" ∧ y.cls ≠ "java/lang/invoke/VarHandle" ∧ (parseMethodDescriptor y.desc).map (fun d => d.parameters.length) = some n) (hR : rm.frames + 1 ≤ R.frames ∧ 8 + (maxL + 11) + rm.locals ≤ R.locals) (hAs : As.length = n) (hcat : (rest.map fun v => v.category).sum ≤ 8) {st0 : List Value} (hst : st0 = As.reverse ++ .ref (ad q) :: rest) (hd : decode cc pc = .ok (.invokevirtual index, 3)) (hn : pc + 3 = nx)
    (kk : ∀ (r : Int) (J : Wo), P r J → mk_A p l e R s m args below meth c Q nL D cl sh NC NW ad J lv nx (.int (zi r) :: rest)) : mk_A p l e R s m args below meth c Q nL D cl sh NC NW ad I lv pc st0 :=
  mk_callV X q hq he hc hM hG hw hrc hdy hR hAs hcat hst hd hn (fun v J h => by obtain ⟨r, rfl, h⟩ := h; exact kk r J h)
theorem mk_callVv (X : mk_X p m c cc nL s args Ts own D cl tys NC NW ad zs) {y : MethodName} {bytes : ByteArray} {maxL n index : Nat} {ret : Option FieldType} {ws ws' : List Cond} {rm : Room} {C : String} {T : u_T} {N ci : Nat} {As rest : List Value} {P : Wo → Prop}
    (q : Nat) (hq : q < NC) {fs : List Value} (he : sh q (I q) = .inr (ci, fs)) (hc : cl[ci]? = some (C, T, N)) (hM : mk_C l y ws rm D cl tys sh NC NW ad zs (.ref (ad q) :: As) I (mk_pv P)) (hG : GoodIn Ts (wsV own index C y ws)) (hw : ws = Cond.code y bytes maxL ret :: ws') (hrc : rm.cells = 0 ∧ rm.slots = 0)
    (hdy : y.cls = C ∧ y.cls ≠ "java/lang/invoke/MethodHandle" ∧ y.cls ≠ "java/lang/invoke/VarHandle" ∧ (parseMethodDescriptor y.desc).map (fun d => d.parameters.length) = some n) (hR : rm.frames + 1 ≤ R.frames ∧ 8 + (maxL + 11) + rm.locals ≤ R.locals) (hAs : As.length = n) (hcat : (rest.map fun v => v.category).sum ≤ 8) {st0 : List Value} (hst : st0 = As.reverse ++ .ref (ad q) :: rest) (hd : decode cc pc = .ok (.invokevirtual index, 3)) (hn : pc + 3 = nx)
    (kk : ∀ (J : Wo), P J → mk_A p l e R s m args below meth c Q nL D cl sh NC NW ad J lv nx rest) : mk_A p l e R s m args below meth c Q nL D cl sh NC NW ad I lv pc st0 :=
  mk_callV X q hq he hc hM hG hw hrc hdy hR hAs hcat hst hd hn (fun v J h => by obtain ⟨rfl, h⟩ := h; exact kk J h)
theorem mk_callSi (X : mk_X p m c cc nL s args Ts own D cl tys NC NW ad zs) {y : MethodName} {bytes : ByteArray} {maxL n index : Nat} {ret : Option FieldType} {ws ws' : List Cond} {rm : Room} {As rest : List Value} {P : Int → Wo → Prop}
    (hM : mk_C l y ws rm D cl tys sh NC NW ad zs As I (mk_pi P)) (hG : GoodIn Ts (wsS own index y ws)) (hw : ws = Cond.code y bytes maxL ret :: ws') (hrc : rm.cells = 0 ∧ rm.slots = 0)
    (hdy : y.cls = own ∧ y.cls ≠ "java/lang/invoke/MethodHandle" ∧ y.cls ≠ "java/lang/invoke/VarHandle" ∧ (parseMethodDescriptor y.desc).map (fun d => d.parameters.length) = some n) (hR : rm.frames + 1 ≤ R.frames ∧ 8 + (maxL + 11) + rm.locals ≤ R.locals) (hAs : As.length = n) (hcat : (rest.map fun v => v.category).sum ≤ 8) {st0 : List Value} (hst : st0 = As.reverse ++ rest) (hd : decode cc pc = .ok (.invokestatic index, 3)) (hn : pc + 3 = nx)
    (kk : ∀ (r : Int) (J : Wo), P r J → mk_A p l e R s m args below meth c Q nL D cl sh NC NW ad J lv nx (.int (zi r) :: rest)) : mk_A p l e R s m args below meth c Q nL D cl sh NC NW ad I lv pc st0 :=
  mk_callS X hM hG hw hrc hdy hR hAs hcat hst hd hn (fun v J h => by obtain ⟨r, rfl, h⟩ := h; exact kk r J h)
theorem mk_callT (X : mk_X p m c cc nL s args Ts own D cl tys NC NW ad zs) {y : MethodName} {bytes : ByteArray} {maxL n index : Nat} {ret : Option FieldType} {ws ws' : List Cond} {rm : Room} {As rest : List Value} {Post : Option Value → Wo → Prop}
    (hM : mk_C l y ws rm D cl tys sh NC NW ad zs As I Post) (hG : GoodIn Ts (va_wsS own index y ws)) (hw : ws = Cond.code y bytes maxL ret :: ws') (hrc : rm.cells = 0 ∧ rm.slots = 0)
    (hdy : y.cls ≠ "java/lang/invoke/MethodHandle" ∧ y.cls ≠ "java/lang/invoke/VarHandle" ∧ (parseMethodDescriptor y.desc).map (fun d => d.parameters.length) = some n) (hR : rm.frames + 1 ≤ R.frames ∧ 8 + (maxL + 11) + rm.locals ≤ R.locals) (hAs : As.length = n) (hcat : (rest.map fun v => v.category).sum ≤ 8) {st0 : List Value} (hst : st0 = As.reverse ++ rest) (hd : decode cc pc = .ok (.invokestatic index, 3)) (hn : pc + 3 = nx)
    (kk : ∀ (v : Option Value) (I' : Wo), Post v I' → mk_A p l e R s m args below meth c Q nL D cl sh NC NW ad I' lv nx (v.toList ++ rest)) : mk_A p l e R s m args below meth c Q nL D cl sh NC NW ad I lv pc st0 := by
  subst hst
  exact mk_go X (Post := Post) (a := As.toArray) (fun H locs ls hP hS hl => va_runS (As := As) X.1 hM (va_cwS n X.1.2.2.2.2 hG hw hrc.1 hrc.2 hdy hR) ⟨mk_blind, mk_pre X hP hS⟩ rfl hAs hl.1 rfl (lv_room hcat) hd ⟨Nat.zero_le _, Nat.zero_le _⟩) hn kk
theorem mk_callTi (X : mk_X p m c cc nL s args Ts own D cl tys NC NW ad zs) {y : MethodName} {bytes : ByteArray} {maxL n index : Nat} {ret : Option FieldType} {ws ws' : List Cond} {rm : Room} {As rest : List Value} {P : Int → Wo → Prop}
    (hM : mk_C l y ws rm D cl tys sh NC NW ad zs As I (mk_pi P)) (hG : GoodIn Ts (va_wsS own index y ws)) (hw : ws = Cond.code y bytes maxL ret :: ws') (hrc : rm.cells = 0 ∧ rm.slots = 0)
    (hdy : y.cls ≠ "java/lang/invoke/MethodHandle" ∧ y.cls ≠ "java/lang/invoke/VarHandle" ∧ (parseMethodDescriptor y.desc).map (fun d => d.parameters.length) = some n) (hR : rm.frames + 1 ≤ R.frames ∧ 8 + (maxL + 11) + rm.locals ≤ R.locals) (hAs : As.length = n) (hcat : (rest.map fun v => v.category).sum ≤ 8) {st0 : List Value} (hst : st0 = As.reverse ++ rest) (hd : decode cc pc = .ok (.invokestatic index, 3)) (hn : pc + 3 = nx)
    (kk : ∀ (r : Int) (J : Wo), P r J → mk_A p l e R s m args below meth c Q nL D cl sh NC NW ad J lv nx (.int (zi r) :: rest)) : mk_A p l e R s m args below meth c Q nL D cl sh NC NW ad I lv pc st0 :=
  mk_callT X hM hG hw hrc hdy hR hAs hcat hst hd hn (fun v J h => by obtain ⟨r, rfl, h⟩ := h; exact kk r J h)
theorem mk_callTv (X : mk_X p m c cc nL s args Ts own D cl tys NC NW ad zs) {y : MethodName} {bytes : ByteArray} {maxL n index : Nat} {ret : Option FieldType} {ws ws' : List Cond} {rm : Room} {As rest : List Value} {P : Wo → Prop}
    (hM : mk_C l y ws rm D cl tys sh NC NW ad zs As I (mk_pv P)) (hG : GoodIn Ts (va_wsS own index y ws)) (hw : ws = Cond.code y bytes maxL ret :: ws') (hrc : rm.cells = 0 ∧ rm.slots = 0)
    (hdy : y.cls ≠ "java/lang/invoke/MethodHandle" ∧ y.cls ≠ "java/lang/invoke/VarHandle" ∧ (parseMethodDescriptor y.desc).map (fun d => d.parameters.length) = some n) (hR : rm.frames + 1 ≤ R.frames ∧ 8 + (maxL + 11) + rm.locals ≤ R.locals) (hAs : As.length = n) (hcat : (rest.map fun v => v.category).sum ≤ 8) {st0 : List Value} (hst : st0 = As.reverse ++ rest) (hd : decode cc pc = .ok (.invokestatic index, 3)) (hn : pc + 3 = nx)
    (kk : ∀ (J : Wo), P J → mk_A p l e R s m args below meth c Q nL D cl sh NC NW ad J lv nx rest) : mk_A p l e R s m args below meth c Q nL D cl sh NC NW ad I lv pc st0 :=
  mk_callT X hM hG hw hrc hdy hR hAs hcat hst hd hn (fun v J h => by obtain ⟨rfl, h⟩ := h; exact kk J h)
end MKX
section MKE
variable {l : Launch} {y : MethodName} {ws ws' : List Cond} {rm : Room} {D : va_G} {cl : List vw_C} {tys : List (ClassId × FieldType)} {sh : Nat → (Nat → Int) → va_E} {NC NW : Nat} {ad : Nat → Nat} {zs : List mk_Zt} {As : List Value} {I : Wo} {cc : ByteArray} {maxL : Nat} {Ts : List Cond} {own : String}
/-- a contract out of a walk: an int's, a boolean's, a void method's; 'hret' ends the walk -/
theorem mk_meti {P : Int → Wo → Prop} (hinj : ∀ i j, i < NC → j < NC → ad i = ad j → i = j) (hNW : NW ≤ NC) (hy : plainName y.cls = true) (ho : y.cls = own) (hT : ∀ w ∈ Ts, w ∈ ws) (hw : ws = Cond.code y cc maxL (some .int) :: ws') (hfit : (lg_sl As).length ≤ maxL) (lv0 : List (Nat × Value)) (hlv : lv_args 0 As = lv0)
    (body : ∀ (p : Program) (e : Env) (s : State) (m : MethodId) (args : Array Value) (below : List Frame) (meth : Method) (c : Code) (Q : State → Prop), mk_X p m c cc maxL s args Ts own D cl tys NC NW ad zs →
      (∀ (J : Wo) (lv : List (Nat × Value)) (pc : Nat) (v : Int), decode cc pc = .ok (.ireturn, 1) → P v J → mk_A p l e rm s m args below meth c Q maxL D cl sh NC NW ad J lv pc [.int (zi v)]) →
      mk_A p l e rm s m args below meth c Q maxL D cl sh NC NW ad I lv0 0 []) : mk_C l y ws rm D cl tys sh NC NW ad zs As I (mk_pi P) := by
  subst hlv
  exact mk_met hinj hNW hy ho hT hw hfit (fun p e s m args below meth c X hr hlk => body p e s m args below meth c _ X (fun J lv pc v hd hp => mk_iret X hlk hr hd ⟨v, rfl, hp⟩))
theorem mk_metz {P : Int → Wo → Prop} (hinj : ∀ i j, i < NC → j < NC → ad i = ad j → i = j) (hNW : NW ≤ NC) (hy : plainName y.cls = true) (ho : y.cls = own) (hT : ∀ w ∈ Ts, w ∈ ws) (hw : ws = Cond.code y cc maxL (some .boolean) :: ws') (hfit : (lg_sl As).length ≤ maxL) (lv0 : List (Nat × Value)) (hlv : lv_args 0 As = lv0)
    (body : ∀ (p : Program) (e : Env) (s : State) (m : MethodId) (args : Array Value) (below : List Frame) (meth : Method) (c : Code) (Q : State → Prop), mk_X p m c cc maxL s args Ts own D cl tys NC NW ad zs →
      (∀ (J : Wo) (lv : List (Nat × Value)) (pc : Nat) (v : Int), decode cc pc = .ok (.ireturn, 1) → (v = 0 ∨ v = 1) → P v J → mk_A p l e rm s m args below meth c Q maxL D cl sh NC NW ad J lv pc [.int (zi v)]) →
      mk_A p l e rm s m args below meth c Q maxL D cl sh NC NW ad I lv0 0 []) : mk_C l y ws rm D cl tys sh NC NW ad zs As I (mk_pi P) := by
  subst hlv
  exact mk_met hinj hNW hy ho hT hw hfit (fun p e s m args below meth c X hr hlk => body p e s m args below meth c _ X (fun J lv pc v hd hz hp => mk_zret X hlk hr (zi_nb hz) hd ⟨v, rfl, hp⟩))
theorem mk_metv {P : Wo → Prop} (hinj : ∀ i j, i < NC → j < NC → ad i = ad j → i = j) (hNW : NW ≤ NC) (hy : plainName y.cls = true) (ho : y.cls = own) (hT : ∀ w ∈ Ts, w ∈ ws) (hw : ws = Cond.code y cc maxL none :: ws') (hfit : (lg_sl As).length ≤ maxL) (lv0 : List (Nat × Value)) (hlv : lv_args 0 As = lv0)
    (body : ∀ (p : Program) (e : Env) (s : State) (m : MethodId) (args : Array Value) (below : List Frame) (meth : Method) (c : Code) (Q : State → Prop), mk_X p m c cc maxL s args Ts own D cl tys NC NW ad zs →
      (∀ (J : Wo) (lv : List (Nat × Value)) (pc : Nat), decode cc pc = .ok (.return_, 1) → P J → mk_A p l e rm s m args below meth c Q maxL D cl sh NC NW ad J lv pc []) →
      mk_A p l e rm s m args below meth c Q maxL D cl sh NC NW ad I lv0 0 []) : mk_C l y ws rm D cl tys sh NC NW ad zs As I (mk_pv P) := by
  subst hlv
  exact mk_met hinj hNW hy ho hT hw hfit (fun p e s m args below meth c X hr hlk => body p e s m args below meth c _ X (fun J lv pc hd hp => mk_vret X hlk hr hd ⟨rfl, hp⟩))
end MKE
end
section
-- ===== PART A: goes FIRST, ahead of the names: the tables' words, and 'selects' of the private methods out of them =====
/-- a private method of a class that the tables say can be made, by its rows of tables_1 -/
def lw_okq (q : MethodName × Nat) : Prop := (q.1.cls ≠ "java/lang/invoke/MethodHandle" ∧ q.1.cls ≠ "java/lang/invoke/VarHandle") ∧ Cond.instantiable q.1.cls q.2 ∈ tables_1 ∧ Cond.privateMethod q.1 ∈ tables_1 ∧ Cond.instanceMethod q.1 ∈ tables_1
theorem lw_p0 : lw_okq (⟨"CanonMaker", "countTimes", "()I"⟩, 11) := ⟨⟨by decide +kernel, by decide +kernel⟩, List.mem_of_getElem? (i := 12) (by decide +kernel), List.mem_of_getElem? (i := 349) (by decide +kernel), List.mem_of_getElem? (i := 350) (by decide +kernel)⟩
theorem lw_p1 : lw_okq (⟨"CanonMaker$Line", "joinNeighbours", "(LCanonMaker$Subject;)V"⟩, 12) := ⟨⟨by decide +kernel, by decide +kernel⟩, List.mem_of_getElem? (i := 82) (by decide +kernel), List.mem_of_getElem? (i := 364) (by decide +kernel), List.mem_of_getElem? (i := 365) (by decide +kernel)⟩
theorem lw_p2 : lw_okq (⟨"CanonMaker", "isAnyTooLong", "()Z"⟩, 11) := ⟨⟨by decide +kernel, by decide +kernel⟩, List.mem_of_getElem? (i := 12) (by decide +kernel), List.mem_of_getElem? (i := 394) (by decide +kernel), List.mem_of_getElem? (i := 395) (by decide +kernel)⟩
theorem lw_p3 : lw_okq (⟨"CanonMaker", "isTooLong", "(LCanonMaker$Voice;)Z"⟩, 11) := ⟨⟨by decide +kernel, by decide +kernel⟩, List.mem_of_getElem? (i := 12) (by decide +kernel), List.mem_of_getElem? (i := 398) (by decide +kernel), List.mem_of_getElem? (i := 399) (by decide +kernel)⟩
theorem lw_p4 : lw_okq (⟨"CanonMaker", "layAll", "()V"⟩, 11) := ⟨⟨by decide +kernel, by decide +kernel⟩, List.mem_of_getElem? (i := 12) (by decide +kernel), List.mem_of_getElem? (i := 402) (by decide +kernel), List.mem_of_getElem? (i := 403) (by decide +kernel)⟩
theorem lw_p5 : lw_okq (⟨"CanonMaker$Score", "keepMoment", "(I)V"⟩, 6) := ⟨⟨by decide +kernel, by decide +kernel⟩, List.mem_of_getElem? (i := 75) (by decide +kernel), List.mem_of_getElem? (i := 419) (by decide +kernel), List.mem_of_getElem? (i := 420) (by decide +kernel)⟩
theorem lw_p6 : lw_okq (⟨"CanonMaker$Judge", "hear", "(I)V"⟩, 15) := ⟨⟨by decide +kernel, by decide +kernel⟩, List.mem_of_getElem? (i := 165) (by decide +kernel), List.mem_of_getElem? (i := 437) (by decide +kernel), List.mem_of_getElem? (i := 438) (by decide +kernel)⟩
theorem lw_p7 : lw_okq (⟨"CanonMaker$Judge", "judgeEach", "(I)V"⟩, 15) := ⟨⟨by decide +kernel, by decide +kernel⟩, List.mem_of_getElem? (i := 165) (by decide +kernel), List.mem_of_getElem? (i := 443) (by decide +kernel), List.mem_of_getElem? (i := 444) (by decide +kernel)⟩
theorem lw_p8 : lw_okq (⟨"CanonMaker$Judge", "breaksAlone", "(II)Z"⟩, 15) := ⟨⟨by decide +kernel, by decide +kernel⟩, List.mem_of_getElem? (i := 165) (by decide +kernel), List.mem_of_getElem? (i := 447) (by decide +kernel), List.mem_of_getElem? (i := 448) (by decide +kernel)⟩
theorem lw_p9 : lw_okq (⟨"CanonMaker$Judge", "leaps", "(I)Z"⟩, 15) := ⟨⟨by decide +kernel, by decide +kernel⟩, List.mem_of_getElem? (i := 165) (by decide +kernel), List.mem_of_getElem? (i := 452) (by decide +kernel), List.mem_of_getElem? (i := 453) (by decide +kernel)⟩
theorem lw_p10 : lw_okq (⟨"CanonMaker$Judge", "keepFault", "(III)V"⟩, 15) := ⟨⟨by decide +kernel, by decide +kernel⟩, List.mem_of_getElem? (i := 165) (by decide +kernel), List.mem_of_getElem? (i := 462) (by decide +kernel), List.mem_of_getElem? (i := 463) (by decide +kernel)⟩
theorem lw_p11 : lw_okq (⟨"CanonMaker$Judge", "judgePairs", "(I)V"⟩, 15) := ⟨⟨by decide +kernel, by decide +kernel⟩, List.mem_of_getElem? (i := 165) (by decide +kernel), List.mem_of_getElem? (i := 466) (by decide +kernel), List.mem_of_getElem? (i := 467) (by decide +kernel)⟩
theorem lw_p12 : lw_okq (⟨"CanonMaker$Judge", "breakTogether", "(III)Z"⟩, 15) := ⟨⟨by decide +kernel, by decide +kernel⟩, List.mem_of_getElem? (i := 165) (by decide +kernel), List.mem_of_getElem? (i := 470) (by decide +kernel), List.mem_of_getElem? (i := 471) (by decide +kernel)⟩
theorem lw_p13 : lw_okq (⟨"CanonMaker$Judge", "clash", "(II)Z"⟩, 15) := ⟨⟨by decide +kernel, by decide +kernel⟩, List.mem_of_getElem? (i := 165) (by decide +kernel), List.mem_of_getElem? (i := 474) (by decide +kernel), List.mem_of_getElem? (i := 475) (by decide +kernel)⟩
theorem lw_p14 : lw_okq (⟨"CanonMaker$Judge", "isFourthGood", "(II)Z"⟩, 15) := ⟨⟨by decide +kernel, by decide +kernel⟩, List.mem_of_getElem? (i := 165) (by decide +kernel), List.mem_of_getElem? (i := 478) (by decide +kernel), List.mem_of_getElem? (i := 479) (by decide +kernel)⟩
theorem lw_p15 : lw_okq (⟨"CanonMaker$Judge", "gait", "(I)I"⟩, 15) := ⟨⟨by decide +kernel, by decide +kernel⟩, List.mem_of_getElem? (i := 165) (by decide +kernel), List.mem_of_getElem? (i := 482) (by decide +kernel), List.mem_of_getElem? (i := 483) (by decide +kernel)⟩
def lw_privs_1 : List (MethodName × Nat) := [(⟨"CanonMaker", "countTimes", "()I"⟩, 11), (⟨"CanonMaker$Line", "joinNeighbours", "(LCanonMaker$Subject;)V"⟩, 12), (⟨"CanonMaker", "isAnyTooLong", "()Z"⟩, 11), (⟨"CanonMaker", "isTooLong", "(LCanonMaker$Voice;)Z"⟩, 11), (⟨"CanonMaker", "layAll", "()V"⟩, 11), (⟨"CanonMaker$Score", "keepMoment", "(I)V"⟩, 6), (⟨"CanonMaker$Judge", "hear", "(I)V"⟩, 15), (⟨"CanonMaker$Judge", "judgeEach", "(I)V"⟩, 15), (⟨"CanonMaker$Judge", "breaksAlone", "(II)Z"⟩, 15), (⟨"CanonMaker$Judge", "leaps", "(I)Z"⟩, 15), (⟨"CanonMaker$Judge", "keepFault", "(III)V"⟩, 15), (⟨"CanonMaker$Judge", "judgePairs", "(I)V"⟩, 15), (⟨"CanonMaker$Judge", "breakTogether", "(III)Z"⟩, 15), (⟨"CanonMaker$Judge", "clash", "(II)Z"⟩, 15), (⟨"CanonMaker$Judge", "isFourthGood", "(II)Z"⟩, 15), (⟨"CanonMaker$Judge", "gait", "(I)I"⟩, 15)]
theorem lw_r1 : ∀ q ∈ lw_privs_1, lw_okq q := List.forall_mem_cons.mpr ⟨lw_p0, List.forall_mem_cons.mpr ⟨lw_p1, List.forall_mem_cons.mpr ⟨lw_p2, List.forall_mem_cons.mpr ⟨lw_p3, List.forall_mem_cons.mpr ⟨lw_p4, List.forall_mem_cons.mpr ⟨lw_p5, List.forall_mem_cons.mpr ⟨lw_p6, List.forall_mem_cons.mpr ⟨lw_p7, List.forall_mem_cons.mpr ⟨lw_p8, List.forall_mem_cons.mpr ⟨lw_p9, List.forall_mem_cons.mpr ⟨lw_p10, List.forall_mem_cons.mpr ⟨lw_p11, List.forall_mem_cons.mpr ⟨lw_p12, List.forall_mem_cons.mpr ⟨lw_p13, List.forall_mem_cons.mpr ⟨lw_p14, List.forall_mem_cons.mpr ⟨lw_p15, fun _ h => absurd h List.not_mem_nil⟩⟩⟩⟩⟩⟩⟩⟩⟩⟩⟩⟩⟩⟩⟩⟩
theorem lw_p16 : lw_okq (⟨"CanonMaker$Judge", "moveAlike", "(II)Z"⟩, 15) := ⟨⟨by decide +kernel, by decide +kernel⟩, List.mem_of_getElem? (i := 165) (by decide +kernel), List.mem_of_getElem? (i := 492) (by decide +kernel), List.mem_of_getElem? (i := 493) (by decide +kernel)⟩
theorem lw_p17 : lw_okq (⟨"CanonMaker$Judge", "changeDistance", "(II)Z"⟩, 15) := ⟨⟨by decide +kernel, by decide +kernel⟩, List.mem_of_getElem? (i := 165) (by decide +kernel), List.mem_of_getElem? (i := 496) (by decide +kernel), List.mem_of_getElem? (i := 497) (by decide +kernel)⟩
theorem lw_p18 : lw_okq (⟨"CanonMaker$Judge", "upperJumps", "(II)Z"⟩, 15) := ⟨⟨by decide +kernel, by decide +kernel⟩, List.mem_of_getElem? (i := 165) (by decide +kernel), List.mem_of_getElem? (i := 500) (by decide +kernel), List.mem_of_getElem? (i := 501) (by decide +kernel)⟩
theorem lw_p19 : lw_okq (⟨"CanonMaker", "listOpenNotes", "()V"⟩, 11) := ⟨⟨by decide +kernel, by decide +kernel⟩, List.mem_of_getElem? (i := 12) (by decide +kernel), List.mem_of_getElem? (i := 512) (by decide +kernel), List.mem_of_getElem? (i := 513) (by decide +kernel)⟩
theorem lw_p20 : lw_okq (⟨"CanonMaker", "searchPitches", "(I)I"⟩, 11) := ⟨⟨by decide +kernel, by decide +kernel⟩, List.mem_of_getElem? (i := 12) (by decide +kernel), List.mem_of_getElem? (i := 516) (by decide +kernel), List.mem_of_getElem? (i := 517) (by decide +kernel)⟩
theorem lw_p21 : lw_okq (⟨"CanonMaker", "reopenNotes", "()V"⟩, 11) := ⟨⟨by decide +kernel, by decide +kernel⟩, List.mem_of_getElem? (i := 12) (by decide +kernel), List.mem_of_getElem? (i := 520) (by decide +kernel), List.mem_of_getElem? (i := 521) (by decide +kernel)⟩
theorem lw_p22 : lw_okq (⟨"CanonMaker", "layPair", "(I)V"⟩, 11) := ⟨⟨by decide +kernel, by decide +kernel⟩, List.mem_of_getElem? (i := 12) (by decide +kernel), List.mem_of_getElem? (i := 536) (by decide +kernel), List.mem_of_getElem? (i := 537) (by decide +kernel)⟩
theorem lw_p23 : lw_okq (⟨"CanonMaker", "searchIntervals", "(LCanonMaker$Line;I)V"⟩, 11) := ⟨⟨by decide +kernel, by decide +kernel⟩, List.mem_of_getElem? (i := 12) (by decide +kernel), List.mem_of_getElem? (i := 543) (by decide +kernel), List.mem_of_getElem? (i := 544) (by decide +kernel)⟩
theorem lw_p24 : lw_okq (⟨"CanonMakerModel", "endOf", "()I"⟩, 29) := ⟨⟨by decide +kernel, by decide +kernel⟩, List.mem_of_getElem? (i := 551) (by decide +kernel), List.mem_of_getElem? (i := 697) (by decide +kernel), List.mem_of_getElem? (i := 698) (by decide +kernel)⟩
theorem lw_p25 : lw_okq (⟨"CanonMakerModel", "lineSize", "(I)I"⟩, 29) := ⟨⟨by decide +kernel, by decide +kernel⟩, List.mem_of_getElem? (i := 551) (by decide +kernel), List.mem_of_getElem? (i := 701) (by decide +kernel), List.mem_of_getElem? (i := 702) (by decide +kernel)⟩
theorem lw_p26 : lw_okq (⟨"CanonMakerModel", "layAll", "()V"⟩, 29) := ⟨⟨by decide +kernel, by decide +kernel⟩, List.mem_of_getElem? (i := 551) (by decide +kernel), List.mem_of_getElem? (i := 710) (by decide +kernel), List.mem_of_getElem? (i := 711) (by decide +kernel)⟩
theorem lw_p27 : lw_okq (⟨"CanonMakerModel", "lay", "(I)V"⟩, 29) := ⟨⟨by decide +kernel, by decide +kernel⟩, List.mem_of_getElem? (i := 551) (by decide +kernel), List.mem_of_getElem? (i := 714) (by decide +kernel), List.mem_of_getElem? (i := 715) (by decide +kernel)⟩
theorem lw_p28 : lw_okq (⟨"CanonMakerModel", "pitchOf", "(II)I"⟩, 29) := ⟨⟨by decide +kernel, by decide +kernel⟩, List.mem_of_getElem? (i := 551) (by decide +kernel), List.mem_of_getElem? (i := 718) (by decide +kernel), List.mem_of_getElem? (i := 719) (by decide +kernel)⟩
theorem lw_p29 : lw_okq (⟨"CanonMakerModel", "isLong", "()Z"⟩, 29) := ⟨⟨by decide +kernel, by decide +kernel⟩, List.mem_of_getElem? (i := 551) (by decide +kernel), List.mem_of_getElem? (i := 726) (by decide +kernel), List.mem_of_getElem? (i := 727) (by decide +kernel)⟩
theorem lw_p30 : lw_okq (⟨"CanonMakerModel", "judge", "(I)I"⟩, 29) := ⟨⟨by decide +kernel, by decide +kernel⟩, List.mem_of_getElem? (i := 551) (by decide +kernel), List.mem_of_getElem? (i := 730) (by decide +kernel), List.mem_of_getElem? (i := 731) (by decide +kernel)⟩
theorem lw_p31 : lw_okq (⟨"CanonMakerModel", "breaksAlone", "(III)Z"⟩, 29) := ⟨⟨by decide +kernel, by decide +kernel⟩, List.mem_of_getElem? (i := 551) (by decide +kernel), List.mem_of_getElem? (i := 734) (by decide +kernel), List.mem_of_getElem? (i := 735) (by decide +kernel)⟩
def lw_privs_2 : List (MethodName × Nat) := [(⟨"CanonMaker$Judge", "moveAlike", "(II)Z"⟩, 15), (⟨"CanonMaker$Judge", "changeDistance", "(II)Z"⟩, 15), (⟨"CanonMaker$Judge", "upperJumps", "(II)Z"⟩, 15), (⟨"CanonMaker", "listOpenNotes", "()V"⟩, 11), (⟨"CanonMaker", "searchPitches", "(I)I"⟩, 11), (⟨"CanonMaker", "reopenNotes", "()V"⟩, 11), (⟨"CanonMaker", "layPair", "(I)V"⟩, 11), (⟨"CanonMaker", "searchIntervals", "(LCanonMaker$Line;I)V"⟩, 11), (⟨"CanonMakerModel", "endOf", "()I"⟩, 29), (⟨"CanonMakerModel", "lineSize", "(I)I"⟩, 29), (⟨"CanonMakerModel", "layAll", "()V"⟩, 29), (⟨"CanonMakerModel", "lay", "(I)V"⟩, 29), (⟨"CanonMakerModel", "pitchOf", "(II)I"⟩, 29), (⟨"CanonMakerModel", "isLong", "()Z"⟩, 29), (⟨"CanonMakerModel", "judge", "(I)I"⟩, 29), (⟨"CanonMakerModel", "breaksAlone", "(III)Z"⟩, 29)]
theorem lw_r2 : ∀ q ∈ lw_privs_2, lw_okq q := List.forall_mem_cons.mpr ⟨lw_p16, List.forall_mem_cons.mpr ⟨lw_p17, List.forall_mem_cons.mpr ⟨lw_p18, List.forall_mem_cons.mpr ⟨lw_p19, List.forall_mem_cons.mpr ⟨lw_p20, List.forall_mem_cons.mpr ⟨lw_p21, List.forall_mem_cons.mpr ⟨lw_p22, List.forall_mem_cons.mpr ⟨lw_p23, List.forall_mem_cons.mpr ⟨lw_p24, List.forall_mem_cons.mpr ⟨lw_p25, List.forall_mem_cons.mpr ⟨lw_p26, List.forall_mem_cons.mpr ⟨lw_p27, List.forall_mem_cons.mpr ⟨lw_p28, List.forall_mem_cons.mpr ⟨lw_p29, List.forall_mem_cons.mpr ⟨lw_p30, List.forall_mem_cons.mpr ⟨lw_p31, fun _ h => absurd h List.not_mem_nil⟩⟩⟩⟩⟩⟩⟩⟩⟩⟩⟩⟩⟩⟩⟩⟩
theorem lw_p32 : lw_okq (⟨"CanonMakerModel", "isStruck", "(II)Z"⟩, 29) := ⟨⟨by decide +kernel, by decide +kernel⟩, List.mem_of_getElem? (i := 551) (by decide +kernel), List.mem_of_getElem? (i := 738) (by decide +kernel), List.mem_of_getElem? (i := 739) (by decide +kernel)⟩
theorem lw_p33 : lw_okq (⟨"CanonMakerModel", "beside", "(III)I"⟩, 29) := ⟨⟨by decide +kernel, by decide +kernel⟩, List.mem_of_getElem? (i := 551) (by decide +kernel), List.mem_of_getElem? (i := 742) (by decide +kernel), List.mem_of_getElem? (i := 743) (by decide +kernel)⟩
theorem lw_p34 : lw_okq (⟨"CanonMakerModel", "breaks", "(IIII)Z"⟩, 29) := ⟨⟨by decide +kernel, by decide +kernel⟩, List.mem_of_getElem? (i := 551) (by decide +kernel), List.mem_of_getElem? (i := 746) (by decide +kernel), List.mem_of_getElem? (i := 747) (by decide +kernel)⟩
theorem lw_p35 : lw_okq (⟨"CanonMakerModel", "sounds", "(II)Z"⟩, 29) := ⟨⟨by decide +kernel, by decide +kernel⟩, List.mem_of_getElem? (i := 551) (by decide +kernel), List.mem_of_getElem? (i := 750) (by decide +kernel), List.mem_of_getElem? (i := 751) (by decide +kernel)⟩
theorem lw_p36 : lw_okq (⟨"CanonMakerModel", "isDissonant", "(III)Z"⟩, 29) := ⟨⟨by decide +kernel, by decide +kernel⟩, List.mem_of_getElem? (i := 551) (by decide +kernel), List.mem_of_getElem? (i := 754) (by decide +kernel), List.mem_of_getElem? (i := 755) (by decide +kernel)⟩
theorem lw_p37 : lw_okq (⟨"CanonMakerModel", "steps", "(II)I"⟩, 29) := ⟨⟨by decide +kernel, by decide +kernel⟩, List.mem_of_getElem? (i := 551) (by decide +kernel), List.mem_of_getElem? (i := 761) (by decide +kernel), List.mem_of_getElem? (i := 762) (by decide +kernel)⟩
theorem lw_p38 : lw_okq (⟨"CanonMakerModel", "isClean", "()Z"⟩, 29) := ⟨⟨by decide +kernel, by decide +kernel⟩, List.mem_of_getElem? (i := 551) (by decide +kernel), List.mem_of_getElem? (i := 773) (by decide +kernel), List.mem_of_getElem? (i := 774) (by decide +kernel)⟩
def lw_privs_3 : List (MethodName × Nat) := [(⟨"CanonMakerModel", "isStruck", "(II)Z"⟩, 29), (⟨"CanonMakerModel", "beside", "(III)I"⟩, 29), (⟨"CanonMakerModel", "breaks", "(IIII)Z"⟩, 29), (⟨"CanonMakerModel", "sounds", "(II)Z"⟩, 29), (⟨"CanonMakerModel", "isDissonant", "(III)Z"⟩, 29), (⟨"CanonMakerModel", "steps", "(II)I"⟩, 29), (⟨"CanonMakerModel", "isClean", "()Z"⟩, 29)]
theorem lw_r3 : ∀ q ∈ lw_privs_3, lw_okq q := List.forall_mem_cons.mpr ⟨lw_p32, List.forall_mem_cons.mpr ⟨lw_p33, List.forall_mem_cons.mpr ⟨lw_p34, List.forall_mem_cons.mpr ⟨lw_p35, List.forall_mem_cons.mpr ⟨lw_p36, List.forall_mem_cons.mpr ⟨lw_p37, List.forall_mem_cons.mpr ⟨lw_p38, fun _ h => absurd h List.not_mem_nil⟩⟩⟩⟩⟩⟩⟩
def lw_privs : List (MethodName × Nat) := lw_privs_1 ++ (lw_privs_2 ++ (lw_privs_3))
def lw_tbl : List Cond := k2_sels lw_privs ++ tables_1
theorem lw_privs_ok : ∀ q ∈ lw_privs, lw_okq q := by
  show ∀ q ∈ lw_privs_1 ++ (lw_privs_2 ++ (lw_privs_3)), lw_okq q
  exact List.forall_mem_append.mpr ⟨lw_r1, List.forall_mem_append.mpr ⟨lw_r2, lw_r3⟩⟩
/-! the names: methods, fields, the good words of the tables by their places -/
def wA : List Cond := lw_tbl.filter goodWord
theorem wA_at {w : Cond} (i : Nat) (h : lw_tbl[i]? = some w) (hg : goodWord w = true) : w ∈ wA := List.mem_filter.mpr ⟨List.mem_of_getElem? h, hg⟩
theorem wA_good : GoodIn wA wA := fun w h => ⟨h, good_of_word (List.mem_filter.mp h).2⟩
theorem wA_tbl : GoodIn lw_tbl wA := fun w h => ⟨(List.mem_filter.mp h).1, good_of_word (List.mem_filter.mp h).2⟩
theorem u_in_all {C : String} {T : u_T} {N : Nat} {P : Cond → Prop} (h : ∀ k, k < N → P (u_lay C T k)) : ∀ w ∈ u_ws C T N, P w := fun w hw => by
  obtain ⟨k, hk, rfl⟩ := List.mem_map.mp hw
  exact h k (List.mem_range.mp hk)
def y_CM_init : MethodName := ⟨"CanonMaker", "<init>", "()V"⟩
def y_CM_at : MethodName := ⟨"CanonMaker", "at", "(II)I"⟩
def y_CM_beat : MethodName := ⟨"CanonMaker", "beat", "(I)I"⟩
def y_CM_countTimes : MethodName := ⟨"CanonMaker", "countTimes", "()I"⟩
def y_CM_cut : MethodName := ⟨"CanonMaker", "cut", "(I)I"⟩
def y_CM_end : MethodName := ⟨"CanonMaker", "end", "()I"⟩
def y_CM_fault : MethodName := ⟨"CanonMaker", "fault", "(II)I"⟩
def y_CM_faults : MethodName := ⟨"CanonMaker", "faults", "()I"⟩
def y_CM_isAnyTooLong : MethodName := ⟨"CanonMaker", "isAnyTooLong", "()Z"⟩
def y_CM_isFollower : MethodName := ⟨"CanonMaker", "isFollower", "(I)Z"⟩
def y_CM_isPitch : MethodName := ⟨"CanonMaker", "isPitch", "(I)Z"⟩
def y_CM_isTooLong : MethodName := ⟨"CanonMaker", "isTooLong", "(LCanonMaker$Voice;)Z"⟩
def y_CM_layAll : MethodName := ⟨"CanonMaker", "layAll", "()V"⟩
def y_CM_layPair : MethodName := ⟨"CanonMaker", "layPair", "(I)V"⟩
def y_CM_listOpenNotes : MethodName := ⟨"CanonMaker", "listOpenNotes", "()V"⟩
def y_CM_note : MethodName := ⟨"CanonMaker", "note", "(II)I"⟩
def y_CM_off : MethodName := ⟨"CanonMaker", "off", "(I)I"⟩
def y_CM_pitch : MethodName := ⟨"CanonMaker", "pitch", "(II)I"⟩
def y_CM_reopenNotes : MethodName := ⟨"CanonMaker", "reopenNotes", "()V"⟩
def y_CM_round : MethodName := ⟨"CanonMaker", "round", "(I)I"⟩
def y_CM_rules : MethodName := ⟨"CanonMaker", "rules", "(I)I"⟩
def y_CM_scale : MethodName := ⟨"CanonMaker", "scale", "(I)I"⟩
def y_CM_searchIntervals : MethodName := ⟨"CanonMaker", "searchIntervals", "(LCanonMaker$Line;I)V"⟩
def y_CM_searchPitches : MethodName := ⟨"CanonMaker", "searchPitches", "(I)I"⟩
def y_CM_shift : MethodName := ⟨"CanonMaker", "shift", "(II)I"⟩
def y_CM_shifts : MethodName := ⟨"CanonMaker", "shifts", "(I)I"⟩
def y_CM_size : MethodName := ⟨"CanonMaker", "size", "()I"⟩
def y_CM_solve : MethodName := ⟨"CanonMaker", "solve", "(I)I"⟩
def y_CM_span : MethodName := ⟨"CanonMaker", "span", "(II)I"⟩
def y_CM_steps : MethodName := ⟨"CanonMaker", "steps", "()I"⟩
def y_CM_told : MethodName := ⟨"CanonMaker", "told", "(II)I"⟩
def y_CM_voice : MethodName := ⟨"CanonMaker", "voice", "(IIIII)I"⟩
def y_Bounds_init : MethodName := ⟨"CanonMaker$Bounds", "<init>", "()V"⟩
def y_Judge_init : MethodName := ⟨"CanonMaker$Judge", "<init>", "(LCanonMaker$Score;LCanonMaker$Bounds;)V"⟩
def y_Judge_breakTogether : MethodName := ⟨"CanonMaker$Judge", "breakTogether", "(III)Z"⟩
def y_Judge_breaksAlone : MethodName := ⟨"CanonMaker$Judge", "breaksAlone", "(II)Z"⟩
def y_Judge_changeDistance : MethodName := ⟨"CanonMaker$Judge", "changeDistance", "(II)Z"⟩
def y_Judge_clash : MethodName := ⟨"CanonMaker$Judge", "clash", "(II)Z"⟩
def y_Judge_countFaults : MethodName := ⟨"CanonMaker$Judge", "countFaults", "(II)I"⟩
def y_Judge_gait : MethodName := ⟨"CanonMaker$Judge", "gait", "(I)I"⟩
def y_Judge_hear : MethodName := ⟨"CanonMaker$Judge", "hear", "(I)V"⟩
def y_Judge_isExcused : MethodName := ⟨"CanonMaker$Judge", "isExcused", "(II)Z"⟩
def y_Judge_isFourthGood : MethodName := ⟨"CanonMaker$Judge", "isFourthGood", "(II)Z"⟩
def y_Judge_isKnown : MethodName := ⟨"CanonMaker$Judge", "isKnown", "(I)Z"⟩
def y_Judge_isStepUp : MethodName := ⟨"CanonMaker$Judge", "isStepUp", "(I)Z"⟩
def y_Judge_judgeEach : MethodName := ⟨"CanonMaker$Judge", "judgeEach", "(I)V"⟩
def y_Judge_judgePairs : MethodName := ⟨"CanonMaker$Judge", "judgePairs", "(I)V"⟩
def y_Judge_keepFault : MethodName := ⟨"CanonMaker$Judge", "keepFault", "(III)V"⟩
def y_Judge_leaps : MethodName := ⟨"CanonMaker$Judge", "leaps", "(I)Z"⟩
def y_Judge_moveAlike : MethodName := ⟨"CanonMaker$Judge", "moveAlike", "(II)Z"⟩
def y_Judge_upperJumps : MethodName := ⟨"CanonMaker$Judge", "upperJumps", "(II)Z"⟩
def y_Line_init : MethodName := ⟨"CanonMaker$Line", "<init>", "()V"⟩
def y_Line_joinNeighbours : MethodName := ⟨"CanonMaker$Line", "joinNeighbours", "(LCanonMaker$Subject;)V"⟩
def y_Line_lay : MethodName := ⟨"CanonMaker$Line", "lay", "(LCanonMaker$Subject;LCanonMaker$Voice;I)V"⟩
def y_Line_placeAt : MethodName := ⟨"CanonMaker$Line", "placeAt", "(I)I"⟩
def y_Line_sinceBegin : MethodName := ⟨"CanonMaker$Line", "sinceBegin", "(I)I"⟩
def y_Line_timeOf : MethodName := ⟨"CanonMaker$Line", "timeOf", "(I)I"⟩
def y_Line_tune : MethodName := ⟨"CanonMaker$Line", "tune", "(LCanonMaker$Subject;)V"⟩
def y_Score_init : MethodName := ⟨"CanonMaker$Score", "<init>", "()V"⟩
def y_Score_gatherMoments : MethodName := ⟨"CanonMaker$Score", "gatherMoments", "()V"⟩
def y_Score_keepMoment : MethodName := ⟨"CanonMaker$Score", "keepMoment", "(I)V"⟩
def y_Score_notesAround : MethodName := ⟨"CanonMaker$Score", "notesAround", "(LCanonMaker$Line;II)I"⟩
def y_Score_placeVoices : MethodName := ⟨"CanonMaker$Score", "placeVoices", "(I)V"⟩
def y_Score_tune : MethodName := ⟨"CanonMaker$Score", "tune", "(LCanonMaker$Subject;)V"⟩
def y_Subject_init : MethodName := ⟨"CanonMaker$Subject", "<init>", "()V"⟩
def y_Subject_firstSounding : MethodName := ⟨"CanonMaker$Subject", "firstSounding", "()I"⟩
def y_Subject_has : MethodName := ⟨"CanonMaker$Subject", "has", "(I)Z"⟩
def y_Subject_hasOpen : MethodName := ⟨"CanonMaker$Subject", "hasOpen", "()Z"⟩
def y_Subject_units : MethodName := ⟨"CanonMaker$Subject", "units", "()I"⟩
def y_Voice_init : MethodName := ⟨"CanonMaker$Voice", "<init>", "()V"⟩
def y_Mo_init : MethodName := ⟨"CanonMakerModel", "<init>", "()V"⟩
def y_Mo_at : MethodName := ⟨"CanonMakerModel", "at", "(II)I"⟩
def y_Mo_beat : MethodName := ⟨"CanonMakerModel", "beat", "(I)I"⟩
def y_Mo_beside : MethodName := ⟨"CanonMakerModel", "beside", "(III)I"⟩
def y_Mo_breaks : MethodName := ⟨"CanonMakerModel", "breaks", "(IIII)Z"⟩
def y_Mo_breaksAlone : MethodName := ⟨"CanonMakerModel", "breaksAlone", "(III)Z"⟩
def y_Mo_cut : MethodName := ⟨"CanonMakerModel", "cut", "(I)I"⟩
def y_Mo_end : MethodName := ⟨"CanonMakerModel", "end", "()I"⟩
def y_Mo_endOf : MethodName := ⟨"CanonMakerModel", "endOf", "()I"⟩
def y_Mo_fault : MethodName := ⟨"CanonMakerModel", "fault", "(II)I"⟩
def y_Mo_faults : MethodName := ⟨"CanonMakerModel", "faults", "()I"⟩
def y_Mo_gap : MethodName := ⟨"CanonMakerModel", "gap", "(II)I"⟩
def y_Mo_isClean : MethodName := ⟨"CanonMakerModel", "isClean", "()Z"⟩
def y_Mo_isDissonant : MethodName := ⟨"CanonMakerModel", "isDissonant", "(III)Z"⟩
def y_Mo_isLong : MethodName := ⟨"CanonMakerModel", "isLong", "()Z"⟩
def y_Mo_isStruck : MethodName := ⟨"CanonMakerModel", "isStruck", "(II)Z"⟩
def y_Mo_judge : MethodName := ⟨"CanonMakerModel", "judge", "(I)I"⟩
def y_Mo_lay : MethodName := ⟨"CanonMakerModel", "lay", "(I)V"⟩
def y_Mo_layAll : MethodName := ⟨"CanonMakerModel", "layAll", "()V"⟩
def y_Mo_lineSize : MethodName := ⟨"CanonMakerModel", "lineSize", "(I)I"⟩
def y_Mo_note : MethodName := ⟨"CanonMakerModel", "note", "(II)I"⟩
def y_Mo_off : MethodName := ⟨"CanonMakerModel", "off", "(I)I"⟩
def y_Mo_pitch : MethodName := ⟨"CanonMakerModel", "pitch", "(II)I"⟩
def y_Mo_pitchOf : MethodName := ⟨"CanonMakerModel", "pitchOf", "(II)I"⟩
def y_Mo_round : MethodName := ⟨"CanonMakerModel", "round", "(I)I"⟩
def y_Mo_rules : MethodName := ⟨"CanonMakerModel", "rules", "(I)I"⟩
def y_Mo_scale : MethodName := ⟨"CanonMakerModel", "scale", "(I)I"⟩
def y_Mo_shift : MethodName := ⟨"CanonMakerModel", "shift", "(II)I"⟩
def y_Mo_shifts : MethodName := ⟨"CanonMakerModel", "shifts", "(I)I"⟩
def y_Mo_size : MethodName := ⟨"CanonMakerModel", "size", "()I"⟩
def y_Mo_solve : MethodName := ⟨"CanonMakerModel", "solve", "(I)I"⟩
def y_Mo_sounds : MethodName := ⟨"CanonMakerModel", "sounds", "(II)Z"⟩
def y_Mo_span : MethodName := ⟨"CanonMakerModel", "span", "(II)I"⟩
def y_Mo_steps : MethodName := ⟨"CanonMakerModel", "steps", "()I"⟩
def y_Mo_stepsAt : MethodName := ⟨"CanonMakerModel", "steps", "(II)I"⟩
def y_Mo_told : MethodName := ⟨"CanonMakerModel", "told", "(II)I"⟩
def y_Mo_voice : MethodName := ⟨"CanonMakerModel", "voice", "(IIIII)I"⟩
def y_Math_abs : MethodName := ⟨"java/lang/Math", "abs", "(I)I"⟩
def y_Math_floorMod : MethodName := ⟨"java/lang/Math", "floorMod", "(II)I"⟩
def y_Math_max : MethodName := ⟨"java/lang/Math", "max", "(II)I"⟩
def y_Math_min : MethodName := ⟨"java/lang/Math", "min", "(II)I"⟩
def y_Arrays_fill : MethodName := ⟨"java/util/Arrays", "fill", "([II)V"⟩
theorem wd_39 : Cond.initialized "CanonMakerLaw" ∈ wA := wA_at 39 (by decide +kernel) rfl
theorem wd_40 : Cond.initialized "CanonMaker" ∈ wA := wA_at 40 (by decide +kernel) rfl
theorem wd_41 : Cond.initialized "CanonMaker$Subject" ∈ wA := wA_at 41 (by decide +kernel) rfl
theorem wd_42 : Cond.initialized "CanonMaker$Bounds" ∈ wA := wA_at 42 (by decide +kernel) rfl
theorem wd_43 : Cond.initialized "CanonMaker$Score" ∈ wA := wA_at 43 (by decide +kernel) rfl
theorem wd_44 : Cond.initialized "CanonMaker$Line" ∈ wA := wA_at 44 (by decide +kernel) rfl
theorem wd_45 : Cond.initialized "CanonMaker$Judge" ∈ wA := wA_at 45 (by decide +kernel) rfl
theorem wd_46 : Cond.initialized "CanonMaker$Voice" ∈ wA := wA_at 46 (by decide +kernel) rfl
theorem wd_47 : Cond.initialized "CanonMakerModel" ∈ wA := wA_at 47 (by decide +kernel) rfl
theorem wd_48 : Cond.initialized "java/lang/Math" ∈ wA := wA_at 48 (by decide +kernel) rfl
theorem wd_49 : Cond.initialized "java/util/Arrays" ∈ wA := wA_at 49 (by decide +kernel) rfl
theorem wd_50 : Cond.classLink "CanonMakerLaw" 7 "CanonMaker" ∈ wA := wA_at 50 (by decide +kernel) rfl
theorem wd_51 : Cond.instantiable "CanonMaker" 11 ∈ wA := wA_at 51 (by decide +kernel) rfl
theorem wd_52 : Cond.methodLink "CanonMakerLaw" 9 y_CM_init ∈ wA := wA_at 52 (by decide +kernel) rfl
theorem wd_53 : Cond.instanceMethod y_CM_init ∈ wA := wA_at 53 (by decide +kernel) rfl
theorem wd_54 : Cond.code y_CM_init prog_1_method_1_code 2 none ∈ wA := wA_at 54 (by decide +kernel) rfl
theorem wd_55 : Cond.methodLink "CanonMaker" 3 objectInit ∈ wA := wA_at 55 (by decide +kernel) rfl
theorem wd_56 : Cond.instanceMethod objectInit ∈ wA := wA_at 56 (by decide +kernel) rfl
theorem wd_57 : Cond.code objectInit object_method_1_code 1 none ∈ wA := wA_at 57 (by decide +kernel) rfl
theorem wd_58 : Cond.classLink "CanonMaker" 9 "CanonMaker$Subject" ∈ wA := wA_at 58 (by decide +kernel) rfl
theorem wd_59 : Cond.instantiable "CanonMaker$Subject" 3 ∈ wA := wA_at 59 (by decide +kernel) rfl
theorem wd_61 : Cond.instanceMethod y_Subject_init ∈ wA := wA_at 61 (by decide +kernel) rfl
theorem wd_62 : Cond.code y_Subject_init prog_6_method_1_code 1 none ∈ wA := wA_at 62 (by decide +kernel) rfl
theorem wd_63 : Cond.methodLink "CanonMaker$Subject" 3 objectInit ∈ wA := wA_at 63 (by decide +kernel) rfl
theorem wd_64 : Cond.fieldLink "CanonMaker$Subject" 9 "CanonMaker$Subject" "pitches" "[I" ∈ wA := wA_at 64 (by decide +kernel) rfl
theorem wd_65 : Cond.fieldLink "CanonMaker" 65 "CanonMaker$Subject" "pitches" "[I" ∈ wA := wA_at 65 (by decide +kernel) rfl
theorem wd_66 : Cond.fieldLink "CanonMaker$Line" 77 "CanonMaker$Subject" "pitches" "[I" ∈ wA := wA_at 66 (by decide +kernel) rfl
theorem wd_67 : Cond.fieldLink "CanonMaker$Subject" 15 "CanonMaker$Subject" "lengths" "[I" ∈ wA := wA_at 67 (by decide +kernel) rfl
theorem wd_68 : Cond.fieldLink "CanonMaker" 68 "CanonMaker$Subject" "lengths" "[I" ∈ wA := wA_at 68 (by decide +kernel) rfl
theorem wd_69 : Cond.fieldLink "CanonMaker$Line" 61 "CanonMaker$Subject" "lengths" "[I" ∈ wA := wA_at 69 (by decide +kernel) rfl
theorem wd_70 : Cond.fieldLink "CanonMaker$Subject" 18 "CanonMaker$Subject" "count" "I" ∈ wA := wA_at 70 (by decide +kernel) rfl
theorem wd_71 : Cond.fieldLink "CanonMaker" 61 "CanonMaker$Subject" "count" "I" ∈ wA := wA_at 71 (by decide +kernel) rfl
theorem wd_72 : Cond.fieldLink "CanonMaker$Line" 52 "CanonMaker$Subject" "count" "I" ∈ wA := wA_at 72 (by decide +kernel) rfl
theorem wd_73 : Cond.laysFinal "CanonMaker$Subject" "CanonMaker$Subject" "pitches" "[I" ∈ wA := wA_at 73 (by decide +kernel) rfl
theorem wd_75 : Cond.laysFinal "CanonMaker$Subject" "CanonMaker$Subject" "lengths" "[I" ∈ wA := wA_at 75 (by decide +kernel) rfl
theorem wd_77 : Cond.lays "CanonMaker$Subject" "CanonMaker$Subject" "count" "I" ∈ wA := wA_at 77 (by decide +kernel) rfl
theorem wd_80 : Cond.arrayClass .int ∈ wA := wA_at 80 (by decide +kernel) rfl
theorem wd_81 : Cond.classLink "CanonMaker" 16 "CanonMaker$Voice" ∈ wA := wA_at 81 (by decide +kernel) rfl
theorem wd_83 : Cond.classLink "CanonMaker" 22 "CanonMaker$Bounds" ∈ wA := wA_at 83 (by decide +kernel) rfl
theorem wd_84 : Cond.instantiable "CanonMaker$Bounds" 5 ∈ wA := wA_at 84 (by decide +kernel) rfl
theorem wd_86 : Cond.instanceMethod y_Bounds_init ∈ wA := wA_at 86 (by decide +kernel) rfl
theorem wd_87 : Cond.code y_Bounds_init prog_2_method_1_code 1 none ∈ wA := wA_at 87 (by decide +kernel) rfl
theorem wd_88 : Cond.methodLink "CanonMaker$Bounds" 3 objectInit ∈ wA := wA_at 88 (by decide +kernel) rfl
theorem wd_89 : Cond.fieldLink "CanonMaker$Judge" 123 "CanonMaker$Bounds" "low" "I" ∈ wA := wA_at 89 (by decide +kernel) rfl
theorem wd_90 : Cond.fieldLink "CanonMaker" 93 "CanonMaker$Bounds" "low" "I" ∈ wA := wA_at 90 (by decide +kernel) rfl
theorem wd_91 : Cond.fieldLink "CanonMaker$Bounds" 9 "CanonMaker$Bounds" "high" "I" ∈ wA := wA_at 91 (by decide +kernel) rfl
theorem wd_92 : Cond.fieldLink "CanonMaker$Judge" 126 "CanonMaker$Bounds" "high" "I" ∈ wA := wA_at 92 (by decide +kernel) rfl
theorem wd_93 : Cond.fieldLink "CanonMaker" 96 "CanonMaker$Bounds" "high" "I" ∈ wA := wA_at 93 (by decide +kernel) rfl
theorem wd_94 : Cond.fieldLink "CanonMaker$Bounds" 15 "CanonMaker$Bounds" "scaleMask" "I" ∈ wA := wA_at 94 (by decide +kernel) rfl
theorem wd_95 : Cond.fieldLink "CanonMaker$Judge" 129 "CanonMaker$Bounds" "scaleMask" "I" ∈ wA := wA_at 95 (by decide +kernel) rfl
theorem wd_96 : Cond.fieldLink "CanonMaker" 99 "CanonMaker$Bounds" "scaleMask" "I" ∈ wA := wA_at 96 (by decide +kernel) rfl
theorem wd_97 : Cond.fieldLink "CanonMaker$Bounds" 18 "CanonMaker$Bounds" "beatLength" "I" ∈ wA := wA_at 97 (by decide +kernel) rfl
theorem wd_98 : Cond.fieldLink "CanonMaker$Judge" 164 "CanonMaker$Bounds" "beatLength" "I" ∈ wA := wA_at 98 (by decide +kernel) rfl
theorem wd_99 : Cond.fieldLink "CanonMaker" 102 "CanonMaker$Bounds" "beatLength" "I" ∈ wA := wA_at 99 (by decide +kernel) rfl
theorem wd_100 : Cond.fieldLink "CanonMaker$Judge" 43 "CanonMaker$Bounds" "ruleMask" "I" ∈ wA := wA_at 100 (by decide +kernel) rfl
theorem wd_101 : Cond.fieldLink "CanonMaker" 108 "CanonMaker$Bounds" "ruleMask" "I" ∈ wA := wA_at 101 (by decide +kernel) rfl
theorem wd_102 : Cond.lays "CanonMaker$Bounds" "CanonMaker$Bounds" "low" "I" ∈ wA := wA_at 102 (by decide +kernel) rfl
theorem wd_104 : Cond.lays "CanonMaker$Bounds" "CanonMaker$Bounds" "high" "I" ∈ wA := wA_at 104 (by decide +kernel) rfl
theorem wd_106 : Cond.lays "CanonMaker$Bounds" "CanonMaker$Bounds" "scaleMask" "I" ∈ wA := wA_at 106 (by decide +kernel) rfl
theorem wd_108 : Cond.lays "CanonMaker$Bounds" "CanonMaker$Bounds" "beatLength" "I" ∈ wA := wA_at 108 (by decide +kernel) rfl
theorem wd_110 : Cond.lays "CanonMaker$Bounds" "CanonMaker$Bounds" "ruleMask" "I" ∈ wA := wA_at 110 (by decide +kernel) rfl
theorem wd_113 : Cond.classLink "CanonMaker" 29 "CanonMaker$Score" ∈ wA := wA_at 113 (by decide +kernel) rfl
theorem wd_114 : Cond.instantiable "CanonMaker$Score" 6 ∈ wA := wA_at 114 (by decide +kernel) rfl
theorem wd_115 : Cond.methodLink "CanonMaker" 31 y_Score_init ∈ wA := wA_at 115 (by decide +kernel) rfl
theorem wd_116 : Cond.instanceMethod y_Score_init ∈ wA := wA_at 116 (by decide +kernel) rfl
theorem wd_117 : Cond.code y_Score_init prog_5_method_1_code 2 none ∈ wA := wA_at 117 (by decide +kernel) rfl
theorem wd_118 : Cond.methodLink "CanonMaker$Score" 3 objectInit ∈ wA := wA_at 118 (by decide +kernel) rfl
theorem wd_119 : Cond.classLink "CanonMaker$Score" 9 "CanonMaker$Line" ∈ wA := wA_at 119 (by decide +kernel) rfl
theorem wd_121 : Cond.instantiable "CanonMaker$Line" 12 ∈ wA := wA_at 121 (by decide +kernel) rfl
theorem wd_123 : Cond.instanceMethod y_Line_init ∈ wA := wA_at 123 (by decide +kernel) rfl
theorem wd_124 : Cond.code y_Line_init prog_4_method_1_code 1 none ∈ wA := wA_at 124 (by decide +kernel) rfl
theorem wd_125 : Cond.methodLink "CanonMaker$Line" 3 objectInit ∈ wA := wA_at 125 (by decide +kernel) rfl
theorem wd_126 : Cond.fieldLink "CanonMaker$Line" 9 "CanonMaker$Line" "notes" "[I" ∈ wA := wA_at 126 (by decide +kernel) rfl
theorem wd_127 : Cond.fieldLink "CanonMaker$Score" 62 "CanonMaker$Line" "notes" "[I" ∈ wA := wA_at 127 (by decide +kernel) rfl
theorem wd_128 : Cond.fieldLink "CanonMaker$Line" 15 "CanonMaker$Line" "begins" "[I" ∈ wA := wA_at 128 (by decide +kernel) rfl
theorem wd_129 : Cond.fieldLink "CanonMaker$Line" 18 "CanonMaker$Line" "pitches" "[I" ∈ wA := wA_at 129 (by decide +kernel) rfl
theorem wd_130 : Cond.fieldLink "CanonMaker$Score" 44 "CanonMaker$Line" "pitches" "[I" ∈ wA := wA_at 130 (by decide +kernel) rfl
theorem wd_131 : Cond.fieldLink "CanonMaker$Judge" 88 "CanonMaker$Line" "pitches" "[I" ∈ wA := wA_at 131 (by decide +kernel) rfl
theorem wd_132 : Cond.fieldLink "CanonMaker" 132 "CanonMaker$Line" "pitches" "[I" ∈ wA := wA_at 132 (by decide +kernel) rfl
theorem wd_133 : Cond.fieldLink "CanonMaker$Line" 21 "CanonMaker$Line" "before" "[I" ∈ wA := wA_at 133 (by decide +kernel) rfl
theorem wd_134 : Cond.fieldLink "CanonMaker$Judge" 93 "CanonMaker$Line" "before" "[I" ∈ wA := wA_at 134 (by decide +kernel) rfl
theorem wd_135 : Cond.fieldLink "CanonMaker$Score" 65 "CanonMaker$Line" "before" "[I" ∈ wA := wA_at 135 (by decide +kernel) rfl
theorem wd_136 : Cond.fieldLink "CanonMaker$Line" 24 "CanonMaker$Line" "behind" "[I" ∈ wA := wA_at 136 (by decide +kernel) rfl
theorem wd_137 : Cond.fieldLink "CanonMaker$Judge" 96 "CanonMaker$Line" "behind" "[I" ∈ wA := wA_at 137 (by decide +kernel) rfl
theorem wd_138 : Cond.fieldLink "CanonMaker$Score" 68 "CanonMaker$Line" "behind" "[I" ∈ wA := wA_at 138 (by decide +kernel) rfl
theorem wd_139 : Cond.fieldLink "CanonMaker$Line" 57 "CanonMaker$Line" "count" "I" ∈ wA := wA_at 139 (by decide +kernel) rfl
theorem wd_140 : Cond.fieldLink "CanonMaker$Score" 43 "CanonMaker$Line" "count" "I" ∈ wA := wA_at 140 (by decide +kernel) rfl
theorem wd_141 : Cond.fieldLink "CanonMaker$Line" 58 "CanonMaker$Line" "units" "I" ∈ wA := wA_at 141 (by decide +kernel) rfl
theorem wd_142 : Cond.fieldLink "CanonMaker$Line" 49 "CanonMaker$Line" "cycle" "I" ∈ wA := wA_at 142 (by decide +kernel) rfl
theorem wd_143 : Cond.fieldLink "CanonMaker$Line" 44 "CanonMaker$Line" "delay" "I" ∈ wA := wA_at 143 (by decide +kernel) rfl
theorem wd_144 : Cond.fieldLink "CanonMaker" 209 "CanonMaker$Line" "delay" "I" ∈ wA := wA_at 144 (by decide +kernel) rfl
theorem wd_145 : Cond.fieldLink "CanonMaker$Line" 48 "CanonMaker$Line" "interval" "I" ∈ wA := wA_at 145 (by decide +kernel) rfl
theorem wd_146 : Cond.fieldLink "CanonMaker" 210 "CanonMaker$Line" "interval" "I" ∈ wA := wA_at 146 (by decide +kernel) rfl
theorem wd_147 : Cond.fieldLink "CanonMaker$Score" 31 "CanonMaker$Line" "on" "Z" ∈ wA := wA_at 147 (by decide +kernel) rfl
theorem wd_148 : Cond.fieldLink "CanonMaker$Line" 37 "CanonMaker$Line" "on" "Z" ∈ wA := wA_at 148 (by decide +kernel) rfl
theorem wd_149 : Cond.fieldLink "CanonMaker" 205 "CanonMaker$Line" "on" "Z" ∈ wA := wA_at 149 (by decide +kernel) rfl
theorem wd_150 : Cond.fieldLink "CanonMaker$Line" 38 "CanonMaker$Line" "inverted" "Z" ∈ wA := wA_at 150 (by decide +kernel) rfl
theorem wd_151 : Cond.fieldLink "CanonMaker$Score" 71 "CanonMaker$Line" "inverted" "Z" ∈ wA := wA_at 151 (by decide +kernel) rfl
theorem wd_152 : Cond.laysFinal "CanonMaker$Line" "CanonMaker$Line" "notes" "[I" ∈ wA := wA_at 152 (by decide +kernel) rfl
theorem wd_154 : Cond.laysFinal "CanonMaker$Line" "CanonMaker$Line" "begins" "[I" ∈ wA := wA_at 154 (by decide +kernel) rfl
theorem wd_156 : Cond.laysFinal "CanonMaker$Line" "CanonMaker$Line" "pitches" "[I" ∈ wA := wA_at 156 (by decide +kernel) rfl
theorem wd_158 : Cond.laysFinal "CanonMaker$Line" "CanonMaker$Line" "before" "[I" ∈ wA := wA_at 158 (by decide +kernel) rfl
theorem wd_160 : Cond.laysFinal "CanonMaker$Line" "CanonMaker$Line" "behind" "[I" ∈ wA := wA_at 160 (by decide +kernel) rfl
theorem wd_162 : Cond.lays "CanonMaker$Line" "CanonMaker$Line" "count" "I" ∈ wA := wA_at 162 (by decide +kernel) rfl
theorem wd_164 : Cond.lays "CanonMaker$Line" "CanonMaker$Line" "units" "I" ∈ wA := wA_at 164 (by decide +kernel) rfl
theorem wd_166 : Cond.lays "CanonMaker$Line" "CanonMaker$Line" "cycle" "I" ∈ wA := wA_at 166 (by decide +kernel) rfl
theorem wd_168 : Cond.lays "CanonMaker$Line" "CanonMaker$Line" "delay" "I" ∈ wA := wA_at 168 (by decide +kernel) rfl
theorem wd_170 : Cond.lays "CanonMaker$Line" "CanonMaker$Line" "interval" "I" ∈ wA := wA_at 170 (by decide +kernel) rfl
theorem wd_172 : Cond.lays "CanonMaker$Line" "CanonMaker$Line" "on" "Z" ∈ wA := wA_at 172 (by decide +kernel) rfl
theorem wd_174 : Cond.lays "CanonMaker$Line" "CanonMaker$Line" "inverted" "Z" ∈ wA := wA_at 174 (by decide +kernel) rfl
theorem wd_177 : Cond.fieldLink "CanonMaker$Score" 11 "CanonMaker$Score" "lines" "[LCanonMaker$Line;" ∈ wA := wA_at 177 (by decide +kernel) rfl
theorem wd_178 : Cond.fieldLink "CanonMaker$Judge" 81 "CanonMaker$Score" "lines" "[LCanonMaker$Line;" ∈ wA := wA_at 178 (by decide +kernel) rfl
theorem wd_179 : Cond.fieldLink "CanonMaker" 114 "CanonMaker$Score" "lines" "[LCanonMaker$Line;" ∈ wA := wA_at 179 (by decide +kernel) rfl
theorem wd_180 : Cond.fieldLink "CanonMaker$Score" 17 "CanonMaker$Score" "moments" "[I" ∈ wA := wA_at 180 (by decide +kernel) rfl
theorem wd_181 : Cond.fieldLink "CanonMaker$Judge" 69 "CanonMaker$Score" "moments" "[I" ∈ wA := wA_at 181 (by decide +kernel) rfl
theorem wd_182 : Cond.fieldLink "CanonMaker$Score" 21 "CanonMaker$Score" "touched" "[I" ∈ wA := wA_at 182 (by decide +kernel) rfl
theorem wd_183 : Cond.fieldLink "CanonMaker$Judge" 53 "CanonMaker$Score" "touched" "[I" ∈ wA := wA_at 183 (by decide +kernel) rfl
theorem wd_184 : Cond.fieldLink "CanonMaker$Score" 24 "CanonMaker$Score" "places" "[I" ∈ wA := wA_at 184 (by decide +kernel) rfl
theorem wd_185 : Cond.fieldLink "CanonMaker$Judge" 78 "CanonMaker$Score" "places" "[I" ∈ wA := wA_at 185 (by decide +kernel) rfl
theorem wd_186 : Cond.fieldLink "CanonMaker$Score" 27 "CanonMaker$Score" "strikes" "[I" ∈ wA := wA_at 186 (by decide +kernel) rfl
theorem wd_187 : Cond.fieldLink "CanonMaker$Judge" 85 "CanonMaker$Score" "strikes" "[I" ∈ wA := wA_at 187 (by decide +kernel) rfl
theorem wd_188 : Cond.fieldLink "CanonMaker$Judge" 48 "CanonMaker$Score" "count" "I" ∈ wA := wA_at 188 (by decide +kernel) rfl
theorem wd_189 : Cond.fieldLink "CanonMaker$Score" 39 "CanonMaker$Score" "count" "I" ∈ wA := wA_at 189 (by decide +kernel) rfl
theorem wd_190 : Cond.laysFinal "CanonMaker$Score" "CanonMaker$Score" "lines" "[LCanonMaker$Line;" ∈ wA := wA_at 190 (by decide +kernel) rfl
theorem wd_192 : Cond.laysFinal "CanonMaker$Score" "CanonMaker$Score" "moments" "[I" ∈ wA := wA_at 192 (by decide +kernel) rfl
theorem wd_194 : Cond.laysFinal "CanonMaker$Score" "CanonMaker$Score" "touched" "[I" ∈ wA := wA_at 194 (by decide +kernel) rfl
theorem wd_196 : Cond.laysFinal "CanonMaker$Score" "CanonMaker$Score" "places" "[I" ∈ wA := wA_at 196 (by decide +kernel) rfl
theorem wd_198 : Cond.laysFinal "CanonMaker$Score" "CanonMaker$Score" "strikes" "[I" ∈ wA := wA_at 198 (by decide +kernel) rfl
theorem wd_200 : Cond.lays "CanonMaker$Score" "CanonMaker$Score" "count" "I" ∈ wA := wA_at 200 (by decide +kernel) rfl
theorem wd_203 : Cond.classLink "CanonMaker" 36 "CanonMaker$Judge" ∈ wA := wA_at 203 (by decide +kernel) rfl
theorem wd_204 : Cond.instantiable "CanonMaker$Judge" 15 ∈ wA := wA_at 204 (by decide +kernel) rfl
theorem wd_205 : Cond.methodLink "CanonMaker" 38 y_Judge_init ∈ wA := wA_at 205 (by decide +kernel) rfl
theorem wd_206 : Cond.instanceMethod y_Judge_init ∈ wA := wA_at 206 (by decide +kernel) rfl
theorem wd_207 : Cond.code y_Judge_init prog_3_method_1_code 3 none ∈ wA := wA_at 207 (by decide +kernel) rfl
theorem wd_208 : Cond.methodLink "CanonMaker$Judge" 3 objectInit ∈ wA := wA_at 208 (by decide +kernel) rfl
theorem wd_209 : Cond.fieldLink "CanonMaker$Judge" 28 "CanonMaker$Judge" "score" "LCanonMaker$Score;" ∈ wA := wA_at 209 (by decide +kernel) rfl
theorem wd_210 : Cond.fieldLink "CanonMaker$Judge" 32 "CanonMaker$Judge" "bounds" "LCanonMaker$Bounds;" ∈ wA := wA_at 210 (by decide +kernel) rfl
theorem wd_211 : Cond.fieldLink "CanonMaker$Judge" 9 "CanonMaker$Judge" "present" "[I" ∈ wA := wA_at 211 (by decide +kernel) rfl
theorem wd_212 : Cond.fieldLink "CanonMaker$Judge" 15 "CanonMaker$Judge" "struck" "[Z" ∈ wA := wA_at 212 (by decide +kernel) rfl
theorem wd_213 : Cond.fieldLink "CanonMaker$Judge" 19 "CanonMaker$Judge" "now" "[I" ∈ wA := wA_at 213 (by decide +kernel) rfl
theorem wd_214 : Cond.fieldLink "CanonMaker$Judge" 22 "CanonMaker$Judge" "old" "[I" ∈ wA := wA_at 214 (by decide +kernel) rfl
theorem wd_215 : Cond.fieldLink "CanonMaker$Judge" 25 "CanonMaker$Judge" "next" "[I" ∈ wA := wA_at 215 (by decide +kernel) rfl
theorem wd_216 : Cond.fieldLink "CanonMaker$Judge" 75 "CanonMaker$Judge" "presentCount" "I" ∈ wA := wA_at 216 (by decide +kernel) rfl
theorem wd_217 : Cond.fieldLink "CanonMaker$Judge" 72 "CanonMaker$Judge" "time" "I" ∈ wA := wA_at 217 (by decide +kernel) rfl
theorem wd_218 : Cond.fieldLink "CanonMaker$Judge" 36 "CanonMaker$Judge" "found" "I" ∈ wA := wA_at 218 (by decide +kernel) rfl
theorem wd_219 : Cond.fieldLink "CanonMaker$Judge" 40 "CanonMaker$Judge" "sought" "I" ∈ wA := wA_at 219 (by decide +kernel) rfl
theorem wd_220 : Cond.fieldLink "CanonMaker$Judge" 111 "CanonMaker$Judge" "soughtTime" "I" ∈ wA := wA_at 220 (by decide +kernel) rfl
theorem wd_221 : Cond.fieldLink "CanonMaker" 145 "CanonMaker$Judge" "soughtTime" "I" ∈ wA := wA_at 221 (by decide +kernel) rfl
theorem wd_222 : Cond.fieldLink "CanonMaker$Judge" 114 "CanonMaker$Judge" "soughtRule" "I" ∈ wA := wA_at 222 (by decide +kernel) rfl
theorem wd_223 : Cond.fieldLink "CanonMaker" 148 "CanonMaker$Judge" "soughtRule" "I" ∈ wA := wA_at 223 (by decide +kernel) rfl
theorem wd_224 : Cond.fieldLink "CanonMaker$Judge" 117 "CanonMaker$Judge" "soughtA" "I" ∈ wA := wA_at 224 (by decide +kernel) rfl
theorem wd_225 : Cond.fieldLink "CanonMaker" 151 "CanonMaker$Judge" "soughtA" "I" ∈ wA := wA_at 225 (by decide +kernel) rfl
theorem wd_226 : Cond.fieldLink "CanonMaker$Judge" 120 "CanonMaker$Judge" "soughtB" "I" ∈ wA := wA_at 226 (by decide +kernel) rfl
theorem wd_227 : Cond.fieldLink "CanonMaker" 154 "CanonMaker$Judge" "soughtB" "I" ∈ wA := wA_at 227 (by decide +kernel) rfl
theorem wd_228 : Cond.laysFinal "CanonMaker$Judge" "CanonMaker$Judge" "score" "LCanonMaker$Score;" ∈ wA := wA_at 228 (by decide +kernel) rfl
theorem wd_230 : Cond.laysFinal "CanonMaker$Judge" "CanonMaker$Judge" "bounds" "LCanonMaker$Bounds;" ∈ wA := wA_at 230 (by decide +kernel) rfl
theorem wd_232 : Cond.laysFinal "CanonMaker$Judge" "CanonMaker$Judge" "present" "[I" ∈ wA := wA_at 232 (by decide +kernel) rfl
theorem wd_234 : Cond.laysFinal "CanonMaker$Judge" "CanonMaker$Judge" "struck" "[Z" ∈ wA := wA_at 234 (by decide +kernel) rfl
theorem wd_236 : Cond.laysFinal "CanonMaker$Judge" "CanonMaker$Judge" "now" "[I" ∈ wA := wA_at 236 (by decide +kernel) rfl
theorem wd_238 : Cond.laysFinal "CanonMaker$Judge" "CanonMaker$Judge" "old" "[I" ∈ wA := wA_at 238 (by decide +kernel) rfl
theorem wd_240 : Cond.laysFinal "CanonMaker$Judge" "CanonMaker$Judge" "next" "[I" ∈ wA := wA_at 240 (by decide +kernel) rfl
theorem wd_242 : Cond.lays "CanonMaker$Judge" "CanonMaker$Judge" "presentCount" "I" ∈ wA := wA_at 242 (by decide +kernel) rfl
theorem wd_244 : Cond.lays "CanonMaker$Judge" "CanonMaker$Judge" "time" "I" ∈ wA := wA_at 244 (by decide +kernel) rfl
theorem wd_246 : Cond.lays "CanonMaker$Judge" "CanonMaker$Judge" "found" "I" ∈ wA := wA_at 246 (by decide +kernel) rfl
theorem wd_248 : Cond.lays "CanonMaker$Judge" "CanonMaker$Judge" "sought" "I" ∈ wA := wA_at 248 (by decide +kernel) rfl
theorem wd_250 : Cond.lays "CanonMaker$Judge" "CanonMaker$Judge" "soughtTime" "I" ∈ wA := wA_at 250 (by decide +kernel) rfl
theorem wd_252 : Cond.lays "CanonMaker$Judge" "CanonMaker$Judge" "soughtRule" "I" ∈ wA := wA_at 252 (by decide +kernel) rfl
theorem wd_254 : Cond.lays "CanonMaker$Judge" "CanonMaker$Judge" "soughtA" "I" ∈ wA := wA_at 254 (by decide +kernel) rfl
theorem wd_256 : Cond.lays "CanonMaker$Judge" "CanonMaker$Judge" "soughtB" "I" ∈ wA := wA_at 256 (by decide +kernel) rfl
theorem wd_259 : Cond.arrayClass .boolean ∈ wA := wA_at 259 (by decide +kernel) rfl
theorem wd_260 : Cond.instantiable "CanonMaker$Voice" 5 ∈ wA := wA_at 260 (by decide +kernel) rfl
theorem wd_262 : Cond.instanceMethod y_Voice_init ∈ wA := wA_at 262 (by decide +kernel) rfl
theorem wd_263 : Cond.code y_Voice_init prog_7_method_1_code 1 none ∈ wA := wA_at 263 (by decide +kernel) rfl
theorem wd_264 : Cond.methodLink "CanonMaker$Voice" 1 objectInit ∈ wA := wA_at 264 (by decide +kernel) rfl
theorem wd_265 : Cond.fieldLink "CanonMaker" 53 "CanonMaker$Voice" "on" "Z" ∈ wA := wA_at 265 (by decide +kernel) rfl
theorem wd_266 : Cond.fieldLink "CanonMaker$Line" 33 "CanonMaker$Voice" "on" "Z" ∈ wA := wA_at 266 (by decide +kernel) rfl
theorem wd_267 : Cond.fieldLink "CanonMaker$Line" 41 "CanonMaker$Voice" "delay" "I" ∈ wA := wA_at 267 (by decide +kernel) rfl
theorem wd_268 : Cond.fieldLink "CanonMaker" 81 "CanonMaker$Voice" "delay" "I" ∈ wA := wA_at 268 (by decide +kernel) rfl
theorem wd_269 : Cond.fieldLink "CanonMaker$Line" 45 "CanonMaker$Voice" "interval" "I" ∈ wA := wA_at 269 (by decide +kernel) rfl
theorem wd_270 : Cond.fieldLink "CanonMaker" 84 "CanonMaker$Voice" "interval" "I" ∈ wA := wA_at 270 (by decide +kernel) rfl
theorem wd_271 : Cond.fieldLink "CanonMaker$Line" 27 "CanonMaker$Voice" "mode" "I" ∈ wA := wA_at 271 (by decide +kernel) rfl
theorem wd_272 : Cond.fieldLink "CanonMaker" 87 "CanonMaker$Voice" "mode" "I" ∈ wA := wA_at 272 (by decide +kernel) rfl
theorem wd_273 : Cond.fieldLink "CanonMaker$Voice" 7 "CanonMaker$Voice" "factor" "I" ∈ wA := wA_at 273 (by decide +kernel) rfl
theorem wd_274 : Cond.fieldLink "CanonMaker$Line" 64 "CanonMaker$Voice" "factor" "I" ∈ wA := wA_at 274 (by decide +kernel) rfl
theorem wd_275 : Cond.fieldLink "CanonMaker" 90 "CanonMaker$Voice" "factor" "I" ∈ wA := wA_at 275 (by decide +kernel) rfl
theorem wd_276 : Cond.lays "CanonMaker$Voice" "CanonMaker$Voice" "on" "Z" ∈ wA := wA_at 276 (by decide +kernel) rfl
theorem wd_278 : Cond.lays "CanonMaker$Voice" "CanonMaker$Voice" "delay" "I" ∈ wA := wA_at 278 (by decide +kernel) rfl
theorem wd_280 : Cond.lays "CanonMaker$Voice" "CanonMaker$Voice" "interval" "I" ∈ wA := wA_at 280 (by decide +kernel) rfl
theorem wd_282 : Cond.lays "CanonMaker$Voice" "CanonMaker$Voice" "mode" "I" ∈ wA := wA_at 282 (by decide +kernel) rfl
theorem wd_284 : Cond.lays "CanonMaker$Voice" "CanonMaker$Voice" "factor" "I" ∈ wA := wA_at 284 (by decide +kernel) rfl
theorem wd_287 : Cond.fieldLink "CanonMaker" 12 "CanonMaker" "subject" "LCanonMaker$Subject;" ∈ wA := wA_at 287 (by decide +kernel) rfl
theorem wd_288 : Cond.fieldLink "CanonMaker" 18 "CanonMaker" "voices" "[LCanonMaker$Voice;" ∈ wA := wA_at 288 (by decide +kernel) rfl
theorem wd_289 : Cond.fieldLink "CanonMaker" 25 "CanonMaker" "bounds" "LCanonMaker$Bounds;" ∈ wA := wA_at 289 (by decide +kernel) rfl
theorem wd_290 : Cond.fieldLink "CanonMaker" 32 "CanonMaker" "score" "LCanonMaker$Score;" ∈ wA := wA_at 290 (by decide +kernel) rfl
theorem wd_291 : Cond.fieldLink "CanonMaker" 41 "CanonMaker" "judge" "LCanonMaker$Judge;" ∈ wA := wA_at 291 (by decide +kernel) rfl
theorem wd_292 : Cond.fieldLink "CanonMaker" 45 "CanonMaker" "openNotes" "[I" ∈ wA := wA_at 292 (by decide +kernel) rfl
theorem wd_293 : Cond.fieldLink "CanonMaker" 49 "CanonMaker" "shiftsFound" "[I" ∈ wA := wA_at 293 (by decide +kernel) rfl
theorem wd_294 : Cond.fieldLink "CanonMaker" 105 "CanonMaker" "roundLength" "I" ∈ wA := wA_at 294 (by decide +kernel) rfl
theorem wd_295 : Cond.fieldLink "CanonMaker" 206 "CanonMaker" "openCount" "I" ∈ wA := wA_at 295 (by decide +kernel) rfl
theorem wd_296 : Cond.fieldLink "CanonMaker" 157 "CanonMaker" "stepsTried" "I" ∈ wA := wA_at 296 (by decide +kernel) rfl
theorem wd_297 : Cond.fieldLink "CanonMaker" 180 "CanonMaker" "shiftCount" "I" ∈ wA := wA_at 297 (by decide +kernel) rfl
theorem wd_298 : Cond.laysFinal "CanonMaker" "CanonMaker" "subject" "LCanonMaker$Subject;" ∈ wA := wA_at 298 (by decide +kernel) rfl
theorem wd_300 : Cond.laysFinal "CanonMaker" "CanonMaker" "voices" "[LCanonMaker$Voice;" ∈ wA := wA_at 300 (by decide +kernel) rfl
theorem wd_302 : Cond.laysFinal "CanonMaker" "CanonMaker" "bounds" "LCanonMaker$Bounds;" ∈ wA := wA_at 302 (by decide +kernel) rfl
theorem wd_304 : Cond.laysFinal "CanonMaker" "CanonMaker" "score" "LCanonMaker$Score;" ∈ wA := wA_at 304 (by decide +kernel) rfl
theorem wd_306 : Cond.laysFinal "CanonMaker" "CanonMaker" "judge" "LCanonMaker$Judge;" ∈ wA := wA_at 306 (by decide +kernel) rfl
theorem wd_308 : Cond.laysFinal "CanonMaker" "CanonMaker" "openNotes" "[I" ∈ wA := wA_at 308 (by decide +kernel) rfl
theorem wd_310 : Cond.laysFinal "CanonMaker" "CanonMaker" "shiftsFound" "[I" ∈ wA := wA_at 310 (by decide +kernel) rfl
theorem wd_312 : Cond.lays "CanonMaker" "CanonMaker" "roundLength" "I" ∈ wA := wA_at 312 (by decide +kernel) rfl
theorem wd_314 : Cond.lays "CanonMaker" "CanonMaker" "openCount" "I" ∈ wA := wA_at 314 (by decide +kernel) rfl
theorem wd_316 : Cond.lays "CanonMaker" "CanonMaker" "stepsTried" "I" ∈ wA := wA_at 316 (by decide +kernel) rfl
theorem wd_318 : Cond.lays "CanonMaker" "CanonMaker" "shiftCount" "I" ∈ wA := wA_at 318 (by decide +kernel) rfl
theorem wd_321 : Cond.methodLink "CanonMakerLaw" 13 y_CM_note ∈ wA := wA_at 321 (by decide +kernel) rfl
theorem wd_322 : Cond.instanceMethod y_CM_note ∈ wA := wA_at 322 (by decide +kernel) rfl
theorem wd_323 : Cond.selects "CanonMaker" y_CM_note y_CM_note ∈ wA := wA_at 323 (by decide +kernel) rfl
theorem wd_324 : Cond.code y_CM_note prog_1_method_2_code 4 (some .int) ∈ wA := wA_at 324 (by decide +kernel) rfl
theorem wd_325 : Cond.methodLink "CanonMaker" 57 y_CM_isPitch ∈ wA := wA_at 325 (by decide +kernel) rfl
theorem wd_326 : Cond.static y_CM_isPitch ∈ wA := wA_at 326 (by decide +kernel) rfl
theorem wd_327 : Cond.code y_CM_isPitch prog_1_method_22_code 1 (some .boolean) ∈ wA := wA_at 327 (by decide +kernel) rfl
theorem wd_328 : Cond.methodLink "CanonMakerLaw" 18 y_CM_pitch ∈ wA := wA_at 328 (by decide +kernel) rfl
theorem wd_329 : Cond.instanceMethod y_CM_pitch ∈ wA := wA_at 329 (by decide +kernel) rfl
theorem wd_330 : Cond.selects "CanonMaker" y_CM_pitch y_CM_pitch ∈ wA := wA_at 330 (by decide +kernel) rfl
theorem wd_331 : Cond.code y_CM_pitch prog_1_method_3_code 4 (some .int) ∈ wA := wA_at 331 (by decide +kernel) rfl
theorem wd_332 : Cond.methodLink "CanonMaker" 71 y_Subject_has ∈ wA := wA_at 332 (by decide +kernel) rfl
theorem wd_333 : Cond.instanceMethod y_Subject_has ∈ wA := wA_at 333 (by decide +kernel) rfl
theorem wd_334 : Cond.selects "CanonMaker$Subject" y_Subject_has y_Subject_has ∈ wA := wA_at 334 (by decide +kernel) rfl
theorem wd_335 : Cond.code y_Subject_has prog_6_method_2_code 2 (some .boolean) ∈ wA := wA_at 335 (by decide +kernel) rfl
theorem wd_336 : Cond.methodLink "CanonMakerLaw" 22 y_CM_told ∈ wA := wA_at 336 (by decide +kernel) rfl
theorem wd_337 : Cond.instanceMethod y_CM_told ∈ wA := wA_at 337 (by decide +kernel) rfl
theorem wd_338 : Cond.selects "CanonMaker" y_CM_told y_CM_told ∈ wA := wA_at 338 (by decide +kernel) rfl
theorem wd_339 : Cond.code y_CM_told prog_1_method_4_code 3 (some .int) ∈ wA := wA_at 339 (by decide +kernel) rfl
theorem wd_340 : Cond.methodLink "CanonMakerLaw" 26 y_CM_cut ∈ wA := wA_at 340 (by decide +kernel) rfl
theorem wd_341 : Cond.instanceMethod y_CM_cut ∈ wA := wA_at 341 (by decide +kernel) rfl
theorem wd_342 : Cond.selects "CanonMaker" y_CM_cut y_CM_cut ∈ wA := wA_at 342 (by decide +kernel) rfl
theorem wd_343 : Cond.code y_CM_cut prog_1_method_5_code 3 (some .int) ∈ wA := wA_at 343 (by decide +kernel) rfl
theorem wd_344 : Cond.methodLink "CanonMakerLaw" 31 y_CM_size ∈ wA := wA_at 344 (by decide +kernel) rfl
theorem wd_345 : Cond.instanceMethod y_CM_size ∈ wA := wA_at 345 (by decide +kernel) rfl
theorem wd_346 : Cond.selects "CanonMaker" y_CM_size y_CM_size ∈ wA := wA_at 346 (by decide +kernel) rfl
theorem wd_347 : Cond.code y_CM_size prog_1_method_6_code 1 (some .int) ∈ wA := wA_at 347 (by decide +kernel) rfl
theorem wd_348 : Cond.methodLink "CanonMaker" 74 y_Subject_units ∈ wA := wA_at 348 (by decide +kernel) rfl
theorem wd_349 : Cond.instanceMethod y_Subject_units ∈ wA := wA_at 349 (by decide +kernel) rfl
theorem wd_350 : Cond.selects "CanonMaker$Subject" y_Subject_units y_Subject_units ∈ wA := wA_at 350 (by decide +kernel) rfl
theorem wd_351 : Cond.code y_Subject_units prog_6_method_3_code 3 (some .int) ∈ wA := wA_at 351 (by decide +kernel) rfl
theorem wd_352 : Cond.methodLink "CanonMakerLaw" 36 y_CM_voice ∈ wA := wA_at 352 (by decide +kernel) rfl
theorem wd_353 : Cond.instanceMethod y_CM_voice ∈ wA := wA_at 353 (by decide +kernel) rfl
theorem wd_354 : Cond.selects "CanonMaker" y_CM_voice y_CM_voice ∈ wA := wA_at 354 (by decide +kernel) rfl
theorem wd_355 : Cond.code y_CM_voice prog_1_method_7_code 7 (some .int) ∈ wA := wA_at 355 (by decide +kernel) rfl
theorem wd_356 : Cond.methodLink "CanonMaker" 78 y_CM_isFollower ∈ wA := wA_at 356 (by decide +kernel) rfl
theorem wd_357 : Cond.static y_CM_isFollower ∈ wA := wA_at 357 (by decide +kernel) rfl
theorem wd_358 : Cond.code y_CM_isFollower prog_1_method_23_code 1 (some .boolean) ∈ wA := wA_at 358 (by decide +kernel) rfl
theorem wd_359 : Cond.methodLink "CanonMakerLaw" 41 y_CM_off ∈ wA := wA_at 359 (by decide +kernel) rfl
theorem wd_360 : Cond.instanceMethod y_CM_off ∈ wA := wA_at 360 (by decide +kernel) rfl
theorem wd_361 : Cond.selects "CanonMaker" y_CM_off y_CM_off ∈ wA := wA_at 361 (by decide +kernel) rfl
theorem wd_362 : Cond.code y_CM_off prog_1_method_8_code 3 (some .int) ∈ wA := wA_at 362 (by decide +kernel) rfl
theorem wd_363 : Cond.methodLink "CanonMakerLaw" 45 y_CM_span ∈ wA := wA_at 363 (by decide +kernel) rfl
theorem wd_364 : Cond.instanceMethod y_CM_span ∈ wA := wA_at 364 (by decide +kernel) rfl
theorem wd_365 : Cond.selects "CanonMaker" y_CM_span y_CM_span ∈ wA := wA_at 365 (by decide +kernel) rfl
theorem wd_366 : Cond.code y_CM_span prog_1_method_9_code 3 (some .int) ∈ wA := wA_at 366 (by decide +kernel) rfl
theorem wd_367 : Cond.methodLink "CanonMakerLaw" 49 y_CM_scale ∈ wA := wA_at 367 (by decide +kernel) rfl
theorem wd_368 : Cond.instanceMethod y_CM_scale ∈ wA := wA_at 368 (by decide +kernel) rfl
theorem wd_369 : Cond.selects "CanonMaker" y_CM_scale y_CM_scale ∈ wA := wA_at 369 (by decide +kernel) rfl
theorem wd_370 : Cond.code y_CM_scale prog_1_method_10_code 3 (some .int) ∈ wA := wA_at 370 (by decide +kernel) rfl
theorem wd_371 : Cond.methodLink "CanonMakerLaw" 53 y_CM_beat ∈ wA := wA_at 371 (by decide +kernel) rfl
theorem wd_372 : Cond.instanceMethod y_CM_beat ∈ wA := wA_at 372 (by decide +kernel) rfl
theorem wd_373 : Cond.selects "CanonMaker" y_CM_beat y_CM_beat ∈ wA := wA_at 373 (by decide +kernel) rfl
theorem wd_374 : Cond.code y_CM_beat prog_1_method_11_code 3 (some .int) ∈ wA := wA_at 374 (by decide +kernel) rfl
theorem wd_375 : Cond.methodLink "CanonMakerLaw" 57 y_CM_round ∈ wA := wA_at 375 (by decide +kernel) rfl
theorem wd_376 : Cond.instanceMethod y_CM_round ∈ wA := wA_at 376 (by decide +kernel) rfl
theorem wd_377 : Cond.selects "CanonMaker" y_CM_round y_CM_round ∈ wA := wA_at 377 (by decide +kernel) rfl
theorem wd_378 : Cond.code y_CM_round prog_1_method_12_code 3 (some .int) ∈ wA := wA_at 378 (by decide +kernel) rfl
theorem wd_379 : Cond.methodLink "CanonMakerLaw" 61 y_CM_rules ∈ wA := wA_at 379 (by decide +kernel) rfl
theorem wd_380 : Cond.instanceMethod y_CM_rules ∈ wA := wA_at 380 (by decide +kernel) rfl
theorem wd_381 : Cond.selects "CanonMaker" y_CM_rules y_CM_rules ∈ wA := wA_at 381 (by decide +kernel) rfl
theorem wd_382 : Cond.code y_CM_rules prog_1_method_13_code 3 (some .int) ∈ wA := wA_at 382 (by decide +kernel) rfl
theorem wd_383 : Cond.methodLink "CanonMakerLaw" 65 y_CM_end ∈ wA := wA_at 383 (by decide +kernel) rfl
theorem wd_384 : Cond.instanceMethod y_CM_end ∈ wA := wA_at 384 (by decide +kernel) rfl
theorem wd_385 : Cond.selects "CanonMaker" y_CM_end y_CM_end ∈ wA := wA_at 385 (by decide +kernel) rfl
theorem wd_386 : Cond.code y_CM_end prog_1_method_14_code 1 (some .int) ∈ wA := wA_at 386 (by decide +kernel) rfl
theorem wd_387 : Cond.methodLink "CanonMaker" 111 y_CM_countTimes ∈ wA := wA_at 387 (by decide +kernel) rfl
theorem wd_389 : Cond.instanceMethod y_CM_countTimes ∈ wA := wA_at 389 (by decide +kernel) rfl
theorem wd_390 : Cond.code y_CM_countTimes prog_1_method_24_code 4 (some .int) ∈ wA := wA_at 390 (by decide +kernel) rfl
theorem wd_391 : Cond.methodLink "CanonMaker" 192 y_Math_max ∈ wA := wA_at 391 (by decide +kernel) rfl
theorem wd_392 : Cond.static y_Math_max ∈ wA := wA_at 392 (by decide +kernel) rfl
theorem wd_393 : Cond.code y_Math_max prog_10_method_65_code 2 (some .int) ∈ wA := wA_at 393 (by decide +kernel) rfl
theorem wd_394 : Cond.methodLink "CanonMakerLaw" 69 y_CM_at ∈ wA := wA_at 394 (by decide +kernel) rfl
theorem wd_395 : Cond.instanceMethod y_CM_at ∈ wA := wA_at 395 (by decide +kernel) rfl
theorem wd_396 : Cond.selects "CanonMaker" y_CM_at y_CM_at ∈ wA := wA_at 396 (by decide +kernel) rfl
theorem wd_397 : Cond.code y_CM_at prog_1_method_15_code 5 (some .int) ∈ wA := wA_at 397 (by decide +kernel) rfl
theorem wd_398 : Cond.methodLink "CanonMaker" 118 y_Line_lay ∈ wA := wA_at 398 (by decide +kernel) rfl
theorem wd_399 : Cond.instanceMethod y_Line_lay ∈ wA := wA_at 399 (by decide +kernel) rfl
theorem wd_400 : Cond.selects "CanonMaker$Line" y_Line_lay y_Line_lay ∈ wA := wA_at 400 (by decide +kernel) rfl
theorem wd_401 : Cond.code y_Line_lay prog_4_method_2_code 6 none ∈ wA := wA_at 401 (by decide +kernel) rfl
theorem wd_402 : Cond.methodLink "CanonMaker$Line" 67 y_Line_joinNeighbours ∈ wA := wA_at 402 (by decide +kernel) rfl
theorem wd_404 : Cond.instanceMethod y_Line_joinNeighbours ∈ wA := wA_at 404 (by decide +kernel) rfl
theorem wd_405 : Cond.code y_Line_joinNeighbours prog_4_method_3_code 6 none ∈ wA := wA_at 405 (by decide +kernel) rfl
theorem wd_406 : Cond.methodLink "CanonMaker$Line" 71 y_Arrays_fill ∈ wA := wA_at 406 (by decide +kernel) rfl
theorem wd_407 : Cond.static y_Arrays_fill ∈ wA := wA_at 407 (by decide +kernel) rfl
theorem wd_408 : Cond.code y_Arrays_fill prog_11_method_103_code 4 none ∈ wA := wA_at 408 (by decide +kernel) rfl
theorem wd_409 : Cond.methodLink "CanonMaker" 124 y_Line_tune ∈ wA := wA_at 409 (by decide +kernel) rfl
theorem wd_410 : Cond.instanceMethod y_Line_tune ∈ wA := wA_at 410 (by decide +kernel) rfl
theorem wd_411 : Cond.selects "CanonMaker$Line" y_Line_tune y_Line_tune ∈ wA := wA_at 411 (by decide +kernel) rfl
theorem wd_412 : Cond.code y_Line_tune prog_4_method_4_code 6 none ∈ wA := wA_at 412 (by decide +kernel) rfl
theorem wd_413 : Cond.methodLink "CanonMaker$Line" 78 y_Subject_firstSounding ∈ wA := wA_at 413 (by decide +kernel) rfl
theorem wd_414 : Cond.instanceMethod y_Subject_firstSounding ∈ wA := wA_at 414 (by decide +kernel) rfl
theorem wd_415 : Cond.selects "CanonMaker$Subject" y_Subject_firstSounding y_Subject_firstSounding ∈ wA := wA_at 415 (by decide +kernel) rfl
theorem wd_416 : Cond.code y_Subject_firstSounding prog_6_method_5_code 2 (some .int) ∈ wA := wA_at 416 (by decide +kernel) rfl
theorem wd_417 : Cond.methodLink "CanonMaker" 128 y_Line_placeAt ∈ wA := wA_at 417 (by decide +kernel) rfl
theorem wd_418 : Cond.instanceMethod y_Line_placeAt ∈ wA := wA_at 418 (by decide +kernel) rfl
theorem wd_419 : Cond.selects "CanonMaker$Line" y_Line_placeAt y_Line_placeAt ∈ wA := wA_at 419 (by decide +kernel) rfl
theorem wd_420 : Cond.code y_Line_placeAt prog_4_method_6_code 5 (some .int) ∈ wA := wA_at 420 (by decide +kernel) rfl
theorem wd_421 : Cond.methodLink "CanonMaker$Line" 88 y_Line_sinceBegin ∈ wA := wA_at 421 (by decide +kernel) rfl
theorem wd_422 : Cond.instanceMethod y_Line_sinceBegin ∈ wA := wA_at 422 (by decide +kernel) rfl
theorem wd_423 : Cond.selects "CanonMaker$Line" y_Line_sinceBegin y_Line_sinceBegin ∈ wA := wA_at 423 (by decide +kernel) rfl
theorem wd_424 : Cond.code y_Line_sinceBegin prog_4_method_5_code 2 (some .int) ∈ wA := wA_at 424 (by decide +kernel) rfl
theorem wd_425 : Cond.methodLink "CanonMaker$Line" 82 y_Math_floorMod ∈ wA := wA_at 425 (by decide +kernel) rfl
theorem wd_426 : Cond.static y_Math_floorMod ∈ wA := wA_at 426 (by decide +kernel) rfl
theorem wd_427 : Cond.code y_Math_floorMod prog_10_method_50_code 3 (some .int) ∈ wA := wA_at 427 (by decide +kernel) rfl
theorem wd_428 : Cond.methodLink "CanonMakerLaw" 73 y_CM_faults ∈ wA := wA_at 428 (by decide +kernel) rfl
theorem wd_429 : Cond.instanceMethod y_CM_faults ∈ wA := wA_at 429 (by decide +kernel) rfl
theorem wd_430 : Cond.selects "CanonMaker" y_CM_faults y_CM_faults ∈ wA := wA_at 430 (by decide +kernel) rfl
theorem wd_431 : Cond.code y_CM_faults prog_1_method_16_code 1 (some .int) ∈ wA := wA_at 431 (by decide +kernel) rfl
theorem wd_432 : Cond.methodLink "CanonMaker" 133 y_CM_isAnyTooLong ∈ wA := wA_at 432 (by decide +kernel) rfl
theorem wd_434 : Cond.instanceMethod y_CM_isAnyTooLong ∈ wA := wA_at 434 (by decide +kernel) rfl
theorem wd_435 : Cond.code y_CM_isAnyTooLong prog_1_method_26_code 2 (some .boolean) ∈ wA := wA_at 435 (by decide +kernel) rfl
theorem wd_436 : Cond.methodLink "CanonMaker" 172 y_CM_isTooLong ∈ wA := wA_at 436 (by decide +kernel) rfl
theorem wd_438 : Cond.instanceMethod y_CM_isTooLong ∈ wA := wA_at 438 (by decide +kernel) rfl
theorem wd_439 : Cond.code y_CM_isTooLong prog_1_method_25_code 2 (some .boolean) ∈ wA := wA_at 439 (by decide +kernel) rfl
theorem wd_440 : Cond.methodLink "CanonMaker" 137 y_CM_layAll ∈ wA := wA_at 440 (by decide +kernel) rfl
theorem wd_442 : Cond.instanceMethod y_CM_layAll ∈ wA := wA_at 442 (by decide +kernel) rfl
theorem wd_443 : Cond.code y_CM_layAll prog_1_method_27_code 2 none ∈ wA := wA_at 443 (by decide +kernel) rfl
theorem wd_444 : Cond.methodLink "CanonMaker" 195 y_Score_tune ∈ wA := wA_at 444 (by decide +kernel) rfl
theorem wd_445 : Cond.instanceMethod y_Score_tune ∈ wA := wA_at 445 (by decide +kernel) rfl
theorem wd_446 : Cond.selects "CanonMaker$Score" y_Score_tune y_Score_tune ∈ wA := wA_at 446 (by decide +kernel) rfl
theorem wd_447 : Cond.code y_Score_tune prog_5_method_2_code 3 none ∈ wA := wA_at 447 (by decide +kernel) rfl
theorem wd_448 : Cond.methodLink "CanonMaker$Score" 35 y_Line_tune ∈ wA := wA_at 448 (by decide +kernel) rfl
theorem wd_449 : Cond.methodLink "CanonMaker" 196 y_Score_gatherMoments ∈ wA := wA_at 449 (by decide +kernel) rfl
theorem wd_450 : Cond.instanceMethod y_Score_gatherMoments ∈ wA := wA_at 450 (by decide +kernel) rfl
theorem wd_451 : Cond.selects "CanonMaker$Score" y_Score_gatherMoments y_Score_gatherMoments ∈ wA := wA_at 451 (by decide +kernel) rfl
theorem wd_452 : Cond.code y_Score_gatherMoments prog_5_method_3_code 4 none ∈ wA := wA_at 452 (by decide +kernel) rfl
theorem wd_453 : Cond.methodLink "CanonMaker$Score" 47 y_Line_timeOf ∈ wA := wA_at 453 (by decide +kernel) rfl
theorem wd_454 : Cond.instanceMethod y_Line_timeOf ∈ wA := wA_at 454 (by decide +kernel) rfl
theorem wd_455 : Cond.selects "CanonMaker$Line" y_Line_timeOf y_Line_timeOf ∈ wA := wA_at 455 (by decide +kernel) rfl
theorem wd_456 : Cond.code y_Line_timeOf prog_4_method_7_code 3 (some .int) ∈ wA := wA_at 456 (by decide +kernel) rfl
theorem wd_457 : Cond.methodLink "CanonMaker$Score" 51 y_Score_keepMoment ∈ wA := wA_at 457 (by decide +kernel) rfl
theorem wd_459 : Cond.instanceMethod y_Score_keepMoment ∈ wA := wA_at 459 (by decide +kernel) rfl
theorem wd_460 : Cond.code y_Score_keepMoment prog_5_method_4_code 5 none ∈ wA := wA_at 460 (by decide +kernel) rfl
theorem wd_461 : Cond.methodLink "CanonMaker" 199 y_Subject_firstSounding ∈ wA := wA_at 461 (by decide +kernel) rfl
theorem wd_462 : Cond.methodLink "CanonMaker" 202 y_Score_placeVoices ∈ wA := wA_at 462 (by decide +kernel) rfl
theorem wd_463 : Cond.instanceMethod y_Score_placeVoices ∈ wA := wA_at 463 (by decide +kernel) rfl
theorem wd_464 : Cond.selects "CanonMaker$Score" y_Score_placeVoices y_Score_placeVoices ∈ wA := wA_at 464 (by decide +kernel) rfl
theorem wd_465 : Cond.code y_Score_placeVoices prog_5_method_5_code 6 none ∈ wA := wA_at 465 (by decide +kernel) rfl
theorem wd_466 : Cond.methodLink "CanonMaker$Score" 55 y_Line_placeAt ∈ wA := wA_at 466 (by decide +kernel) rfl
theorem wd_467 : Cond.methodLink "CanonMaker$Score" 58 y_Score_notesAround ∈ wA := wA_at 467 (by decide +kernel) rfl
theorem wd_468 : Cond.static y_Score_notesAround ∈ wA := wA_at 468 (by decide +kernel) rfl
theorem wd_469 : Cond.code y_Score_notesAround prog_5_method_6_code 4 (some .int) ∈ wA := wA_at 469 (by decide +kernel) rfl
theorem wd_470 : Cond.constant "CanonMaker" 140 1000000 ∈ wA := wA_at 470 (by decide +kernel) rfl
theorem wd_471 : Cond.methodLink "CanonMaker" 141 y_Judge_countFaults ∈ wA := wA_at 471 (by decide +kernel) rfl
theorem wd_472 : Cond.instanceMethod y_Judge_countFaults ∈ wA := wA_at 472 (by decide +kernel) rfl
theorem wd_473 : Cond.selects "CanonMaker$Judge" y_Judge_countFaults y_Judge_countFaults ∈ wA := wA_at 473 (by decide +kernel) rfl
theorem wd_474 : Cond.code y_Judge_countFaults prog_3_method_2_code 9 (some .int) ∈ wA := wA_at 474 (by decide +kernel) rfl
theorem wd_475 : Cond.methodLink "CanonMaker$Judge" 56 y_Judge_hear ∈ wA := wA_at 475 (by decide +kernel) rfl
theorem wd_477 : Cond.instanceMethod y_Judge_hear ∈ wA := wA_at 477 (by decide +kernel) rfl
theorem wd_478 : Cond.code y_Judge_hear prog_3_method_3_code 5 none ∈ wA := wA_at 478 (by decide +kernel) rfl
theorem wd_481 : Cond.methodLink "CanonMaker$Judge" 63 y_Judge_judgeEach ∈ wA := wA_at 481 (by decide +kernel) rfl
theorem wd_483 : Cond.instanceMethod y_Judge_judgeEach ∈ wA := wA_at 483 (by decide +kernel) rfl
theorem wd_484 : Cond.code y_Judge_judgeEach prog_3_method_4_code 4 none ∈ wA := wA_at 484 (by decide +kernel) rfl
theorem wd_485 : Cond.methodLink "CanonMaker$Judge" 99 y_Judge_breaksAlone ∈ wA := wA_at 485 (by decide +kernel) rfl
theorem wd_487 : Cond.instanceMethod y_Judge_breaksAlone ∈ wA := wA_at 487 (by decide +kernel) rfl
theorem wd_488 : Cond.code y_Judge_breaksAlone prog_3_method_7_code 3 (some .boolean) ∈ wA := wA_at 488 (by decide +kernel) rfl
theorem wd_489 : Cond.methodLink "CanonMaker$Judge" 132 y_Math_floorMod ∈ wA := wA_at 489 (by decide +kernel) rfl
theorem wd_490 : Cond.methodLink "CanonMaker$Judge" 138 y_Judge_leaps ∈ wA := wA_at 490 (by decide +kernel) rfl
theorem wd_492 : Cond.instanceMethod y_Judge_leaps ∈ wA := wA_at 492 (by decide +kernel) rfl
theorem wd_493 : Cond.code y_Judge_leaps prog_3_method_9_code 3 (some .boolean) ∈ wA := wA_at 493 (by decide +kernel) rfl
theorem wd_494 : Cond.methodLink "CanonMaker$Judge" 154 y_Math_abs ∈ wA := wA_at 494 (by decide +kernel) rfl
theorem wd_495 : Cond.static y_Math_abs ∈ wA := wA_at 495 (by decide +kernel) rfl
theorem wd_496 : Cond.code y_Math_abs prog_10_method_59_code 1 (some .int) ∈ wA := wA_at 496 (by decide +kernel) rfl
theorem wd_497 : Cond.methodLink "CanonMaker$Judge" 158 y_Judge_isKnown ∈ wA := wA_at 497 (by decide +kernel) rfl
theorem wd_498 : Cond.static y_Judge_isKnown ∈ wA := wA_at 498 (by decide +kernel) rfl
theorem wd_499 : Cond.code y_Judge_isKnown prog_3_method_18_code 1 (some .boolean) ∈ wA := wA_at 499 (by decide +kernel) rfl
theorem wd_500 : Cond.methodLink "CanonMaker$Judge" 103 y_Judge_keepFault ∈ wA := wA_at 500 (by decide +kernel) rfl
theorem wd_502 : Cond.instanceMethod y_Judge_keepFault ∈ wA := wA_at 502 (by decide +kernel) rfl
theorem wd_503 : Cond.code y_Judge_keepFault prog_3_method_6_code 4 none ∈ wA := wA_at 503 (by decide +kernel) rfl
theorem wd_504 : Cond.methodLink "CanonMaker$Judge" 66 y_Judge_judgePairs ∈ wA := wA_at 504 (by decide +kernel) rfl
theorem wd_506 : Cond.instanceMethod y_Judge_judgePairs ∈ wA := wA_at 506 (by decide +kernel) rfl
theorem wd_507 : Cond.code y_Judge_judgePairs prog_3_method_5_code 7 none ∈ wA := wA_at 507 (by decide +kernel) rfl
theorem wd_508 : Cond.methodLink "CanonMaker$Judge" 107 y_Judge_breakTogether ∈ wA := wA_at 508 (by decide +kernel) rfl
theorem wd_510 : Cond.instanceMethod y_Judge_breakTogether ∈ wA := wA_at 510 (by decide +kernel) rfl
theorem wd_511 : Cond.code y_Judge_breakTogether prog_3_method_8_code 4 (some .boolean) ∈ wA := wA_at 511 (by decide +kernel) rfl
theorem wd_512 : Cond.methodLink "CanonMaker$Judge" 142 y_Judge_clash ∈ wA := wA_at 512 (by decide +kernel) rfl
theorem wd_514 : Cond.instanceMethod y_Judge_clash ∈ wA := wA_at 514 (by decide +kernel) rfl
theorem wd_515 : Cond.code y_Judge_clash prog_3_method_10_code 5 (some .boolean) ∈ wA := wA_at 515 (by decide +kernel) rfl
theorem wd_516 : Cond.methodLink "CanonMaker$Judge" 161 y_Judge_isFourthGood ∈ wA := wA_at 516 (by decide +kernel) rfl
theorem wd_518 : Cond.instanceMethod y_Judge_isFourthGood ∈ wA := wA_at 518 (by decide +kernel) rfl
theorem wd_519 : Cond.code y_Judge_isFourthGood prog_3_method_11_code 5 (some .boolean) ∈ wA := wA_at 519 (by decide +kernel) rfl
theorem wd_520 : Cond.methodLink "CanonMaker$Judge" 167 y_Judge_gait ∈ wA := wA_at 520 (by decide +kernel) rfl
theorem wd_522 : Cond.instanceMethod y_Judge_gait ∈ wA := wA_at 522 (by decide +kernel) rfl
theorem wd_523 : Cond.code y_Judge_gait prog_3_method_13_code 6 (some .int) ∈ wA := wA_at 523 (by decide +kernel) rfl
theorem wd_524 : Cond.methodLink "CanonMaker$Judge" 173 y_Judge_isStepUp ∈ wA := wA_at 524 (by decide +kernel) rfl
theorem wd_525 : Cond.static y_Judge_isStepUp ∈ wA := wA_at 525 (by decide +kernel) rfl
theorem wd_526 : Cond.code y_Judge_isStepUp prog_3_method_14_code 1 (some .boolean) ∈ wA := wA_at 526 (by decide +kernel) rfl
theorem wd_527 : Cond.methodLink "CanonMaker$Judge" 170 y_Judge_isExcused ∈ wA := wA_at 527 (by decide +kernel) rfl
theorem wd_528 : Cond.static y_Judge_isExcused ∈ wA := wA_at 528 (by decide +kernel) rfl
theorem wd_529 : Cond.code y_Judge_isExcused prog_3_method_12_code 2 (some .boolean) ∈ wA := wA_at 529 (by decide +kernel) rfl
theorem wd_530 : Cond.methodLink "CanonMaker$Judge" 145 y_Judge_moveAlike ∈ wA := wA_at 530 (by decide +kernel) rfl
theorem wd_532 : Cond.instanceMethod y_Judge_moveAlike ∈ wA := wA_at 532 (by decide +kernel) rfl
theorem wd_533 : Cond.code y_Judge_moveAlike prog_3_method_15_code 4 (some .boolean) ∈ wA := wA_at 533 (by decide +kernel) rfl
theorem wd_534 : Cond.methodLink "CanonMaker$Judge" 148 y_Judge_changeDistance ∈ wA := wA_at 534 (by decide +kernel) rfl
theorem wd_536 : Cond.instanceMethod y_Judge_changeDistance ∈ wA := wA_at 536 (by decide +kernel) rfl
theorem wd_537 : Cond.code y_Judge_changeDistance prog_3_method_16_code 4 (some .boolean) ∈ wA := wA_at 537 (by decide +kernel) rfl
theorem wd_538 : Cond.methodLink "CanonMaker$Judge" 151 y_Judge_upperJumps ∈ wA := wA_at 538 (by decide +kernel) rfl
theorem wd_540 : Cond.instanceMethod y_Judge_upperJumps ∈ wA := wA_at 540 (by decide +kernel) rfl
theorem wd_541 : Cond.code y_Judge_upperJumps prog_3_method_17_code 4 (some .boolean) ∈ wA := wA_at 541 (by decide +kernel) rfl
theorem wd_542 : Cond.methodLink "CanonMakerLaw" 77 y_CM_fault ∈ wA := wA_at 542 (by decide +kernel) rfl
theorem wd_543 : Cond.instanceMethod y_CM_fault ∈ wA := wA_at 543 (by decide +kernel) rfl
theorem wd_544 : Cond.selects "CanonMaker" y_CM_fault y_CM_fault ∈ wA := wA_at 544 (by decide +kernel) rfl
theorem wd_545 : Cond.code y_CM_fault prog_1_method_17_code 3 (some .int) ∈ wA := wA_at 545 (by decide +kernel) rfl
theorem wd_546 : Cond.methodLink "CanonMakerLaw" 81 y_CM_solve ∈ wA := wA_at 546 (by decide +kernel) rfl
theorem wd_547 : Cond.instanceMethod y_CM_solve ∈ wA := wA_at 547 (by decide +kernel) rfl
theorem wd_548 : Cond.selects "CanonMaker" y_CM_solve y_CM_solve ∈ wA := wA_at 548 (by decide +kernel) rfl
theorem wd_549 : Cond.code y_CM_solve prog_1_method_18_code 3 (some .int) ∈ wA := wA_at 549 (by decide +kernel) rfl
theorem wd_550 : Cond.methodLink "CanonMaker" 160 y_CM_listOpenNotes ∈ wA := wA_at 550 (by decide +kernel) rfl
theorem wd_552 : Cond.instanceMethod y_CM_listOpenNotes ∈ wA := wA_at 552 (by decide +kernel) rfl
theorem wd_553 : Cond.code y_CM_listOpenNotes prog_1_method_29_code 2 none ∈ wA := wA_at 553 (by decide +kernel) rfl
theorem wd_554 : Cond.methodLink "CanonMaker" 163 y_CM_searchPitches ∈ wA := wA_at 554 (by decide +kernel) rfl
theorem wd_556 : Cond.instanceMethod y_CM_searchPitches ∈ wA := wA_at 556 (by decide +kernel) rfl
theorem wd_557 : Cond.code y_CM_searchPitches prog_1_method_31_code 6 (some .int) ∈ wA := wA_at 557 (by decide +kernel) rfl
theorem wd_558 : Cond.methodLink "CanonMaker" 166 y_CM_reopenNotes ∈ wA := wA_at 558 (by decide +kernel) rfl
theorem wd_560 : Cond.instanceMethod y_CM_reopenNotes ∈ wA := wA_at 560 (by decide +kernel) rfl
theorem wd_561 : Cond.code y_CM_reopenNotes prog_1_method_30_code 2 none ∈ wA := wA_at 561 (by decide +kernel) rfl
theorem wd_562 : Cond.methodLink "CanonMakerLaw" 85 y_CM_steps ∈ wA := wA_at 562 (by decide +kernel) rfl
theorem wd_563 : Cond.instanceMethod y_CM_steps ∈ wA := wA_at 563 (by decide +kernel) rfl
theorem wd_564 : Cond.selects "CanonMaker" y_CM_steps y_CM_steps ∈ wA := wA_at 564 (by decide +kernel) rfl
theorem wd_565 : Cond.code y_CM_steps prog_1_method_19_code 1 (some .int) ∈ wA := wA_at 565 (by decide +kernel) rfl
theorem wd_566 : Cond.methodLink "CanonMakerLaw" 89 y_CM_shifts ∈ wA := wA_at 566 (by decide +kernel) rfl
theorem wd_567 : Cond.instanceMethod y_CM_shifts ∈ wA := wA_at 567 (by decide +kernel) rfl
theorem wd_568 : Cond.selects "CanonMaker" y_CM_shifts y_CM_shifts ∈ wA := wA_at 568 (by decide +kernel) rfl
theorem wd_569 : Cond.code y_CM_shifts prog_1_method_20_code 4 (some .int) ∈ wA := wA_at 569 (by decide +kernel) rfl
theorem wd_570 : Cond.methodLink "CanonMaker" 169 y_Subject_hasOpen ∈ wA := wA_at 570 (by decide +kernel) rfl
theorem wd_571 : Cond.instanceMethod y_Subject_hasOpen ∈ wA := wA_at 571 (by decide +kernel) rfl
theorem wd_572 : Cond.selects "CanonMaker$Subject" y_Subject_hasOpen y_Subject_hasOpen ∈ wA := wA_at 572 (by decide +kernel) rfl
theorem wd_573 : Cond.code y_Subject_hasOpen prog_6_method_4_code 2 (some .boolean) ∈ wA := wA_at 573 (by decide +kernel) rfl
theorem wd_574 : Cond.methodLink "CanonMaker" 176 y_CM_layPair ∈ wA := wA_at 574 (by decide +kernel) rfl
theorem wd_576 : Cond.instanceMethod y_CM_layPair ∈ wA := wA_at 576 (by decide +kernel) rfl
theorem wd_577 : Cond.code y_CM_layPair prog_1_method_28_code 3 none ∈ wA := wA_at 577 (by decide +kernel) rfl
theorem wd_578 : Cond.methodLink "CanonMaker" 183 y_Math_min ∈ wA := wA_at 578 (by decide +kernel) rfl
theorem wd_579 : Cond.static y_Math_min ∈ wA := wA_at 579 (by decide +kernel) rfl
theorem wd_580 : Cond.code y_Math_min prog_10_method_69_code 2 (some .int) ∈ wA := wA_at 580 (by decide +kernel) rfl
theorem wd_581 : Cond.methodLink "CanonMaker" 188 y_CM_searchIntervals ∈ wA := wA_at 581 (by decide +kernel) rfl
theorem wd_583 : Cond.instanceMethod y_CM_searchIntervals ∈ wA := wA_at 583 (by decide +kernel) rfl
theorem wd_584 : Cond.code y_CM_searchIntervals prog_1_method_32_code 4 none ∈ wA := wA_at 584 (by decide +kernel) rfl
theorem wd_585 : Cond.methodLink "CanonMakerLaw" 93 y_CM_shift ∈ wA := wA_at 585 (by decide +kernel) rfl
theorem wd_586 : Cond.instanceMethod y_CM_shift ∈ wA := wA_at 586 (by decide +kernel) rfl
theorem wd_587 : Cond.selects "CanonMaker" y_CM_shift y_CM_shift ∈ wA := wA_at 587 (by decide +kernel) rfl
theorem wd_588 : Cond.code y_CM_shift prog_1_method_21_code 3 (some .int) ∈ wA := wA_at 588 (by decide +kernel) rfl
theorem wd_589 : Cond.classLink "CanonMakerLaw" 10 "CanonMakerModel" ∈ wA := wA_at 589 (by decide +kernel) rfl
theorem wd_590 : Cond.instantiable "CanonMakerModel" 29 ∈ wA := wA_at 590 (by decide +kernel) rfl
theorem wd_591 : Cond.methodLink "CanonMakerLaw" 12 y_Mo_init ∈ wA := wA_at 591 (by decide +kernel) rfl
theorem wd_592 : Cond.instanceMethod y_Mo_init ∈ wA := wA_at 592 (by decide +kernel) rfl
theorem wd_593 : Cond.code y_Mo_init prog_9_method_1_code 1 none ∈ wA := wA_at 593 (by decide +kernel) rfl
theorem wd_594 : Cond.methodLink "CanonMakerModel" 1 objectInit ∈ wA := wA_at 594 (by decide +kernel) rfl
theorem wd_595 : Cond.fieldLink "CanonMakerModel" 7 "CanonMakerModel" "pitches" "[I" ∈ wA := wA_at 595 (by decide +kernel) rfl
theorem wd_596 : Cond.fieldLink "CanonMakerModel" 13 "CanonMakerModel" "lengths" "[I" ∈ wA := wA_at 596 (by decide +kernel) rfl
theorem wd_597 : Cond.fieldLink "CanonMakerModel" 66 "CanonMakerModel" "notes" "I" ∈ wA := wA_at 597 (by decide +kernel) rfl
theorem wd_598 : Cond.fieldLink "CanonMakerModel" 16 "CanonMakerModel" "on" "[Z" ∈ wA := wA_at 598 (by decide +kernel) rfl
theorem wd_599 : Cond.fieldLink "CanonMakerModel" 20 "CanonMakerModel" "delays" "[I" ∈ wA := wA_at 599 (by decide +kernel) rfl
theorem wd_600 : Cond.fieldLink "CanonMakerModel" 23 "CanonMakerModel" "intervals" "[I" ∈ wA := wA_at 600 (by decide +kernel) rfl
theorem wd_601 : Cond.fieldLink "CanonMakerModel" 26 "CanonMakerModel" "modes" "[I" ∈ wA := wA_at 601 (by decide +kernel) rfl
theorem wd_602 : Cond.fieldLink "CanonMakerModel" 29 "CanonMakerModel" "factors" "[I" ∈ wA := wA_at 602 (by decide +kernel) rfl
theorem wd_603 : Cond.fieldLink "CanonMakerModel" 69 "CanonMakerModel" "low" "I" ∈ wA := wA_at 603 (by decide +kernel) rfl
theorem wd_604 : Cond.fieldLink "CanonMakerModel" 32 "CanonMakerModel" "high" "I" ∈ wA := wA_at 604 (by decide +kernel) rfl
theorem wd_605 : Cond.fieldLink "CanonMakerModel" 36 "CanonMakerModel" "scale" "I" ∈ wA := wA_at 605 (by decide +kernel) rfl
theorem wd_606 : Cond.fieldLink "CanonMakerModel" 39 "CanonMakerModel" "beat" "I" ∈ wA := wA_at 606 (by decide +kernel) rfl
theorem wd_607 : Cond.fieldLink "CanonMakerModel" 72 "CanonMakerModel" "round" "I" ∈ wA := wA_at 607 (by decide +kernel) rfl
theorem wd_608 : Cond.fieldLink "CanonMakerModel" 75 "CanonMakerModel" "rules" "I" ∈ wA := wA_at 608 (by decide +kernel) rfl
theorem wd_609 : Cond.fieldLink "CanonMakerModel" 150 "CanonMakerModel" "spent" "I" ∈ wA := wA_at 609 (by decide +kernel) rfl
theorem wd_610 : Cond.fieldLink "CanonMakerModel" 42 "CanonMakerModel" "pitchAt" "[I" ∈ wA := wA_at 610 (by decide +kernel) rfl
theorem wd_611 : Cond.fieldLink "CanonMakerModel" 45 "CanonMakerModel" "struck" "[Z" ∈ wA := wA_at 611 (by decide +kernel) rfl
theorem wd_612 : Cond.fieldLink "CanonMakerModel" 48 "CanonMakerModel" "noteAt" "[I" ∈ wA := wA_at 612 (by decide +kernel) rfl
theorem wd_613 : Cond.fieldLink "CanonMakerModel" 51 "CanonMakerModel" "line" "[I" ∈ wA := wA_at 613 (by decide +kernel) rfl
theorem wd_614 : Cond.fieldLink "CanonMakerModel" 82 "CanonMakerModel" "times" "I" ∈ wA := wA_at 614 (by decide +kernel) rfl
theorem wd_615 : Cond.fieldLink "CanonMakerModel" 131 "CanonMakerModel" "faultTime" "I" ∈ wA := wA_at 615 (by decide +kernel) rfl
theorem wd_616 : Cond.fieldLink "CanonMakerModel" 134 "CanonMakerModel" "faultRule" "I" ∈ wA := wA_at 616 (by decide +kernel) rfl
theorem wd_617 : Cond.fieldLink "CanonMakerModel" 137 "CanonMakerModel" "faultA" "I" ∈ wA := wA_at 617 (by decide +kernel) rfl
theorem wd_618 : Cond.fieldLink "CanonMakerModel" 140 "CanonMakerModel" "faultB" "I" ∈ wA := wA_at 618 (by decide +kernel) rfl
theorem wd_619 : Cond.fieldLink "CanonMakerModel" 54 "CanonMakerModel" "opens" "[I" ∈ wA := wA_at 619 (by decide +kernel) rfl
theorem wd_620 : Cond.fieldLink "CanonMakerModel" 57 "CanonMakerModel" "shiftDelays" "[I" ∈ wA := wA_at 620 (by decide +kernel) rfl
theorem wd_621 : Cond.fieldLink "CanonMakerModel" 60 "CanonMakerModel" "shiftIntervals" "[I" ∈ wA := wA_at 621 (by decide +kernel) rfl
theorem wd_622 : Cond.fieldLink "CanonMakerModel" 156 "CanonMakerModel" "shiftCount" "I" ∈ wA := wA_at 622 (by decide +kernel) rfl
theorem wd_623 : Cond.fieldLink "CanonMakerModel" 63 "CanonMakerModel" "were" "[Z" ∈ wA := wA_at 623 (by decide +kernel) rfl
theorem wd_624 : Cond.laysFinal "CanonMakerModel" "CanonMakerModel" "pitches" "[I" ∈ wA := wA_at 624 (by decide +kernel) rfl
theorem wd_626 : Cond.laysFinal "CanonMakerModel" "CanonMakerModel" "lengths" "[I" ∈ wA := wA_at 626 (by decide +kernel) rfl
theorem wd_628 : Cond.lays "CanonMakerModel" "CanonMakerModel" "notes" "I" ∈ wA := wA_at 628 (by decide +kernel) rfl
theorem wd_630 : Cond.laysFinal "CanonMakerModel" "CanonMakerModel" "on" "[Z" ∈ wA := wA_at 630 (by decide +kernel) rfl
theorem wd_632 : Cond.laysFinal "CanonMakerModel" "CanonMakerModel" "delays" "[I" ∈ wA := wA_at 632 (by decide +kernel) rfl
theorem wd_634 : Cond.laysFinal "CanonMakerModel" "CanonMakerModel" "intervals" "[I" ∈ wA := wA_at 634 (by decide +kernel) rfl
theorem wd_636 : Cond.laysFinal "CanonMakerModel" "CanonMakerModel" "modes" "[I" ∈ wA := wA_at 636 (by decide +kernel) rfl
theorem wd_638 : Cond.laysFinal "CanonMakerModel" "CanonMakerModel" "factors" "[I" ∈ wA := wA_at 638 (by decide +kernel) rfl
theorem wd_640 : Cond.lays "CanonMakerModel" "CanonMakerModel" "low" "I" ∈ wA := wA_at 640 (by decide +kernel) rfl
theorem wd_642 : Cond.lays "CanonMakerModel" "CanonMakerModel" "high" "I" ∈ wA := wA_at 642 (by decide +kernel) rfl
theorem wd_644 : Cond.lays "CanonMakerModel" "CanonMakerModel" "scale" "I" ∈ wA := wA_at 644 (by decide +kernel) rfl
theorem wd_646 : Cond.lays "CanonMakerModel" "CanonMakerModel" "beat" "I" ∈ wA := wA_at 646 (by decide +kernel) rfl
theorem wd_648 : Cond.lays "CanonMakerModel" "CanonMakerModel" "round" "I" ∈ wA := wA_at 648 (by decide +kernel) rfl
theorem wd_650 : Cond.lays "CanonMakerModel" "CanonMakerModel" "rules" "I" ∈ wA := wA_at 650 (by decide +kernel) rfl
theorem wd_652 : Cond.lays "CanonMakerModel" "CanonMakerModel" "spent" "I" ∈ wA := wA_at 652 (by decide +kernel) rfl
theorem wd_654 : Cond.laysFinal "CanonMakerModel" "CanonMakerModel" "pitchAt" "[I" ∈ wA := wA_at 654 (by decide +kernel) rfl
theorem wd_656 : Cond.laysFinal "CanonMakerModel" "CanonMakerModel" "struck" "[Z" ∈ wA := wA_at 656 (by decide +kernel) rfl
theorem wd_658 : Cond.laysFinal "CanonMakerModel" "CanonMakerModel" "noteAt" "[I" ∈ wA := wA_at 658 (by decide +kernel) rfl
theorem wd_660 : Cond.laysFinal "CanonMakerModel" "CanonMakerModel" "line" "[I" ∈ wA := wA_at 660 (by decide +kernel) rfl
theorem wd_662 : Cond.lays "CanonMakerModel" "CanonMakerModel" "times" "I" ∈ wA := wA_at 662 (by decide +kernel) rfl
theorem wd_664 : Cond.lays "CanonMakerModel" "CanonMakerModel" "faultTime" "I" ∈ wA := wA_at 664 (by decide +kernel) rfl
theorem wd_666 : Cond.lays "CanonMakerModel" "CanonMakerModel" "faultRule" "I" ∈ wA := wA_at 666 (by decide +kernel) rfl
theorem wd_668 : Cond.lays "CanonMakerModel" "CanonMakerModel" "faultA" "I" ∈ wA := wA_at 668 (by decide +kernel) rfl
theorem wd_670 : Cond.lays "CanonMakerModel" "CanonMakerModel" "faultB" "I" ∈ wA := wA_at 670 (by decide +kernel) rfl
theorem wd_672 : Cond.laysFinal "CanonMakerModel" "CanonMakerModel" "opens" "[I" ∈ wA := wA_at 672 (by decide +kernel) rfl
theorem wd_674 : Cond.laysFinal "CanonMakerModel" "CanonMakerModel" "shiftDelays" "[I" ∈ wA := wA_at 674 (by decide +kernel) rfl
theorem wd_676 : Cond.laysFinal "CanonMakerModel" "CanonMakerModel" "shiftIntervals" "[I" ∈ wA := wA_at 676 (by decide +kernel) rfl
theorem wd_678 : Cond.lays "CanonMakerModel" "CanonMakerModel" "shiftCount" "I" ∈ wA := wA_at 678 (by decide +kernel) rfl
theorem wd_680 : Cond.laysFinal "CanonMakerModel" "CanonMakerModel" "were" "[Z" ∈ wA := wA_at 680 (by decide +kernel) rfl
theorem wd_683 : Cond.methodLink "CanonMakerLaw" 17 y_Mo_note ∈ wA := wA_at 683 (by decide +kernel) rfl
theorem wd_684 : Cond.instanceMethod y_Mo_note ∈ wA := wA_at 684 (by decide +kernel) rfl
theorem wd_685 : Cond.selects "CanonMakerModel" y_Mo_note y_Mo_note ∈ wA := wA_at 685 (by decide +kernel) rfl
theorem wd_686 : Cond.code y_Mo_note prog_9_method_2_code 3 (some .int) ∈ wA := wA_at 686 (by decide +kernel) rfl
theorem wd_687 : Cond.methodLink "CanonMakerLaw" 21 y_Mo_pitch ∈ wA := wA_at 687 (by decide +kernel) rfl
theorem wd_688 : Cond.instanceMethod y_Mo_pitch ∈ wA := wA_at 688 (by decide +kernel) rfl
theorem wd_689 : Cond.selects "CanonMakerModel" y_Mo_pitch y_Mo_pitch ∈ wA := wA_at 689 (by decide +kernel) rfl
theorem wd_690 : Cond.code y_Mo_pitch prog_9_method_3_code 4 (some .int) ∈ wA := wA_at 690 (by decide +kernel) rfl
theorem wd_691 : Cond.methodLink "CanonMakerLaw" 25 y_Mo_told ∈ wA := wA_at 691 (by decide +kernel) rfl
theorem wd_692 : Cond.instanceMethod y_Mo_told ∈ wA := wA_at 692 (by decide +kernel) rfl
theorem wd_693 : Cond.selects "CanonMakerModel" y_Mo_told y_Mo_told ∈ wA := wA_at 693 (by decide +kernel) rfl
theorem wd_694 : Cond.code y_Mo_told prog_9_method_4_code 3 (some .int) ∈ wA := wA_at 694 (by decide +kernel) rfl
theorem wd_695 : Cond.methodLink "CanonMakerLaw" 30 y_Mo_cut ∈ wA := wA_at 695 (by decide +kernel) rfl
theorem wd_696 : Cond.instanceMethod y_Mo_cut ∈ wA := wA_at 696 (by decide +kernel) rfl
theorem wd_697 : Cond.selects "CanonMakerModel" y_Mo_cut y_Mo_cut ∈ wA := wA_at 697 (by decide +kernel) rfl
theorem wd_698 : Cond.code y_Mo_cut prog_9_method_5_code 3 (some .int) ∈ wA := wA_at 698 (by decide +kernel) rfl
theorem wd_699 : Cond.methodLink "CanonMakerLaw" 35 y_Mo_size ∈ wA := wA_at 699 (by decide +kernel) rfl
theorem wd_700 : Cond.instanceMethod y_Mo_size ∈ wA := wA_at 700 (by decide +kernel) rfl
theorem wd_701 : Cond.selects "CanonMakerModel" y_Mo_size y_Mo_size ∈ wA := wA_at 701 (by decide +kernel) rfl
theorem wd_702 : Cond.code y_Mo_size prog_9_method_6_code 3 (some .int) ∈ wA := wA_at 702 (by decide +kernel) rfl
theorem wd_703 : Cond.methodLink "CanonMakerLaw" 40 y_Mo_voice ∈ wA := wA_at 703 (by decide +kernel) rfl
theorem wd_704 : Cond.instanceMethod y_Mo_voice ∈ wA := wA_at 704 (by decide +kernel) rfl
theorem wd_705 : Cond.selects "CanonMakerModel" y_Mo_voice y_Mo_voice ∈ wA := wA_at 705 (by decide +kernel) rfl
theorem wd_706 : Cond.code y_Mo_voice prog_9_method_7_code 6 (some .int) ∈ wA := wA_at 706 (by decide +kernel) rfl
theorem wd_707 : Cond.methodLink "CanonMakerLaw" 44 y_Mo_off ∈ wA := wA_at 707 (by decide +kernel) rfl
theorem wd_708 : Cond.instanceMethod y_Mo_off ∈ wA := wA_at 708 (by decide +kernel) rfl
theorem wd_709 : Cond.selects "CanonMakerModel" y_Mo_off y_Mo_off ∈ wA := wA_at 709 (by decide +kernel) rfl
theorem wd_710 : Cond.code y_Mo_off prog_9_method_8_code 3 (some .int) ∈ wA := wA_at 710 (by decide +kernel) rfl
theorem wd_711 : Cond.methodLink "CanonMakerLaw" 48 y_Mo_span ∈ wA := wA_at 711 (by decide +kernel) rfl
theorem wd_712 : Cond.instanceMethod y_Mo_span ∈ wA := wA_at 712 (by decide +kernel) rfl
theorem wd_713 : Cond.selects "CanonMakerModel" y_Mo_span y_Mo_span ∈ wA := wA_at 713 (by decide +kernel) rfl
theorem wd_714 : Cond.code y_Mo_span prog_9_method_9_code 3 (some .int) ∈ wA := wA_at 714 (by decide +kernel) rfl
theorem wd_715 : Cond.methodLink "CanonMakerLaw" 52 y_Mo_scale ∈ wA := wA_at 715 (by decide +kernel) rfl
theorem wd_716 : Cond.instanceMethod y_Mo_scale ∈ wA := wA_at 716 (by decide +kernel) rfl
theorem wd_717 : Cond.selects "CanonMakerModel" y_Mo_scale y_Mo_scale ∈ wA := wA_at 717 (by decide +kernel) rfl
theorem wd_718 : Cond.code y_Mo_scale prog_9_method_10_code 3 (some .int) ∈ wA := wA_at 718 (by decide +kernel) rfl
theorem wd_719 : Cond.methodLink "CanonMakerLaw" 56 y_Mo_beat ∈ wA := wA_at 719 (by decide +kernel) rfl
theorem wd_720 : Cond.instanceMethod y_Mo_beat ∈ wA := wA_at 720 (by decide +kernel) rfl
theorem wd_721 : Cond.selects "CanonMakerModel" y_Mo_beat y_Mo_beat ∈ wA := wA_at 721 (by decide +kernel) rfl
theorem wd_722 : Cond.code y_Mo_beat prog_9_method_11_code 3 (some .int) ∈ wA := wA_at 722 (by decide +kernel) rfl
theorem wd_723 : Cond.methodLink "CanonMakerLaw" 60 y_Mo_round ∈ wA := wA_at 723 (by decide +kernel) rfl
theorem wd_724 : Cond.instanceMethod y_Mo_round ∈ wA := wA_at 724 (by decide +kernel) rfl
theorem wd_725 : Cond.selects "CanonMakerModel" y_Mo_round y_Mo_round ∈ wA := wA_at 725 (by decide +kernel) rfl
theorem wd_726 : Cond.code y_Mo_round prog_9_method_12_code 3 (some .int) ∈ wA := wA_at 726 (by decide +kernel) rfl
theorem wd_727 : Cond.methodLink "CanonMakerLaw" 64 y_Mo_rules ∈ wA := wA_at 727 (by decide +kernel) rfl
theorem wd_728 : Cond.instanceMethod y_Mo_rules ∈ wA := wA_at 728 (by decide +kernel) rfl
theorem wd_729 : Cond.selects "CanonMakerModel" y_Mo_rules y_Mo_rules ∈ wA := wA_at 729 (by decide +kernel) rfl
theorem wd_730 : Cond.code y_Mo_rules prog_9_method_13_code 3 (some .int) ∈ wA := wA_at 730 (by decide +kernel) rfl
theorem wd_731 : Cond.methodLink "CanonMakerLaw" 68 y_Mo_end ∈ wA := wA_at 731 (by decide +kernel) rfl
theorem wd_732 : Cond.instanceMethod y_Mo_end ∈ wA := wA_at 732 (by decide +kernel) rfl
theorem wd_733 : Cond.selects "CanonMakerModel" y_Mo_end y_Mo_end ∈ wA := wA_at 733 (by decide +kernel) rfl
theorem wd_734 : Cond.code y_Mo_end prog_9_method_19_code 1 (some .int) ∈ wA := wA_at 734 (by decide +kernel) rfl
theorem wd_735 : Cond.methodLink "CanonMakerModel" 93 y_Mo_endOf ∈ wA := wA_at 735 (by decide +kernel) rfl
theorem wd_737 : Cond.instanceMethod y_Mo_endOf ∈ wA := wA_at 737 (by decide +kernel) rfl
theorem wd_738 : Cond.code y_Mo_endOf prog_9_method_17_code 4 (some .int) ∈ wA := wA_at 738 (by decide +kernel) rfl
theorem wd_739 : Cond.methodLink "CanonMakerModel" 89 y_Mo_lineSize ∈ wA := wA_at 739 (by decide +kernel) rfl
theorem wd_741 : Cond.instanceMethod y_Mo_lineSize ∈ wA := wA_at 741 (by decide +kernel) rfl
theorem wd_742 : Cond.code y_Mo_lineSize prog_9_method_14_code 2 (some .int) ∈ wA := wA_at 742 (by decide +kernel) rfl
theorem wd_743 : Cond.methodLink "CanonMakerModel" 78 y_Mo_size ∈ wA := wA_at 743 (by decide +kernel) rfl
theorem wd_744 : Cond.methodLink "CanonMakerLaw" 72 y_Mo_at ∈ wA := wA_at 744 (by decide +kernel) rfl
theorem wd_745 : Cond.instanceMethod y_Mo_at ∈ wA := wA_at 745 (by decide +kernel) rfl
theorem wd_746 : Cond.selects "CanonMakerModel" y_Mo_at y_Mo_at ∈ wA := wA_at 746 (by decide +kernel) rfl
theorem wd_747 : Cond.code y_Mo_at prog_9_method_20_code 3 (some .int) ∈ wA := wA_at 747 (by decide +kernel) rfl
theorem wd_748 : Cond.methodLink "CanonMakerModel" 100 y_Mo_layAll ∈ wA := wA_at 748 (by decide +kernel) rfl
theorem wd_750 : Cond.instanceMethod y_Mo_layAll ∈ wA := wA_at 750 (by decide +kernel) rfl
theorem wd_751 : Cond.code y_Mo_layAll prog_9_method_18_code 2 none ∈ wA := wA_at 751 (by decide +kernel) rfl
theorem wd_752 : Cond.methodLink "CanonMakerModel" 96 y_Mo_lay ∈ wA := wA_at 752 (by decide +kernel) rfl
theorem wd_754 : Cond.instanceMethod y_Mo_lay ∈ wA := wA_at 754 (by decide +kernel) rfl
theorem wd_755 : Cond.code y_Mo_lay prog_9_method_16_code 7 none ∈ wA := wA_at 755 (by decide +kernel) rfl
theorem wd_756 : Cond.methodLink "CanonMakerModel" 85 y_Mo_pitchOf ∈ wA := wA_at 756 (by decide +kernel) rfl
theorem wd_758 : Cond.instanceMethod y_Mo_pitchOf ∈ wA := wA_at 758 (by decide +kernel) rfl
theorem wd_759 : Cond.code y_Mo_pitchOf prog_9_method_15_code 5 (some .int) ∈ wA := wA_at 759 (by decide +kernel) rfl
theorem wd_760 : Cond.methodLink "CanonMakerLaw" 76 y_Mo_faults ∈ wA := wA_at 760 (by decide +kernel) rfl
theorem wd_761 : Cond.instanceMethod y_Mo_faults ∈ wA := wA_at 761 (by decide +kernel) rfl
theorem wd_762 : Cond.selects "CanonMakerModel" y_Mo_faults y_Mo_faults ∈ wA := wA_at 762 (by decide +kernel) rfl
theorem wd_763 : Cond.code y_Mo_faults prog_9_method_31_code 1 (some .int) ∈ wA := wA_at 763 (by decide +kernel) rfl
theorem wd_764 : Cond.methodLink "CanonMakerModel" 143 y_Mo_isLong ∈ wA := wA_at 764 (by decide +kernel) rfl
theorem wd_766 : Cond.instanceMethod y_Mo_isLong ∈ wA := wA_at 766 (by decide +kernel) rfl
theorem wd_767 : Cond.code y_Mo_isLong prog_9_method_21_code 2 (some .boolean) ∈ wA := wA_at 767 (by decide +kernel) rfl
theorem wd_768 : Cond.methodLink "CanonMakerModel" 147 y_Mo_judge ∈ wA := wA_at 768 (by decide +kernel) rfl
theorem wd_770 : Cond.instanceMethod y_Mo_judge ∈ wA := wA_at 770 (by decide +kernel) rfl
theorem wd_771 : Cond.code y_Mo_judge prog_9_method_30_code 8 (some .int) ∈ wA := wA_at 771 (by decide +kernel) rfl
theorem wd_772 : Cond.methodLink "CanonMakerModel" 124 y_Mo_breaksAlone ∈ wA := wA_at 772 (by decide +kernel) rfl
theorem wd_774 : Cond.instanceMethod y_Mo_breaksAlone ∈ wA := wA_at 774 (by decide +kernel) rfl
theorem wd_775 : Cond.code y_Mo_breaksAlone prog_9_method_26_code 7 (some .boolean) ∈ wA := wA_at 775 (by decide +kernel) rfl
theorem wd_776 : Cond.methodLink "CanonMakerModel" 103 y_Mo_isStruck ∈ wA := wA_at 776 (by decide +kernel) rfl
theorem wd_778 : Cond.instanceMethod y_Mo_isStruck ∈ wA := wA_at 778 (by decide +kernel) rfl
theorem wd_779 : Cond.code y_Mo_isStruck prog_9_method_23_code 3 (some .boolean) ∈ wA := wA_at 779 (by decide +kernel) rfl
theorem wd_780 : Cond.methodLink "CanonMakerModel" 107 y_Mo_beside ∈ wA := wA_at 780 (by decide +kernel) rfl
theorem wd_782 : Cond.instanceMethod y_Mo_beside ∈ wA := wA_at 782 (by decide +kernel) rfl
theorem wd_783 : Cond.code y_Mo_beside prog_9_method_24_code 5 (some .int) ∈ wA := wA_at 783 (by decide +kernel) rfl
theorem wd_784 : Cond.methodLink "CanonMakerModel" 127 y_Mo_breaks ∈ wA := wA_at 784 (by decide +kernel) rfl
theorem wd_786 : Cond.instanceMethod y_Mo_breaks ∈ wA := wA_at 786 (by decide +kernel) rfl
theorem wd_787 : Cond.code y_Mo_breaks prog_9_method_29_code 15 (some .boolean) ∈ wA := wA_at 787 (by decide +kernel) rfl
theorem wd_788 : Cond.methodLink "CanonMakerModel" 114 y_Mo_sounds ∈ wA := wA_at 788 (by decide +kernel) rfl
theorem wd_790 : Cond.instanceMethod y_Mo_sounds ∈ wA := wA_at 790 (by decide +kernel) rfl
theorem wd_791 : Cond.code y_Mo_sounds prog_9_method_22_code 3 (some .boolean) ∈ wA := wA_at 791 (by decide +kernel) rfl
theorem wd_792 : Cond.methodLink "CanonMakerModel" 120 y_Mo_isDissonant ∈ wA := wA_at 792 (by decide +kernel) rfl
theorem wd_794 : Cond.instanceMethod y_Mo_isDissonant ∈ wA := wA_at 794 (by decide +kernel) rfl
theorem wd_795 : Cond.code y_Mo_isDissonant prog_9_method_28_code 12 (some .boolean) ∈ wA := wA_at 795 (by decide +kernel) rfl
theorem wd_796 : Cond.methodLink "CanonMakerModel" 111 y_Mo_gap ∈ wA := wA_at 796 (by decide +kernel) rfl
theorem wd_797 : Cond.static y_Mo_gap ∈ wA := wA_at 797 (by decide +kernel) rfl
theorem wd_798 : Cond.code y_Mo_gap prog_9_method_25_code 2 (some .int) ∈ wA := wA_at 798 (by decide +kernel) rfl
theorem wd_799 : Cond.methodLink "CanonMakerModel" 117 y_Mo_stepsAt ∈ wA := wA_at 799 (by decide +kernel) rfl
theorem wd_801 : Cond.instanceMethod y_Mo_stepsAt ∈ wA := wA_at 801 (by decide +kernel) rfl
theorem wd_802 : Cond.code y_Mo_stepsAt prog_9_method_27_code 8 (some .int) ∈ wA := wA_at 802 (by decide +kernel) rfl
theorem wd_803 : Cond.methodLink "CanonMakerLaw" 80 y_Mo_fault ∈ wA := wA_at 803 (by decide +kernel) rfl
theorem wd_804 : Cond.instanceMethod y_Mo_fault ∈ wA := wA_at 804 (by decide +kernel) rfl
theorem wd_805 : Cond.selects "CanonMakerModel" y_Mo_fault y_Mo_fault ∈ wA := wA_at 805 (by decide +kernel) rfl
theorem wd_806 : Cond.code y_Mo_fault prog_9_method_32_code 3 (some .int) ∈ wA := wA_at 806 (by decide +kernel) rfl
theorem wd_807 : Cond.methodLink "CanonMakerLaw" 84 y_Mo_solve ∈ wA := wA_at 807 (by decide +kernel) rfl
theorem wd_808 : Cond.instanceMethod y_Mo_solve ∈ wA := wA_at 808 (by decide +kernel) rfl
theorem wd_809 : Cond.selects "CanonMakerModel" y_Mo_solve y_Mo_solve ∈ wA := wA_at 809 (by decide +kernel) rfl
theorem wd_810 : Cond.code y_Mo_solve prog_9_method_34_code 8 (some .int) ∈ wA := wA_at 810 (by decide +kernel) rfl
theorem wd_811 : Cond.methodLink "CanonMakerModel" 153 y_Mo_isClean ∈ wA := wA_at 811 (by decide +kernel) rfl
theorem wd_813 : Cond.instanceMethod y_Mo_isClean ∈ wA := wA_at 813 (by decide +kernel) rfl
theorem wd_814 : Cond.code y_Mo_isClean prog_9_method_33_code 1 (some .boolean) ∈ wA := wA_at 814 (by decide +kernel) rfl
theorem wd_815 : Cond.methodLink "CanonMakerLaw" 88 y_Mo_steps ∈ wA := wA_at 815 (by decide +kernel) rfl
theorem wd_816 : Cond.instanceMethod y_Mo_steps ∈ wA := wA_at 816 (by decide +kernel) rfl
theorem wd_817 : Cond.selects "CanonMakerModel" y_Mo_steps y_Mo_steps ∈ wA := wA_at 817 (by decide +kernel) rfl
theorem wd_818 : Cond.code y_Mo_steps prog_9_method_35_code 1 (some .int) ∈ wA := wA_at 818 (by decide +kernel) rfl
theorem wd_819 : Cond.methodLink "CanonMakerLaw" 92 y_Mo_shifts ∈ wA := wA_at 819 (by decide +kernel) rfl
theorem wd_820 : Cond.instanceMethod y_Mo_shifts ∈ wA := wA_at 820 (by decide +kernel) rfl
theorem wd_821 : Cond.selects "CanonMakerModel" y_Mo_shifts y_Mo_shifts ∈ wA := wA_at 821 (by decide +kernel) rfl
theorem wd_822 : Cond.code y_Mo_shifts prog_9_method_36_code 8 (some .int) ∈ wA := wA_at 822 (by decide +kernel) rfl
theorem wd_823 : Cond.methodLink "CanonMakerLaw" 96 y_Mo_shift ∈ wA := wA_at 823 (by decide +kernel) rfl
theorem wd_824 : Cond.instanceMethod y_Mo_shift ∈ wA := wA_at 824 (by decide +kernel) rfl
theorem wd_825 : Cond.selects "CanonMakerModel" y_Mo_shift y_Mo_shift ∈ wA := wA_at 825 (by decide +kernel) rfl
theorem wd_826 : Cond.code y_Mo_shift prog_9_method_37_code 3 (some .int) ∈ wA := wA_at 826 (by decide +kernel) rfl
theorem wd_0 : Cond.selects "CanonMaker" y_CM_countTimes y_CM_countTimes ∈ wA := wA_at 0 (by decide +kernel) rfl
theorem wd_1 : Cond.selects "CanonMaker$Line" y_Line_joinNeighbours y_Line_joinNeighbours ∈ wA := wA_at 1 (by decide +kernel) rfl
theorem wd_2 : Cond.selects "CanonMaker" y_CM_isAnyTooLong y_CM_isAnyTooLong ∈ wA := wA_at 2 (by decide +kernel) rfl
theorem wd_3 : Cond.selects "CanonMaker" y_CM_isTooLong y_CM_isTooLong ∈ wA := wA_at 3 (by decide +kernel) rfl
theorem wd_4 : Cond.selects "CanonMaker" y_CM_layAll y_CM_layAll ∈ wA := wA_at 4 (by decide +kernel) rfl
theorem wd_5 : Cond.selects "CanonMaker$Score" y_Score_keepMoment y_Score_keepMoment ∈ wA := wA_at 5 (by decide +kernel) rfl
theorem wd_6 : Cond.selects "CanonMaker$Judge" y_Judge_hear y_Judge_hear ∈ wA := wA_at 6 (by decide +kernel) rfl
theorem wd_7 : Cond.selects "CanonMaker$Judge" y_Judge_judgeEach y_Judge_judgeEach ∈ wA := wA_at 7 (by decide +kernel) rfl
theorem wd_8 : Cond.selects "CanonMaker$Judge" y_Judge_breaksAlone y_Judge_breaksAlone ∈ wA := wA_at 8 (by decide +kernel) rfl
theorem wd_9 : Cond.selects "CanonMaker$Judge" y_Judge_leaps y_Judge_leaps ∈ wA := wA_at 9 (by decide +kernel) rfl
theorem wd_10 : Cond.selects "CanonMaker$Judge" y_Judge_keepFault y_Judge_keepFault ∈ wA := wA_at 10 (by decide +kernel) rfl
theorem wd_11 : Cond.selects "CanonMaker$Judge" y_Judge_judgePairs y_Judge_judgePairs ∈ wA := wA_at 11 (by decide +kernel) rfl
theorem wd_12 : Cond.selects "CanonMaker$Judge" y_Judge_breakTogether y_Judge_breakTogether ∈ wA := wA_at 12 (by decide +kernel) rfl
theorem wd_13 : Cond.selects "CanonMaker$Judge" y_Judge_clash y_Judge_clash ∈ wA := wA_at 13 (by decide +kernel) rfl
theorem wd_14 : Cond.selects "CanonMaker$Judge" y_Judge_isFourthGood y_Judge_isFourthGood ∈ wA := wA_at 14 (by decide +kernel) rfl
theorem wd_15 : Cond.selects "CanonMaker$Judge" y_Judge_gait y_Judge_gait ∈ wA := wA_at 15 (by decide +kernel) rfl
theorem wd_16 : Cond.selects "CanonMaker$Judge" y_Judge_moveAlike y_Judge_moveAlike ∈ wA := wA_at 16 (by decide +kernel) rfl
theorem wd_17 : Cond.selects "CanonMaker$Judge" y_Judge_changeDistance y_Judge_changeDistance ∈ wA := wA_at 17 (by decide +kernel) rfl
theorem wd_18 : Cond.selects "CanonMaker$Judge" y_Judge_upperJumps y_Judge_upperJumps ∈ wA := wA_at 18 (by decide +kernel) rfl
theorem wd_19 : Cond.selects "CanonMaker" y_CM_listOpenNotes y_CM_listOpenNotes ∈ wA := wA_at 19 (by decide +kernel) rfl
theorem wd_20 : Cond.selects "CanonMaker" y_CM_searchPitches y_CM_searchPitches ∈ wA := wA_at 20 (by decide +kernel) rfl
theorem wd_21 : Cond.selects "CanonMaker" y_CM_reopenNotes y_CM_reopenNotes ∈ wA := wA_at 21 (by decide +kernel) rfl
theorem wd_22 : Cond.selects "CanonMaker" y_CM_layPair y_CM_layPair ∈ wA := wA_at 22 (by decide +kernel) rfl
theorem wd_23 : Cond.selects "CanonMaker" y_CM_searchIntervals y_CM_searchIntervals ∈ wA := wA_at 23 (by decide +kernel) rfl
theorem wd_24 : Cond.selects "CanonMakerModel" y_Mo_endOf y_Mo_endOf ∈ wA := wA_at 24 (by decide +kernel) rfl
theorem wd_25 : Cond.selects "CanonMakerModel" y_Mo_lineSize y_Mo_lineSize ∈ wA := wA_at 25 (by decide +kernel) rfl
theorem wd_26 : Cond.selects "CanonMakerModel" y_Mo_layAll y_Mo_layAll ∈ wA := wA_at 26 (by decide +kernel) rfl
theorem wd_27 : Cond.selects "CanonMakerModel" y_Mo_lay y_Mo_lay ∈ wA := wA_at 27 (by decide +kernel) rfl
theorem wd_28 : Cond.selects "CanonMakerModel" y_Mo_pitchOf y_Mo_pitchOf ∈ wA := wA_at 28 (by decide +kernel) rfl
theorem wd_29 : Cond.selects "CanonMakerModel" y_Mo_isLong y_Mo_isLong ∈ wA := wA_at 29 (by decide +kernel) rfl
theorem wd_30 : Cond.selects "CanonMakerModel" y_Mo_judge y_Mo_judge ∈ wA := wA_at 30 (by decide +kernel) rfl
theorem wd_31 : Cond.selects "CanonMakerModel" y_Mo_breaksAlone y_Mo_breaksAlone ∈ wA := wA_at 31 (by decide +kernel) rfl
theorem wd_32 : Cond.selects "CanonMakerModel" y_Mo_isStruck y_Mo_isStruck ∈ wA := wA_at 32 (by decide +kernel) rfl
theorem wd_33 : Cond.selects "CanonMakerModel" y_Mo_beside y_Mo_beside ∈ wA := wA_at 33 (by decide +kernel) rfl
theorem wd_34 : Cond.selects "CanonMakerModel" y_Mo_breaks y_Mo_breaks ∈ wA := wA_at 34 (by decide +kernel) rfl
theorem wd_35 : Cond.selects "CanonMakerModel" y_Mo_sounds y_Mo_sounds ∈ wA := wA_at 35 (by decide +kernel) rfl
theorem wd_36 : Cond.selects "CanonMakerModel" y_Mo_isDissonant y_Mo_isDissonant ∈ wA := wA_at 36 (by decide +kernel) rfl
theorem wd_37 : Cond.selects "CanonMakerModel" y_Mo_stepsAt y_Mo_stepsAt ∈ wA := wA_at 37 (by decide +kernel) rfl
theorem wd_38 : Cond.selects "CanonMakerModel" y_Mo_isClean y_Mo_isClean ∈ wA := wA_at 38 (by decide +kernel) rfl
def T_Subject : u_T := fun k => match k with
  | 0 => ("CanonMaker$Subject", "pitches", "[I", true)
  | 1 => ("CanonMaker$Subject", "lengths", "[I", true)
  | _ => ("CanonMaker$Subject", "count", "I", false)
def t_Subject : Nat → FieldType := fun k => match k with
  | 0 => .array .int
  | 1 => .array .int
  | _ => .int
theorem n_Subject : ∀ a, a < 3 → ∀ b, b < 3 → a ≠ b → (T_Subject a).2.1 ≠ (T_Subject b).2.1 := by decide +kernel
theorem t_Subject_ok : ∀ k, k < 3 → parseFieldDescriptor (T_Subject k).2.2.1 = some (t_Subject k) := by decide +kernel
theorem in_Subject : ∀ w ∈ u_ws "CanonMaker$Subject" T_Subject 3, w ∈ wA := u_in_all (fun k hk => match k, hk with
  | 0, _ => wd_73
  | 1, _ => wd_75
  | 2, _ => wd_77
  | k + 3, h => absurd h (by omega))
def T_Voice : u_T := fun k => match k with
  | 0 => ("CanonMaker$Voice", "on", "Z", false)
  | 1 => ("CanonMaker$Voice", "delay", "I", false)
  | 2 => ("CanonMaker$Voice", "interval", "I", false)
  | 3 => ("CanonMaker$Voice", "mode", "I", false)
  | _ => ("CanonMaker$Voice", "factor", "I", false)
def t_Voice : Nat → FieldType := fun k => match k with
  | 0 => .boolean
  | 1 => .int
  | 2 => .int
  | 3 => .int
  | _ => .int
theorem n_Voice : ∀ a, a < 5 → ∀ b, b < 5 → a ≠ b → (T_Voice a).2.1 ≠ (T_Voice b).2.1 := by decide +kernel
theorem t_Voice_ok : ∀ k, k < 5 → parseFieldDescriptor (T_Voice k).2.2.1 = some (t_Voice k) := by decide +kernel
theorem in_Voice : ∀ w ∈ u_ws "CanonMaker$Voice" T_Voice 5, w ∈ wA := u_in_all (fun k hk => match k, hk with
  | 0, _ => wd_276
  | 1, _ => wd_278
  | 2, _ => wd_280
  | 3, _ => wd_282
  | 4, _ => wd_284
  | k + 5, h => absurd h (by omega))
def T_Bounds : u_T := fun k => match k with
  | 0 => ("CanonMaker$Bounds", "low", "I", false)
  | 1 => ("CanonMaker$Bounds", "high", "I", false)
  | 2 => ("CanonMaker$Bounds", "scaleMask", "I", false)
  | 3 => ("CanonMaker$Bounds", "beatLength", "I", false)
  | _ => ("CanonMaker$Bounds", "ruleMask", "I", false)
def t_Bounds : Nat → FieldType := fun k => match k with
  | 0 => .int
  | 1 => .int
  | 2 => .int
  | 3 => .int
  | _ => .int
theorem n_Bounds : ∀ a, a < 5 → ∀ b, b < 5 → a ≠ b → (T_Bounds a).2.1 ≠ (T_Bounds b).2.1 := by decide +kernel
theorem t_Bounds_ok : ∀ k, k < 5 → parseFieldDescriptor (T_Bounds k).2.2.1 = some (t_Bounds k) := by decide +kernel
theorem in_Bounds : ∀ w ∈ u_ws "CanonMaker$Bounds" T_Bounds 5, w ∈ wA := u_in_all (fun k hk => match k, hk with
  | 0, _ => wd_102
  | 1, _ => wd_104
  | 2, _ => wd_106
  | 3, _ => wd_108
  | 4, _ => wd_110
  | k + 5, h => absurd h (by omega))
def T_Line : u_T := fun k => match k with
  | 0 => ("CanonMaker$Line", "notes", "[I", true)
  | 1 => ("CanonMaker$Line", "begins", "[I", true)
  | 2 => ("CanonMaker$Line", "pitches", "[I", true)
  | 3 => ("CanonMaker$Line", "before", "[I", true)
  | 4 => ("CanonMaker$Line", "behind", "[I", true)
  | 5 => ("CanonMaker$Line", "count", "I", false)
  | 6 => ("CanonMaker$Line", "units", "I", false)
  | 7 => ("CanonMaker$Line", "cycle", "I", false)
  | 8 => ("CanonMaker$Line", "delay", "I", false)
  | 9 => ("CanonMaker$Line", "interval", "I", false)
  | 10 => ("CanonMaker$Line", "on", "Z", false)
  | _ => ("CanonMaker$Line", "inverted", "Z", false)
def t_Line : Nat → FieldType := fun k => match k with
  | 0 => .array .int
  | 1 => .array .int
  | 2 => .array .int
  | 3 => .array .int
  | 4 => .array .int
  | 5 => .int
  | 6 => .int
  | 7 => .int
  | 8 => .int
  | 9 => .int
  | 10 => .boolean
  | _ => .boolean
theorem n_Line : ∀ a, a < 12 → ∀ b, b < 12 → a ≠ b → (T_Line a).2.1 ≠ (T_Line b).2.1 := by decide +kernel
theorem t_Line_ok : ∀ k, k < 12 → parseFieldDescriptor (T_Line k).2.2.1 = some (t_Line k) := by decide +kernel
theorem in_Line : ∀ w ∈ u_ws "CanonMaker$Line" T_Line 12, w ∈ wA := u_in_all (fun k hk => match k, hk with
  | 0, _ => wd_152
  | 1, _ => wd_154
  | 2, _ => wd_156
  | 3, _ => wd_158
  | 4, _ => wd_160
  | 5, _ => wd_162
  | 6, _ => wd_164
  | 7, _ => wd_166
  | 8, _ => wd_168
  | 9, _ => wd_170
  | 10, _ => wd_172
  | 11, _ => wd_174
  | k + 12, h => absurd h (by omega))
def T_Score : u_T := fun k => match k with
  | 0 => ("CanonMaker$Score", "lines", "[LCanonMaker$Line;", true)
  | 1 => ("CanonMaker$Score", "moments", "[I", true)
  | 2 => ("CanonMaker$Score", "touched", "[I", true)
  | 3 => ("CanonMaker$Score", "places", "[I", true)
  | 4 => ("CanonMaker$Score", "strikes", "[I", true)
  | _ => ("CanonMaker$Score", "count", "I", false)
def t_Score : Nat → FieldType := fun k => match k with
  | 0 => .array (.object "CanonMaker$Line")
  | 1 => .array .int
  | 2 => .array .int
  | 3 => .array .int
  | 4 => .array .int
  | _ => .int
theorem n_Score : ∀ a, a < 6 → ∀ b, b < 6 → a ≠ b → (T_Score a).2.1 ≠ (T_Score b).2.1 := by decide +kernel
theorem t_Score_ok : ∀ k, k < 6 → parseFieldDescriptor (T_Score k).2.2.1 = some (t_Score k) := by decide +kernel
theorem in_Score : ∀ w ∈ u_ws "CanonMaker$Score" T_Score 6, w ∈ wA := u_in_all (fun k hk => match k, hk with
  | 0, _ => wd_190
  | 1, _ => wd_192
  | 2, _ => wd_194
  | 3, _ => wd_196
  | 4, _ => wd_198
  | 5, _ => wd_200
  | k + 6, h => absurd h (by omega))
def T_Judge : u_T := fun k => match k with
  | 0 => ("CanonMaker$Judge", "score", "LCanonMaker$Score;", true)
  | 1 => ("CanonMaker$Judge", "bounds", "LCanonMaker$Bounds;", true)
  | 2 => ("CanonMaker$Judge", "present", "[I", true)
  | 3 => ("CanonMaker$Judge", "struck", "[Z", true)
  | 4 => ("CanonMaker$Judge", "now", "[I", true)
  | 5 => ("CanonMaker$Judge", "old", "[I", true)
  | 6 => ("CanonMaker$Judge", "next", "[I", true)
  | 7 => ("CanonMaker$Judge", "presentCount", "I", false)
  | 8 => ("CanonMaker$Judge", "time", "I", false)
  | 9 => ("CanonMaker$Judge", "found", "I", false)
  | 10 => ("CanonMaker$Judge", "sought", "I", false)
  | 11 => ("CanonMaker$Judge", "soughtTime", "I", false)
  | 12 => ("CanonMaker$Judge", "soughtRule", "I", false)
  | 13 => ("CanonMaker$Judge", "soughtA", "I", false)
  | _ => ("CanonMaker$Judge", "soughtB", "I", false)
def t_Judge : Nat → FieldType := fun k => match k with
  | 0 => .object "CanonMaker$Score"
  | 1 => .object "CanonMaker$Bounds"
  | 2 => .array .int
  | 3 => .array .boolean
  | 4 => .array .int
  | 5 => .array .int
  | 6 => .array .int
  | 7 => .int
  | 8 => .int
  | 9 => .int
  | 10 => .int
  | 11 => .int
  | 12 => .int
  | 13 => .int
  | _ => .int
theorem n_Judge : ∀ a, a < 15 → ∀ b, b < 15 → a ≠ b → (T_Judge a).2.1 ≠ (T_Judge b).2.1 := by decide +kernel
theorem t_Judge_ok : ∀ k, k < 15 → parseFieldDescriptor (T_Judge k).2.2.1 = some (t_Judge k) := by decide +kernel
theorem in_Judge : ∀ w ∈ u_ws "CanonMaker$Judge" T_Judge 15, w ∈ wA := u_in_all (fun k hk => match k, hk with
  | 0, _ => wd_228
  | 1, _ => wd_230
  | 2, _ => wd_232
  | 3, _ => wd_234
  | 4, _ => wd_236
  | 5, _ => wd_238
  | 6, _ => wd_240
  | 7, _ => wd_242
  | 8, _ => wd_244
  | 9, _ => wd_246
  | 10, _ => wd_248
  | 11, _ => wd_250
  | 12, _ => wd_252
  | 13, _ => wd_254
  | 14, _ => wd_256
  | k + 15, h => absurd h (by omega))
def T_CM : u_T := fun k => match k with
  | 0 => ("CanonMaker", "subject", "LCanonMaker$Subject;", true)
  | 1 => ("CanonMaker", "voices", "[LCanonMaker$Voice;", true)
  | 2 => ("CanonMaker", "bounds", "LCanonMaker$Bounds;", true)
  | 3 => ("CanonMaker", "score", "LCanonMaker$Score;", true)
  | 4 => ("CanonMaker", "judge", "LCanonMaker$Judge;", true)
  | 5 => ("CanonMaker", "openNotes", "[I", true)
  | 6 => ("CanonMaker", "shiftsFound", "[I", true)
  | 7 => ("CanonMaker", "roundLength", "I", false)
  | 8 => ("CanonMaker", "openCount", "I", false)
  | 9 => ("CanonMaker", "stepsTried", "I", false)
  | _ => ("CanonMaker", "shiftCount", "I", false)
def t_CM : Nat → FieldType := fun k => match k with
  | 0 => .object "CanonMaker$Subject"
  | 1 => .array (.object "CanonMaker$Voice")
  | 2 => .object "CanonMaker$Bounds"
  | 3 => .object "CanonMaker$Score"
  | 4 => .object "CanonMaker$Judge"
  | 5 => .array .int
  | 6 => .array .int
  | 7 => .int
  | 8 => .int
  | 9 => .int
  | _ => .int
theorem n_CM : ∀ a, a < 11 → ∀ b, b < 11 → a ≠ b → (T_CM a).2.1 ≠ (T_CM b).2.1 := by decide +kernel
theorem t_CM_ok : ∀ k, k < 11 → parseFieldDescriptor (T_CM k).2.2.1 = some (t_CM k) := by decide +kernel
theorem in_CM : ∀ w ∈ u_ws "CanonMaker" T_CM 11, w ∈ wA := u_in_all (fun k hk => match k, hk with
  | 0, _ => wd_298
  | 1, _ => wd_300
  | 2, _ => wd_302
  | 3, _ => wd_304
  | 4, _ => wd_306
  | 5, _ => wd_308
  | 6, _ => wd_310
  | 7, _ => wd_312
  | 8, _ => wd_314
  | 9, _ => wd_316
  | 10, _ => wd_318
  | k + 11, h => absurd h (by omega))
def T_Mo : u_T := fun k => match k with
  | 0 => ("CanonMakerModel", "pitches", "[I", true)
  | 1 => ("CanonMakerModel", "lengths", "[I", true)
  | 2 => ("CanonMakerModel", "notes", "I", false)
  | 3 => ("CanonMakerModel", "on", "[Z", true)
  | 4 => ("CanonMakerModel", "delays", "[I", true)
  | 5 => ("CanonMakerModel", "intervals", "[I", true)
  | 6 => ("CanonMakerModel", "modes", "[I", true)
  | 7 => ("CanonMakerModel", "factors", "[I", true)
  | 8 => ("CanonMakerModel", "low", "I", false)
  | 9 => ("CanonMakerModel", "high", "I", false)
  | 10 => ("CanonMakerModel", "scale", "I", false)
  | 11 => ("CanonMakerModel", "beat", "I", false)
  | 12 => ("CanonMakerModel", "round", "I", false)
  | 13 => ("CanonMakerModel", "rules", "I", false)
  | 14 => ("CanonMakerModel", "spent", "I", false)
  | 15 => ("CanonMakerModel", "pitchAt", "[I", true)
  | 16 => ("CanonMakerModel", "struck", "[Z", true)
  | 17 => ("CanonMakerModel", "noteAt", "[I", true)
  | 18 => ("CanonMakerModel", "line", "[I", true)
  | 19 => ("CanonMakerModel", "times", "I", false)
  | 20 => ("CanonMakerModel", "faultTime", "I", false)
  | 21 => ("CanonMakerModel", "faultRule", "I", false)
  | 22 => ("CanonMakerModel", "faultA", "I", false)
  | 23 => ("CanonMakerModel", "faultB", "I", false)
  | 24 => ("CanonMakerModel", "opens", "[I", true)
  | 25 => ("CanonMakerModel", "shiftDelays", "[I", true)
  | 26 => ("CanonMakerModel", "shiftIntervals", "[I", true)
  | 27 => ("CanonMakerModel", "shiftCount", "I", false)
  | _ => ("CanonMakerModel", "were", "[Z", true)
def t_Mo : Nat → FieldType := fun k => match k with
  | 0 => .array .int
  | 1 => .array .int
  | 2 => .int
  | 3 => .array .boolean
  | 4 => .array .int
  | 5 => .array .int
  | 6 => .array .int
  | 7 => .array .int
  | 8 => .int
  | 9 => .int
  | 10 => .int
  | 11 => .int
  | 12 => .int
  | 13 => .int
  | 14 => .int
  | 15 => .array .int
  | 16 => .array .boolean
  | 17 => .array .int
  | 18 => .array .int
  | 19 => .int
  | 20 => .int
  | 21 => .int
  | 22 => .int
  | 23 => .int
  | 24 => .array .int
  | 25 => .array .int
  | 26 => .array .int
  | 27 => .int
  | _ => .array .boolean
theorem n_Mo : ∀ a, a < 29 → ∀ b, b < 29 → a ≠ b → (T_Mo a).2.1 ≠ (T_Mo b).2.1 := by decide +kernel
theorem t_Mo_ok : ∀ k, k < 29 → parseFieldDescriptor (T_Mo k).2.2.1 = some (t_Mo k) := by decide +kernel
theorem in_Mo : ∀ w ∈ u_ws "CanonMakerModel" T_Mo 29, w ∈ wA := u_in_all (fun k hk => match k, hk with
  | 0, _ => wd_624
  | 1, _ => wd_626
  | 2, _ => wd_628
  | 3, _ => wd_630
  | 4, _ => wd_632
  | 5, _ => wd_634
  | 6, _ => wd_636
  | 7, _ => wd_638
  | 8, _ => wd_640
  | 9, _ => wd_642
  | 10, _ => wd_644
  | 11, _ => wd_646
  | 12, _ => wd_648
  | 13, _ => wd_650
  | 14, _ => wd_652
  | 15, _ => wd_654
  | 16, _ => wd_656
  | 17, _ => wd_658
  | 18, _ => wd_660
  | 19, _ => wd_662
  | 20, _ => wd_664
  | 21, _ => wd_666
  | 22, _ => wd_668
  | 23, _ => wd_670
  | 24, _ => wd_672
  | 25, _ => wd_674
  | 26, _ => wd_676
  | 27, _ => wd_678
  | 28, _ => wd_680
  | k + 29, h => absurd h (by omega))
theorem wA_V {own C : String} {idx : Nat} {y : MethodName} {bytes : ByteArray} {maxL : Nat} {ret : Option FieldType} (h1 : Cond.methodLink own idx y ∈ wA) (h2 : Cond.instanceMethod y ∈ wA) (h3 : Cond.selects C y y ∈ wA) (h4 : Cond.initialized C ∈ wA) (h5 : Cond.code y bytes maxL ret ∈ wA) : GoodIn wA (wsV own idx C y (Cond.code y bytes maxL ret :: wA)) := by
  intro w hw
  unfold wsV at hw
  rcases List.mem_append.mp hw with h | h
  · rcases List.mem_cons.mp h with rfl | h
    · exact wA_good _ h1
    rcases List.mem_cons.mp h with rfl | h
    · exact wA_good _ h2
    rcases List.mem_cons.mp h with rfl | h
    · exact wA_good _ h3
    rcases List.mem_cons.mp h with rfl | h
    · exact wA_good _ h4
    · exact absurd h List.not_mem_nil
  · rcases List.mem_cons.mp h with rfl | h
    · exact wA_good _ h5
    · exact wA_good _ h
theorem wA_S {own : String} {idx : Nat} {y : MethodName} {bytes : ByteArray} {maxL : Nat} {ret : Option FieldType} (h1 : Cond.methodLink own idx y ∈ wA) (h2 : Cond.static y ∈ wA) (h4 : Cond.initialized own ∈ wA) (h5 : Cond.code y bytes maxL ret ∈ wA) : GoodIn wA (wsS own idx y (Cond.code y bytes maxL ret :: wA)) := by
  intro w hw
  unfold wsS at hw
  rcases List.mem_append.mp hw with h | h
  · rcases List.mem_cons.mp h with rfl | h
    · exact wA_good _ h1
    rcases List.mem_cons.mp h with rfl | h
    · exact wA_good _ h2
    rcases List.mem_cons.mp h with rfl | h
    · exact wA_good _ h4
    · exact absurd h List.not_mem_nil
  · rcases List.mem_cons.mp h with rfl | h
    · exact wA_good _ h5
    · exact wA_good _ h
theorem wA_T {own : String} {idx : Nat} {y : MethodName} {bytes : ByteArray} {maxL : Nat} {ret : Option FieldType} (h1 : Cond.methodLink own idx y ∈ wA) (h2 : Cond.static y ∈ wA) (h4 : Cond.initialized y.cls ∈ wA) (h5 : Cond.code y bytes maxL ret ∈ wA) : GoodIn wA (va_wsS own idx y (Cond.code y bytes maxL ret :: wA)) := by
  intro w hw
  unfold va_wsS at hw
  rcases List.mem_append.mp hw with h | h
  · rcases List.mem_cons.mp h with rfl | h
    · exact wA_good _ h1
    rcases List.mem_cons.mp h with rfl | h
    · exact wA_good _ h2
    rcases List.mem_cons.mp h with rfl | h
    · exact wA_good _ h4
    · exact absurd h List.not_mem_nil
  · rcases List.mem_cons.mp h with rfl | h
    · exact wA_good _ h5
    · exact wA_good _ h
abbrev ws_CM_at : List Cond := Cond.code y_CM_at prog_1_method_15_code 5 (some .int) :: wA
theorem g_CM_at {own : String} {idx : Nat} (h : Cond.methodLink own idx y_CM_at ∈ wA) : GoodIn wA (wsV own idx "CanonMaker" y_CM_at ws_CM_at) := wA_V h wd_395 wd_396 wd_40 wd_397
abbrev ws_CM_beat : List Cond := Cond.code y_CM_beat prog_1_method_11_code 3 (some .int) :: wA
theorem g_CM_beat {own : String} {idx : Nat} (h : Cond.methodLink own idx y_CM_beat ∈ wA) : GoodIn wA (wsV own idx "CanonMaker" y_CM_beat ws_CM_beat) := wA_V h wd_372 wd_373 wd_40 wd_374
abbrev ws_CM_countTimes : List Cond := Cond.code y_CM_countTimes prog_1_method_24_code 4 (some .int) :: wA
theorem g_CM_countTimes {own : String} {idx : Nat} (h : Cond.methodLink own idx y_CM_countTimes ∈ wA) : GoodIn wA (wsV own idx "CanonMaker" y_CM_countTimes ws_CM_countTimes) := wA_V h wd_389 wd_0 wd_40 wd_390
abbrev ws_CM_cut : List Cond := Cond.code y_CM_cut prog_1_method_5_code 3 (some .int) :: wA
theorem g_CM_cut {own : String} {idx : Nat} (h : Cond.methodLink own idx y_CM_cut ∈ wA) : GoodIn wA (wsV own idx "CanonMaker" y_CM_cut ws_CM_cut) := wA_V h wd_341 wd_342 wd_40 wd_343
abbrev ws_CM_end : List Cond := Cond.code y_CM_end prog_1_method_14_code 1 (some .int) :: wA
theorem g_CM_end {own : String} {idx : Nat} (h : Cond.methodLink own idx y_CM_end ∈ wA) : GoodIn wA (wsV own idx "CanonMaker" y_CM_end ws_CM_end) := wA_V h wd_384 wd_385 wd_40 wd_386
abbrev ws_CM_fault : List Cond := Cond.code y_CM_fault prog_1_method_17_code 3 (some .int) :: wA
theorem g_CM_fault {own : String} {idx : Nat} (h : Cond.methodLink own idx y_CM_fault ∈ wA) : GoodIn wA (wsV own idx "CanonMaker" y_CM_fault ws_CM_fault) := wA_V h wd_543 wd_544 wd_40 wd_545
abbrev ws_CM_faults : List Cond := Cond.code y_CM_faults prog_1_method_16_code 1 (some .int) :: wA
theorem g_CM_faults {own : String} {idx : Nat} (h : Cond.methodLink own idx y_CM_faults ∈ wA) : GoodIn wA (wsV own idx "CanonMaker" y_CM_faults ws_CM_faults) := wA_V h wd_429 wd_430 wd_40 wd_431
abbrev ws_CM_isAnyTooLong : List Cond := Cond.code y_CM_isAnyTooLong prog_1_method_26_code 2 (some .boolean) :: wA
theorem g_CM_isAnyTooLong {own : String} {idx : Nat} (h : Cond.methodLink own idx y_CM_isAnyTooLong ∈ wA) : GoodIn wA (wsV own idx "CanonMaker" y_CM_isAnyTooLong ws_CM_isAnyTooLong) := wA_V h wd_434 wd_2 wd_40 wd_435
abbrev ws_CM_isFollower : List Cond := Cond.code y_CM_isFollower prog_1_method_23_code 1 (some .boolean) :: wA
theorem g_CM_isFollower {idx : Nat} (h : Cond.methodLink "CanonMaker" idx y_CM_isFollower ∈ wA) : GoodIn wA (wsS "CanonMaker" idx y_CM_isFollower ws_CM_isFollower) := wA_S h wd_357 wd_40 wd_358
abbrev ws_CM_isPitch : List Cond := Cond.code y_CM_isPitch prog_1_method_22_code 1 (some .boolean) :: wA
theorem g_CM_isPitch {idx : Nat} (h : Cond.methodLink "CanonMaker" idx y_CM_isPitch ∈ wA) : GoodIn wA (wsS "CanonMaker" idx y_CM_isPitch ws_CM_isPitch) := wA_S h wd_326 wd_40 wd_327
abbrev ws_CM_isTooLong : List Cond := Cond.code y_CM_isTooLong prog_1_method_25_code 2 (some .boolean) :: wA
theorem g_CM_isTooLong {own : String} {idx : Nat} (h : Cond.methodLink own idx y_CM_isTooLong ∈ wA) : GoodIn wA (wsV own idx "CanonMaker" y_CM_isTooLong ws_CM_isTooLong) := wA_V h wd_438 wd_3 wd_40 wd_439
abbrev ws_CM_layAll : List Cond := Cond.code y_CM_layAll prog_1_method_27_code 2 none :: wA
theorem g_CM_layAll {own : String} {idx : Nat} (h : Cond.methodLink own idx y_CM_layAll ∈ wA) : GoodIn wA (wsV own idx "CanonMaker" y_CM_layAll ws_CM_layAll) := wA_V h wd_442 wd_4 wd_40 wd_443
abbrev ws_CM_layPair : List Cond := Cond.code y_CM_layPair prog_1_method_28_code 3 none :: wA
theorem g_CM_layPair {own : String} {idx : Nat} (h : Cond.methodLink own idx y_CM_layPair ∈ wA) : GoodIn wA (wsV own idx "CanonMaker" y_CM_layPair ws_CM_layPair) := wA_V h wd_576 wd_22 wd_40 wd_577
abbrev ws_CM_listOpenNotes : List Cond := Cond.code y_CM_listOpenNotes prog_1_method_29_code 2 none :: wA
theorem g_CM_listOpenNotes {own : String} {idx : Nat} (h : Cond.methodLink own idx y_CM_listOpenNotes ∈ wA) : GoodIn wA (wsV own idx "CanonMaker" y_CM_listOpenNotes ws_CM_listOpenNotes) := wA_V h wd_552 wd_19 wd_40 wd_553
abbrev ws_CM_note : List Cond := Cond.code y_CM_note prog_1_method_2_code 4 (some .int) :: wA
theorem g_CM_note {own : String} {idx : Nat} (h : Cond.methodLink own idx y_CM_note ∈ wA) : GoodIn wA (wsV own idx "CanonMaker" y_CM_note ws_CM_note) := wA_V h wd_322 wd_323 wd_40 wd_324
abbrev ws_CM_off : List Cond := Cond.code y_CM_off prog_1_method_8_code 3 (some .int) :: wA
theorem g_CM_off {own : String} {idx : Nat} (h : Cond.methodLink own idx y_CM_off ∈ wA) : GoodIn wA (wsV own idx "CanonMaker" y_CM_off ws_CM_off) := wA_V h wd_360 wd_361 wd_40 wd_362
abbrev ws_CM_pitch : List Cond := Cond.code y_CM_pitch prog_1_method_3_code 4 (some .int) :: wA
theorem g_CM_pitch {own : String} {idx : Nat} (h : Cond.methodLink own idx y_CM_pitch ∈ wA) : GoodIn wA (wsV own idx "CanonMaker" y_CM_pitch ws_CM_pitch) := wA_V h wd_329 wd_330 wd_40 wd_331
abbrev ws_CM_reopenNotes : List Cond := Cond.code y_CM_reopenNotes prog_1_method_30_code 2 none :: wA
theorem g_CM_reopenNotes {own : String} {idx : Nat} (h : Cond.methodLink own idx y_CM_reopenNotes ∈ wA) : GoodIn wA (wsV own idx "CanonMaker" y_CM_reopenNotes ws_CM_reopenNotes) := wA_V h wd_560 wd_21 wd_40 wd_561
abbrev ws_CM_round : List Cond := Cond.code y_CM_round prog_1_method_12_code 3 (some .int) :: wA
theorem g_CM_round {own : String} {idx : Nat} (h : Cond.methodLink own idx y_CM_round ∈ wA) : GoodIn wA (wsV own idx "CanonMaker" y_CM_round ws_CM_round) := wA_V h wd_376 wd_377 wd_40 wd_378
abbrev ws_CM_rules : List Cond := Cond.code y_CM_rules prog_1_method_13_code 3 (some .int) :: wA
theorem g_CM_rules {own : String} {idx : Nat} (h : Cond.methodLink own idx y_CM_rules ∈ wA) : GoodIn wA (wsV own idx "CanonMaker" y_CM_rules ws_CM_rules) := wA_V h wd_380 wd_381 wd_40 wd_382
abbrev ws_CM_scale : List Cond := Cond.code y_CM_scale prog_1_method_10_code 3 (some .int) :: wA
theorem g_CM_scale {own : String} {idx : Nat} (h : Cond.methodLink own idx y_CM_scale ∈ wA) : GoodIn wA (wsV own idx "CanonMaker" y_CM_scale ws_CM_scale) := wA_V h wd_368 wd_369 wd_40 wd_370
abbrev ws_CM_searchIntervals : List Cond := Cond.code y_CM_searchIntervals prog_1_method_32_code 4 none :: wA
theorem g_CM_searchIntervals {own : String} {idx : Nat} (h : Cond.methodLink own idx y_CM_searchIntervals ∈ wA) : GoodIn wA (wsV own idx "CanonMaker" y_CM_searchIntervals ws_CM_searchIntervals) := wA_V h wd_583 wd_23 wd_40 wd_584
abbrev ws_CM_searchPitches : List Cond := Cond.code y_CM_searchPitches prog_1_method_31_code 6 (some .int) :: wA
theorem g_CM_searchPitches {own : String} {idx : Nat} (h : Cond.methodLink own idx y_CM_searchPitches ∈ wA) : GoodIn wA (wsV own idx "CanonMaker" y_CM_searchPitches ws_CM_searchPitches) := wA_V h wd_556 wd_20 wd_40 wd_557
abbrev ws_CM_shift : List Cond := Cond.code y_CM_shift prog_1_method_21_code 3 (some .int) :: wA
theorem g_CM_shift {own : String} {idx : Nat} (h : Cond.methodLink own idx y_CM_shift ∈ wA) : GoodIn wA (wsV own idx "CanonMaker" y_CM_shift ws_CM_shift) := wA_V h wd_586 wd_587 wd_40 wd_588
abbrev ws_CM_shifts : List Cond := Cond.code y_CM_shifts prog_1_method_20_code 4 (some .int) :: wA
theorem g_CM_shifts {own : String} {idx : Nat} (h : Cond.methodLink own idx y_CM_shifts ∈ wA) : GoodIn wA (wsV own idx "CanonMaker" y_CM_shifts ws_CM_shifts) := wA_V h wd_567 wd_568 wd_40 wd_569
abbrev ws_CM_size : List Cond := Cond.code y_CM_size prog_1_method_6_code 1 (some .int) :: wA
theorem g_CM_size {own : String} {idx : Nat} (h : Cond.methodLink own idx y_CM_size ∈ wA) : GoodIn wA (wsV own idx "CanonMaker" y_CM_size ws_CM_size) := wA_V h wd_345 wd_346 wd_40 wd_347
abbrev ws_CM_solve : List Cond := Cond.code y_CM_solve prog_1_method_18_code 3 (some .int) :: wA
theorem g_CM_solve {own : String} {idx : Nat} (h : Cond.methodLink own idx y_CM_solve ∈ wA) : GoodIn wA (wsV own idx "CanonMaker" y_CM_solve ws_CM_solve) := wA_V h wd_547 wd_548 wd_40 wd_549
abbrev ws_CM_span : List Cond := Cond.code y_CM_span prog_1_method_9_code 3 (some .int) :: wA
theorem g_CM_span {own : String} {idx : Nat} (h : Cond.methodLink own idx y_CM_span ∈ wA) : GoodIn wA (wsV own idx "CanonMaker" y_CM_span ws_CM_span) := wA_V h wd_364 wd_365 wd_40 wd_366
abbrev ws_CM_steps : List Cond := Cond.code y_CM_steps prog_1_method_19_code 1 (some .int) :: wA
theorem g_CM_steps {own : String} {idx : Nat} (h : Cond.methodLink own idx y_CM_steps ∈ wA) : GoodIn wA (wsV own idx "CanonMaker" y_CM_steps ws_CM_steps) := wA_V h wd_563 wd_564 wd_40 wd_565
abbrev ws_CM_told : List Cond := Cond.code y_CM_told prog_1_method_4_code 3 (some .int) :: wA
theorem g_CM_told {own : String} {idx : Nat} (h : Cond.methodLink own idx y_CM_told ∈ wA) : GoodIn wA (wsV own idx "CanonMaker" y_CM_told ws_CM_told) := wA_V h wd_337 wd_338 wd_40 wd_339
abbrev ws_CM_voice : List Cond := Cond.code y_CM_voice prog_1_method_7_code 7 (some .int) :: wA
theorem g_CM_voice {own : String} {idx : Nat} (h : Cond.methodLink own idx y_CM_voice ∈ wA) : GoodIn wA (wsV own idx "CanonMaker" y_CM_voice ws_CM_voice) := wA_V h wd_353 wd_354 wd_40 wd_355
abbrev ws_Judge_breakTogether : List Cond := Cond.code y_Judge_breakTogether prog_3_method_8_code 4 (some .boolean) :: wA
theorem g_Judge_breakTogether {own : String} {idx : Nat} (h : Cond.methodLink own idx y_Judge_breakTogether ∈ wA) : GoodIn wA (wsV own idx "CanonMaker$Judge" y_Judge_breakTogether ws_Judge_breakTogether) := wA_V h wd_510 wd_12 wd_45 wd_511
abbrev ws_Judge_breaksAlone : List Cond := Cond.code y_Judge_breaksAlone prog_3_method_7_code 3 (some .boolean) :: wA
theorem g_Judge_breaksAlone {own : String} {idx : Nat} (h : Cond.methodLink own idx y_Judge_breaksAlone ∈ wA) : GoodIn wA (wsV own idx "CanonMaker$Judge" y_Judge_breaksAlone ws_Judge_breaksAlone) := wA_V h wd_487 wd_8 wd_45 wd_488
abbrev ws_Judge_changeDistance : List Cond := Cond.code y_Judge_changeDistance prog_3_method_16_code 4 (some .boolean) :: wA
theorem g_Judge_changeDistance {own : String} {idx : Nat} (h : Cond.methodLink own idx y_Judge_changeDistance ∈ wA) : GoodIn wA (wsV own idx "CanonMaker$Judge" y_Judge_changeDistance ws_Judge_changeDistance) := wA_V h wd_536 wd_17 wd_45 wd_537
abbrev ws_Judge_clash : List Cond := Cond.code y_Judge_clash prog_3_method_10_code 5 (some .boolean) :: wA
theorem g_Judge_clash {own : String} {idx : Nat} (h : Cond.methodLink own idx y_Judge_clash ∈ wA) : GoodIn wA (wsV own idx "CanonMaker$Judge" y_Judge_clash ws_Judge_clash) := wA_V h wd_514 wd_13 wd_45 wd_515
abbrev ws_Judge_countFaults : List Cond := Cond.code y_Judge_countFaults prog_3_method_2_code 9 (some .int) :: wA
theorem g_Judge_countFaults {own : String} {idx : Nat} (h : Cond.methodLink own idx y_Judge_countFaults ∈ wA) : GoodIn wA (wsV own idx "CanonMaker$Judge" y_Judge_countFaults ws_Judge_countFaults) := wA_V h wd_472 wd_473 wd_45 wd_474
abbrev ws_Judge_gait : List Cond := Cond.code y_Judge_gait prog_3_method_13_code 6 (some .int) :: wA
theorem g_Judge_gait {own : String} {idx : Nat} (h : Cond.methodLink own idx y_Judge_gait ∈ wA) : GoodIn wA (wsV own idx "CanonMaker$Judge" y_Judge_gait ws_Judge_gait) := wA_V h wd_522 wd_15 wd_45 wd_523
abbrev ws_Judge_hear : List Cond := Cond.code y_Judge_hear prog_3_method_3_code 5 none :: wA
theorem g_Judge_hear {own : String} {idx : Nat} (h : Cond.methodLink own idx y_Judge_hear ∈ wA) : GoodIn wA (wsV own idx "CanonMaker$Judge" y_Judge_hear ws_Judge_hear) := wA_V h wd_477 wd_6 wd_45 wd_478
abbrev ws_Judge_isExcused : List Cond := Cond.code y_Judge_isExcused prog_3_method_12_code 2 (some .boolean) :: wA
theorem g_Judge_isExcused {idx : Nat} (h : Cond.methodLink "CanonMaker$Judge" idx y_Judge_isExcused ∈ wA) : GoodIn wA (wsS "CanonMaker$Judge" idx y_Judge_isExcused ws_Judge_isExcused) := wA_S h wd_528 wd_45 wd_529
abbrev ws_Judge_isFourthGood : List Cond := Cond.code y_Judge_isFourthGood prog_3_method_11_code 5 (some .boolean) :: wA
theorem g_Judge_isFourthGood {own : String} {idx : Nat} (h : Cond.methodLink own idx y_Judge_isFourthGood ∈ wA) : GoodIn wA (wsV own idx "CanonMaker$Judge" y_Judge_isFourthGood ws_Judge_isFourthGood) := wA_V h wd_518 wd_14 wd_45 wd_519
abbrev ws_Judge_isKnown : List Cond := Cond.code y_Judge_isKnown prog_3_method_18_code 1 (some .boolean) :: wA
theorem g_Judge_isKnown {idx : Nat} (h : Cond.methodLink "CanonMaker$Judge" idx y_Judge_isKnown ∈ wA) : GoodIn wA (wsS "CanonMaker$Judge" idx y_Judge_isKnown ws_Judge_isKnown) := wA_S h wd_498 wd_45 wd_499
abbrev ws_Judge_isStepUp : List Cond := Cond.code y_Judge_isStepUp prog_3_method_14_code 1 (some .boolean) :: wA
theorem g_Judge_isStepUp {idx : Nat} (h : Cond.methodLink "CanonMaker$Judge" idx y_Judge_isStepUp ∈ wA) : GoodIn wA (wsS "CanonMaker$Judge" idx y_Judge_isStepUp ws_Judge_isStepUp) := wA_S h wd_525 wd_45 wd_526
abbrev ws_Judge_judgeEach : List Cond := Cond.code y_Judge_judgeEach prog_3_method_4_code 4 none :: wA
theorem g_Judge_judgeEach {own : String} {idx : Nat} (h : Cond.methodLink own idx y_Judge_judgeEach ∈ wA) : GoodIn wA (wsV own idx "CanonMaker$Judge" y_Judge_judgeEach ws_Judge_judgeEach) := wA_V h wd_483 wd_7 wd_45 wd_484
abbrev ws_Judge_judgePairs : List Cond := Cond.code y_Judge_judgePairs prog_3_method_5_code 7 none :: wA
theorem g_Judge_judgePairs {own : String} {idx : Nat} (h : Cond.methodLink own idx y_Judge_judgePairs ∈ wA) : GoodIn wA (wsV own idx "CanonMaker$Judge" y_Judge_judgePairs ws_Judge_judgePairs) := wA_V h wd_506 wd_11 wd_45 wd_507
abbrev ws_Judge_keepFault : List Cond := Cond.code y_Judge_keepFault prog_3_method_6_code 4 none :: wA
theorem g_Judge_keepFault {own : String} {idx : Nat} (h : Cond.methodLink own idx y_Judge_keepFault ∈ wA) : GoodIn wA (wsV own idx "CanonMaker$Judge" y_Judge_keepFault ws_Judge_keepFault) := wA_V h wd_502 wd_10 wd_45 wd_503
abbrev ws_Judge_leaps : List Cond := Cond.code y_Judge_leaps prog_3_method_9_code 3 (some .boolean) :: wA
theorem g_Judge_leaps {own : String} {idx : Nat} (h : Cond.methodLink own idx y_Judge_leaps ∈ wA) : GoodIn wA (wsV own idx "CanonMaker$Judge" y_Judge_leaps ws_Judge_leaps) := wA_V h wd_492 wd_9 wd_45 wd_493
abbrev ws_Judge_moveAlike : List Cond := Cond.code y_Judge_moveAlike prog_3_method_15_code 4 (some .boolean) :: wA
theorem g_Judge_moveAlike {own : String} {idx : Nat} (h : Cond.methodLink own idx y_Judge_moveAlike ∈ wA) : GoodIn wA (wsV own idx "CanonMaker$Judge" y_Judge_moveAlike ws_Judge_moveAlike) := wA_V h wd_532 wd_16 wd_45 wd_533
abbrev ws_Judge_upperJumps : List Cond := Cond.code y_Judge_upperJumps prog_3_method_17_code 4 (some .boolean) :: wA
theorem g_Judge_upperJumps {own : String} {idx : Nat} (h : Cond.methodLink own idx y_Judge_upperJumps ∈ wA) : GoodIn wA (wsV own idx "CanonMaker$Judge" y_Judge_upperJumps ws_Judge_upperJumps) := wA_V h wd_540 wd_18 wd_45 wd_541
abbrev ws_Line_joinNeighbours : List Cond := Cond.code y_Line_joinNeighbours prog_4_method_3_code 6 none :: wA
theorem g_Line_joinNeighbours {own : String} {idx : Nat} (h : Cond.methodLink own idx y_Line_joinNeighbours ∈ wA) : GoodIn wA (wsV own idx "CanonMaker$Line" y_Line_joinNeighbours ws_Line_joinNeighbours) := wA_V h wd_404 wd_1 wd_44 wd_405
abbrev ws_Line_lay : List Cond := Cond.code y_Line_lay prog_4_method_2_code 6 none :: wA
theorem g_Line_lay {own : String} {idx : Nat} (h : Cond.methodLink own idx y_Line_lay ∈ wA) : GoodIn wA (wsV own idx "CanonMaker$Line" y_Line_lay ws_Line_lay) := wA_V h wd_399 wd_400 wd_44 wd_401
abbrev ws_Line_placeAt : List Cond := Cond.code y_Line_placeAt prog_4_method_6_code 5 (some .int) :: wA
theorem g_Line_placeAt {own : String} {idx : Nat} (h : Cond.methodLink own idx y_Line_placeAt ∈ wA) : GoodIn wA (wsV own idx "CanonMaker$Line" y_Line_placeAt ws_Line_placeAt) := wA_V h wd_418 wd_419 wd_44 wd_420
abbrev ws_Line_sinceBegin : List Cond := Cond.code y_Line_sinceBegin prog_4_method_5_code 2 (some .int) :: wA
theorem g_Line_sinceBegin {own : String} {idx : Nat} (h : Cond.methodLink own idx y_Line_sinceBegin ∈ wA) : GoodIn wA (wsV own idx "CanonMaker$Line" y_Line_sinceBegin ws_Line_sinceBegin) := wA_V h wd_422 wd_423 wd_44 wd_424
abbrev ws_Line_timeOf : List Cond := Cond.code y_Line_timeOf prog_4_method_7_code 3 (some .int) :: wA
theorem g_Line_timeOf {own : String} {idx : Nat} (h : Cond.methodLink own idx y_Line_timeOf ∈ wA) : GoodIn wA (wsV own idx "CanonMaker$Line" y_Line_timeOf ws_Line_timeOf) := wA_V h wd_454 wd_455 wd_44 wd_456
abbrev ws_Line_tune : List Cond := Cond.code y_Line_tune prog_4_method_4_code 6 none :: wA
theorem g_Line_tune {own : String} {idx : Nat} (h : Cond.methodLink own idx y_Line_tune ∈ wA) : GoodIn wA (wsV own idx "CanonMaker$Line" y_Line_tune ws_Line_tune) := wA_V h wd_410 wd_411 wd_44 wd_412
abbrev ws_Score_gatherMoments : List Cond := Cond.code y_Score_gatherMoments prog_5_method_3_code 4 none :: wA
theorem g_Score_gatherMoments {own : String} {idx : Nat} (h : Cond.methodLink own idx y_Score_gatherMoments ∈ wA) : GoodIn wA (wsV own idx "CanonMaker$Score" y_Score_gatherMoments ws_Score_gatherMoments) := wA_V h wd_450 wd_451 wd_43 wd_452
abbrev ws_Score_keepMoment : List Cond := Cond.code y_Score_keepMoment prog_5_method_4_code 5 none :: wA
theorem g_Score_keepMoment {own : String} {idx : Nat} (h : Cond.methodLink own idx y_Score_keepMoment ∈ wA) : GoodIn wA (wsV own idx "CanonMaker$Score" y_Score_keepMoment ws_Score_keepMoment) := wA_V h wd_459 wd_5 wd_43 wd_460
abbrev ws_Score_notesAround : List Cond := Cond.code y_Score_notesAround prog_5_method_6_code 4 (some .int) :: wA
theorem g_Score_notesAround {idx : Nat} (h : Cond.methodLink "CanonMaker$Score" idx y_Score_notesAround ∈ wA) : GoodIn wA (wsS "CanonMaker$Score" idx y_Score_notesAround ws_Score_notesAround) := wA_S h wd_468 wd_43 wd_469
abbrev ws_Score_placeVoices : List Cond := Cond.code y_Score_placeVoices prog_5_method_5_code 6 none :: wA
theorem g_Score_placeVoices {own : String} {idx : Nat} (h : Cond.methodLink own idx y_Score_placeVoices ∈ wA) : GoodIn wA (wsV own idx "CanonMaker$Score" y_Score_placeVoices ws_Score_placeVoices) := wA_V h wd_463 wd_464 wd_43 wd_465
abbrev ws_Score_tune : List Cond := Cond.code y_Score_tune prog_5_method_2_code 3 none :: wA
theorem g_Score_tune {own : String} {idx : Nat} (h : Cond.methodLink own idx y_Score_tune ∈ wA) : GoodIn wA (wsV own idx "CanonMaker$Score" y_Score_tune ws_Score_tune) := wA_V h wd_445 wd_446 wd_43 wd_447
abbrev ws_Subject_firstSounding : List Cond := Cond.code y_Subject_firstSounding prog_6_method_5_code 2 (some .int) :: wA
theorem g_Subject_firstSounding {own : String} {idx : Nat} (h : Cond.methodLink own idx y_Subject_firstSounding ∈ wA) : GoodIn wA (wsV own idx "CanonMaker$Subject" y_Subject_firstSounding ws_Subject_firstSounding) := wA_V h wd_414 wd_415 wd_41 wd_416
abbrev ws_Subject_has : List Cond := Cond.code y_Subject_has prog_6_method_2_code 2 (some .boolean) :: wA
theorem g_Subject_has {own : String} {idx : Nat} (h : Cond.methodLink own idx y_Subject_has ∈ wA) : GoodIn wA (wsV own idx "CanonMaker$Subject" y_Subject_has ws_Subject_has) := wA_V h wd_333 wd_334 wd_41 wd_335
abbrev ws_Subject_hasOpen : List Cond := Cond.code y_Subject_hasOpen prog_6_method_4_code 2 (some .boolean) :: wA
theorem g_Subject_hasOpen {own : String} {idx : Nat} (h : Cond.methodLink own idx y_Subject_hasOpen ∈ wA) : GoodIn wA (wsV own idx "CanonMaker$Subject" y_Subject_hasOpen ws_Subject_hasOpen) := wA_V h wd_571 wd_572 wd_41 wd_573
abbrev ws_Subject_units : List Cond := Cond.code y_Subject_units prog_6_method_3_code 3 (some .int) :: wA
theorem g_Subject_units {own : String} {idx : Nat} (h : Cond.methodLink own idx y_Subject_units ∈ wA) : GoodIn wA (wsV own idx "CanonMaker$Subject" y_Subject_units ws_Subject_units) := wA_V h wd_349 wd_350 wd_41 wd_351
abbrev ws_Mo_at : List Cond := Cond.code y_Mo_at prog_9_method_20_code 3 (some .int) :: wA
theorem g_Mo_at {own : String} {idx : Nat} (h : Cond.methodLink own idx y_Mo_at ∈ wA) : GoodIn wA (wsV own idx "CanonMakerModel" y_Mo_at ws_Mo_at) := wA_V h wd_745 wd_746 wd_47 wd_747
abbrev ws_Mo_beat : List Cond := Cond.code y_Mo_beat prog_9_method_11_code 3 (some .int) :: wA
theorem g_Mo_beat {own : String} {idx : Nat} (h : Cond.methodLink own idx y_Mo_beat ∈ wA) : GoodIn wA (wsV own idx "CanonMakerModel" y_Mo_beat ws_Mo_beat) := wA_V h wd_720 wd_721 wd_47 wd_722
abbrev ws_Mo_beside : List Cond := Cond.code y_Mo_beside prog_9_method_24_code 5 (some .int) :: wA
theorem g_Mo_beside {own : String} {idx : Nat} (h : Cond.methodLink own idx y_Mo_beside ∈ wA) : GoodIn wA (wsV own idx "CanonMakerModel" y_Mo_beside ws_Mo_beside) := wA_V h wd_782 wd_33 wd_47 wd_783
abbrev ws_Mo_breaks : List Cond := Cond.code y_Mo_breaks prog_9_method_29_code 15 (some .boolean) :: wA
theorem g_Mo_breaks {own : String} {idx : Nat} (h : Cond.methodLink own idx y_Mo_breaks ∈ wA) : GoodIn wA (wsV own idx "CanonMakerModel" y_Mo_breaks ws_Mo_breaks) := wA_V h wd_786 wd_34 wd_47 wd_787
abbrev ws_Mo_breaksAlone : List Cond := Cond.code y_Mo_breaksAlone prog_9_method_26_code 7 (some .boolean) :: wA
theorem g_Mo_breaksAlone {own : String} {idx : Nat} (h : Cond.methodLink own idx y_Mo_breaksAlone ∈ wA) : GoodIn wA (wsV own idx "CanonMakerModel" y_Mo_breaksAlone ws_Mo_breaksAlone) := wA_V h wd_774 wd_31 wd_47 wd_775
abbrev ws_Mo_cut : List Cond := Cond.code y_Mo_cut prog_9_method_5_code 3 (some .int) :: wA
theorem g_Mo_cut {own : String} {idx : Nat} (h : Cond.methodLink own idx y_Mo_cut ∈ wA) : GoodIn wA (wsV own idx "CanonMakerModel" y_Mo_cut ws_Mo_cut) := wA_V h wd_696 wd_697 wd_47 wd_698
abbrev ws_Mo_end : List Cond := Cond.code y_Mo_end prog_9_method_19_code 1 (some .int) :: wA
theorem g_Mo_end {own : String} {idx : Nat} (h : Cond.methodLink own idx y_Mo_end ∈ wA) : GoodIn wA (wsV own idx "CanonMakerModel" y_Mo_end ws_Mo_end) := wA_V h wd_732 wd_733 wd_47 wd_734
abbrev ws_Mo_endOf : List Cond := Cond.code y_Mo_endOf prog_9_method_17_code 4 (some .int) :: wA
theorem g_Mo_endOf {own : String} {idx : Nat} (h : Cond.methodLink own idx y_Mo_endOf ∈ wA) : GoodIn wA (wsV own idx "CanonMakerModel" y_Mo_endOf ws_Mo_endOf) := wA_V h wd_737 wd_24 wd_47 wd_738
abbrev ws_Mo_fault : List Cond := Cond.code y_Mo_fault prog_9_method_32_code 3 (some .int) :: wA
theorem g_Mo_fault {own : String} {idx : Nat} (h : Cond.methodLink own idx y_Mo_fault ∈ wA) : GoodIn wA (wsV own idx "CanonMakerModel" y_Mo_fault ws_Mo_fault) := wA_V h wd_804 wd_805 wd_47 wd_806
abbrev ws_Mo_faults : List Cond := Cond.code y_Mo_faults prog_9_method_31_code 1 (some .int) :: wA
theorem g_Mo_faults {own : String} {idx : Nat} (h : Cond.methodLink own idx y_Mo_faults ∈ wA) : GoodIn wA (wsV own idx "CanonMakerModel" y_Mo_faults ws_Mo_faults) := wA_V h wd_761 wd_762 wd_47 wd_763
abbrev ws_Mo_gap : List Cond := Cond.code y_Mo_gap prog_9_method_25_code 2 (some .int) :: wA
theorem g_Mo_gap {idx : Nat} (h : Cond.methodLink "CanonMakerModel" idx y_Mo_gap ∈ wA) : GoodIn wA (wsS "CanonMakerModel" idx y_Mo_gap ws_Mo_gap) := wA_S h wd_797 wd_47 wd_798
abbrev ws_Mo_isClean : List Cond := Cond.code y_Mo_isClean prog_9_method_33_code 1 (some .boolean) :: wA
theorem g_Mo_isClean {own : String} {idx : Nat} (h : Cond.methodLink own idx y_Mo_isClean ∈ wA) : GoodIn wA (wsV own idx "CanonMakerModel" y_Mo_isClean ws_Mo_isClean) := wA_V h wd_813 wd_38 wd_47 wd_814
abbrev ws_Mo_isDissonant : List Cond := Cond.code y_Mo_isDissonant prog_9_method_28_code 12 (some .boolean) :: wA
theorem g_Mo_isDissonant {own : String} {idx : Nat} (h : Cond.methodLink own idx y_Mo_isDissonant ∈ wA) : GoodIn wA (wsV own idx "CanonMakerModel" y_Mo_isDissonant ws_Mo_isDissonant) := wA_V h wd_794 wd_36 wd_47 wd_795
abbrev ws_Mo_isLong : List Cond := Cond.code y_Mo_isLong prog_9_method_21_code 2 (some .boolean) :: wA
theorem g_Mo_isLong {own : String} {idx : Nat} (h : Cond.methodLink own idx y_Mo_isLong ∈ wA) : GoodIn wA (wsV own idx "CanonMakerModel" y_Mo_isLong ws_Mo_isLong) := wA_V h wd_766 wd_29 wd_47 wd_767
abbrev ws_Mo_isStruck : List Cond := Cond.code y_Mo_isStruck prog_9_method_23_code 3 (some .boolean) :: wA
theorem g_Mo_isStruck {own : String} {idx : Nat} (h : Cond.methodLink own idx y_Mo_isStruck ∈ wA) : GoodIn wA (wsV own idx "CanonMakerModel" y_Mo_isStruck ws_Mo_isStruck) := wA_V h wd_778 wd_32 wd_47 wd_779
abbrev ws_Mo_judge : List Cond := Cond.code y_Mo_judge prog_9_method_30_code 8 (some .int) :: wA
theorem g_Mo_judge {own : String} {idx : Nat} (h : Cond.methodLink own idx y_Mo_judge ∈ wA) : GoodIn wA (wsV own idx "CanonMakerModel" y_Mo_judge ws_Mo_judge) := wA_V h wd_770 wd_30 wd_47 wd_771
abbrev ws_Mo_lay : List Cond := Cond.code y_Mo_lay prog_9_method_16_code 7 none :: wA
theorem g_Mo_lay {own : String} {idx : Nat} (h : Cond.methodLink own idx y_Mo_lay ∈ wA) : GoodIn wA (wsV own idx "CanonMakerModel" y_Mo_lay ws_Mo_lay) := wA_V h wd_754 wd_27 wd_47 wd_755
abbrev ws_Mo_layAll : List Cond := Cond.code y_Mo_layAll prog_9_method_18_code 2 none :: wA
theorem g_Mo_layAll {own : String} {idx : Nat} (h : Cond.methodLink own idx y_Mo_layAll ∈ wA) : GoodIn wA (wsV own idx "CanonMakerModel" y_Mo_layAll ws_Mo_layAll) := wA_V h wd_750 wd_26 wd_47 wd_751
abbrev ws_Mo_lineSize : List Cond := Cond.code y_Mo_lineSize prog_9_method_14_code 2 (some .int) :: wA
theorem g_Mo_lineSize {own : String} {idx : Nat} (h : Cond.methodLink own idx y_Mo_lineSize ∈ wA) : GoodIn wA (wsV own idx "CanonMakerModel" y_Mo_lineSize ws_Mo_lineSize) := wA_V h wd_741 wd_25 wd_47 wd_742
abbrev ws_Mo_note : List Cond := Cond.code y_Mo_note prog_9_method_2_code 3 (some .int) :: wA
theorem g_Mo_note {own : String} {idx : Nat} (h : Cond.methodLink own idx y_Mo_note ∈ wA) : GoodIn wA (wsV own idx "CanonMakerModel" y_Mo_note ws_Mo_note) := wA_V h wd_684 wd_685 wd_47 wd_686
abbrev ws_Mo_off : List Cond := Cond.code y_Mo_off prog_9_method_8_code 3 (some .int) :: wA
theorem g_Mo_off {own : String} {idx : Nat} (h : Cond.methodLink own idx y_Mo_off ∈ wA) : GoodIn wA (wsV own idx "CanonMakerModel" y_Mo_off ws_Mo_off) := wA_V h wd_708 wd_709 wd_47 wd_710
abbrev ws_Mo_pitch : List Cond := Cond.code y_Mo_pitch prog_9_method_3_code 4 (some .int) :: wA
theorem g_Mo_pitch {own : String} {idx : Nat} (h : Cond.methodLink own idx y_Mo_pitch ∈ wA) : GoodIn wA (wsV own idx "CanonMakerModel" y_Mo_pitch ws_Mo_pitch) := wA_V h wd_688 wd_689 wd_47 wd_690
abbrev ws_Mo_pitchOf : List Cond := Cond.code y_Mo_pitchOf prog_9_method_15_code 5 (some .int) :: wA
theorem g_Mo_pitchOf {own : String} {idx : Nat} (h : Cond.methodLink own idx y_Mo_pitchOf ∈ wA) : GoodIn wA (wsV own idx "CanonMakerModel" y_Mo_pitchOf ws_Mo_pitchOf) := wA_V h wd_758 wd_28 wd_47 wd_759
abbrev ws_Mo_round : List Cond := Cond.code y_Mo_round prog_9_method_12_code 3 (some .int) :: wA
theorem g_Mo_round {own : String} {idx : Nat} (h : Cond.methodLink own idx y_Mo_round ∈ wA) : GoodIn wA (wsV own idx "CanonMakerModel" y_Mo_round ws_Mo_round) := wA_V h wd_724 wd_725 wd_47 wd_726
abbrev ws_Mo_rules : List Cond := Cond.code y_Mo_rules prog_9_method_13_code 3 (some .int) :: wA
theorem g_Mo_rules {own : String} {idx : Nat} (h : Cond.methodLink own idx y_Mo_rules ∈ wA) : GoodIn wA (wsV own idx "CanonMakerModel" y_Mo_rules ws_Mo_rules) := wA_V h wd_728 wd_729 wd_47 wd_730
abbrev ws_Mo_scale : List Cond := Cond.code y_Mo_scale prog_9_method_10_code 3 (some .int) :: wA
theorem g_Mo_scale {own : String} {idx : Nat} (h : Cond.methodLink own idx y_Mo_scale ∈ wA) : GoodIn wA (wsV own idx "CanonMakerModel" y_Mo_scale ws_Mo_scale) := wA_V h wd_716 wd_717 wd_47 wd_718
abbrev ws_Mo_shift : List Cond := Cond.code y_Mo_shift prog_9_method_37_code 3 (some .int) :: wA
theorem g_Mo_shift {own : String} {idx : Nat} (h : Cond.methodLink own idx y_Mo_shift ∈ wA) : GoodIn wA (wsV own idx "CanonMakerModel" y_Mo_shift ws_Mo_shift) := wA_V h wd_824 wd_825 wd_47 wd_826
abbrev ws_Mo_shifts : List Cond := Cond.code y_Mo_shifts prog_9_method_36_code 8 (some .int) :: wA
theorem g_Mo_shifts {own : String} {idx : Nat} (h : Cond.methodLink own idx y_Mo_shifts ∈ wA) : GoodIn wA (wsV own idx "CanonMakerModel" y_Mo_shifts ws_Mo_shifts) := wA_V h wd_820 wd_821 wd_47 wd_822
abbrev ws_Mo_size : List Cond := Cond.code y_Mo_size prog_9_method_6_code 3 (some .int) :: wA
theorem g_Mo_size {own : String} {idx : Nat} (h : Cond.methodLink own idx y_Mo_size ∈ wA) : GoodIn wA (wsV own idx "CanonMakerModel" y_Mo_size ws_Mo_size) := wA_V h wd_700 wd_701 wd_47 wd_702
abbrev ws_Mo_solve : List Cond := Cond.code y_Mo_solve prog_9_method_34_code 8 (some .int) :: wA
theorem g_Mo_solve {own : String} {idx : Nat} (h : Cond.methodLink own idx y_Mo_solve ∈ wA) : GoodIn wA (wsV own idx "CanonMakerModel" y_Mo_solve ws_Mo_solve) := wA_V h wd_808 wd_809 wd_47 wd_810
abbrev ws_Mo_sounds : List Cond := Cond.code y_Mo_sounds prog_9_method_22_code 3 (some .boolean) :: wA
theorem g_Mo_sounds {own : String} {idx : Nat} (h : Cond.methodLink own idx y_Mo_sounds ∈ wA) : GoodIn wA (wsV own idx "CanonMakerModel" y_Mo_sounds ws_Mo_sounds) := wA_V h wd_790 wd_35 wd_47 wd_791
abbrev ws_Mo_span : List Cond := Cond.code y_Mo_span prog_9_method_9_code 3 (some .int) :: wA
theorem g_Mo_span {own : String} {idx : Nat} (h : Cond.methodLink own idx y_Mo_span ∈ wA) : GoodIn wA (wsV own idx "CanonMakerModel" y_Mo_span ws_Mo_span) := wA_V h wd_712 wd_713 wd_47 wd_714
abbrev ws_Mo_steps : List Cond := Cond.code y_Mo_steps prog_9_method_35_code 1 (some .int) :: wA
theorem g_Mo_steps {own : String} {idx : Nat} (h : Cond.methodLink own idx y_Mo_steps ∈ wA) : GoodIn wA (wsV own idx "CanonMakerModel" y_Mo_steps ws_Mo_steps) := wA_V h wd_816 wd_817 wd_47 wd_818
abbrev ws_Mo_stepsAt : List Cond := Cond.code y_Mo_stepsAt prog_9_method_27_code 8 (some .int) :: wA
theorem g_Mo_stepsAt {own : String} {idx : Nat} (h : Cond.methodLink own idx y_Mo_stepsAt ∈ wA) : GoodIn wA (wsV own idx "CanonMakerModel" y_Mo_stepsAt ws_Mo_stepsAt) := wA_V h wd_801 wd_37 wd_47 wd_802
abbrev ws_Mo_told : List Cond := Cond.code y_Mo_told prog_9_method_4_code 3 (some .int) :: wA
theorem g_Mo_told {own : String} {idx : Nat} (h : Cond.methodLink own idx y_Mo_told ∈ wA) : GoodIn wA (wsV own idx "CanonMakerModel" y_Mo_told ws_Mo_told) := wA_V h wd_692 wd_693 wd_47 wd_694
abbrev ws_Mo_voice : List Cond := Cond.code y_Mo_voice prog_9_method_7_code 6 (some .int) :: wA
theorem g_Mo_voice {own : String} {idx : Nat} (h : Cond.methodLink own idx y_Mo_voice ∈ wA) : GoodIn wA (wsV own idx "CanonMakerModel" y_Mo_voice ws_Mo_voice) := wA_V h wd_704 wd_705 wd_47 wd_706
abbrev ws_Math_abs : List Cond := Cond.code y_Math_abs prog_10_method_59_code 1 (some .int) :: wA
theorem g_Math_abs {own : String} {idx : Nat} (h : Cond.methodLink own idx y_Math_abs ∈ wA) : GoodIn wA (va_wsS own idx y_Math_abs ws_Math_abs) := wA_T h wd_495 wd_48 wd_496
abbrev ws_Math_floorMod : List Cond := Cond.code y_Math_floorMod prog_10_method_50_code 3 (some .int) :: wA
theorem g_Math_floorMod {own : String} {idx : Nat} (h : Cond.methodLink own idx y_Math_floorMod ∈ wA) : GoodIn wA (va_wsS own idx y_Math_floorMod ws_Math_floorMod) := wA_T h wd_426 wd_48 wd_427
abbrev ws_Math_max : List Cond := Cond.code y_Math_max prog_10_method_65_code 2 (some .int) :: wA
theorem g_Math_max {own : String} {idx : Nat} (h : Cond.methodLink own idx y_Math_max ∈ wA) : GoodIn wA (va_wsS own idx y_Math_max ws_Math_max) := wA_T h wd_392 wd_48 wd_393
abbrev ws_Math_min : List Cond := Cond.code y_Math_min prog_10_method_69_code 2 (some .int) :: wA
theorem g_Math_min {own : String} {idx : Nat} (h : Cond.methodLink own idx y_Math_min ∈ wA) : GoodIn wA (va_wsS own idx y_Math_min ws_Math_min) := wA_T h wd_579 wd_48 wd_580
abbrev ws_Arrays_fill : List Cond := Cond.code y_Arrays_fill prog_11_method_103_code 4 none :: wA
theorem g_Arrays_fill {own : String} {idx : Nat} (h : Cond.methodLink own idx y_Arrays_fill ∈ wA) : GoodIn wA (va_wsS own idx y_Arrays_fill ws_Arrays_fill) := wA_T h wd_407 wd_49 wd_408
abbrev cmcl : List vw_C := [("CanonMaker$Subject", T_Subject, 3), ("CanonMaker$Voice", T_Voice, 5), ("CanonMaker$Bounds", T_Bounds, 5), ("CanonMaker$Line", T_Line, 12), ("CanonMaker$Score", T_Score, 6), ("CanonMaker$Judge", T_Judge, 15), ("CanonMaker", T_CM, 11), ("CanonMakerModel", T_Mo, 29)]
end
section
def cm_tys (cs : Nat → ClassId) : List (ClassId × FieldType) := [(cs 0, .int), (cs 1, .boolean), (cs 2, .object "CanonMaker$Voice"), (cs 3, .object "CanonMaker$Line")]
def cm_told (j : Nat) : Int := ([1, 2, 4, 16, 32, 64, 128] : List Int).getD j 0
def cm_zs (zt : Nat) : List mk_Zt := [(("CanonMaker", "TOLD_ORDER", "[I", zt, 7, cm_told), ("CanonMaker$Judge", 60, "CanonMaker", "CanonMaker"))]
abbrev cm_inj (ad : Nat → Nat) : Prop := ∀ i j, i < 48 → j < 48 → ad i = ad j → i = j
def cm_sh (cs : Nat → ClassId) (ad : Nat → Nat) (k : Nat) (f : Nat → Int) : va_E := (([
  .inr (6, [.ref (ad 1), .ref (ad 4), .ref (ad 5), .ref (ad 6), .ref (ad 36), .ref (ad 42), .ref (ad 43), .int (zi (f 7)), .int (zi (f 8)), .int (zi (f 9)), .int (zi (f 10))]),
  .inr (0, [.ref (ad 2), .ref (ad 3), .int (zi (f 2))]),
  .inl (cs 0, 24, .inl (fun j => zi (f j))),
  .inl (cs 0, 24, .inl (fun j => zi (f j))),
  .inl (cs 2, 4, .inr (.inr (.inr (.inr (fun j => some (ad (44 + j))))))),
  .inr (2, [.int (zi (f 0)), .int (zi (f 1)), .int (zi (f 2)), .int (zi (f 3)), .int (zi (f 4))]),
  .inr (4, [.ref (ad 7), .ref (ad 8), .ref (ad 9), .ref (ad 10), .ref (ad 11), .int (zi (f 5))]),
  .inl (cs 3, 4, .inr (.inr (.inr (.inr (fun j => some (ad (12 + 6 * j))))))),
  .inl (cs 0, 96, .inl (fun j => zi (f j))),
  .inl (cs 0, 96, .inl (fun j => zi (f j))),
  .inl (cs 0, 384, .inl (fun j => zi (f j))),
  .inl (cs 0, 96, .inl (fun j => zi (f j))),
  .inr (3, [.ref (ad 13), .ref (ad 14), .ref (ad 15), .ref (ad 16), .ref (ad 17), .int (zi (f 5)), .int (zi (f 6)), .int (zi (f 7)), .int (zi (f 8)), .int (zi (f 9)), .int (zi (f 10)), .int (zi (f 11))]),
  .inl (cs 0, 24, .inl (fun j => zi (f j))),
  .inl (cs 0, 24, .inl (fun j => zi (f j))),
  .inl (cs 0, 24, .inl (fun j => zi (f j))),
  .inl (cs 0, 24, .inl (fun j => zi (f j))),
  .inl (cs 0, 24, .inl (fun j => zi (f j))),
  .inr (3, [.ref (ad 19), .ref (ad 20), .ref (ad 21), .ref (ad 22), .ref (ad 23), .int (zi (f 5)), .int (zi (f 6)), .int (zi (f 7)), .int (zi (f 8)), .int (zi (f 9)), .int (zi (f 10)), .int (zi (f 11))]),
  .inl (cs 0, 24, .inl (fun j => zi (f j))),
  .inl (cs 0, 24, .inl (fun j => zi (f j))),
  .inl (cs 0, 24, .inl (fun j => zi (f j))),
  .inl (cs 0, 24, .inl (fun j => zi (f j))),
  .inl (cs 0, 24, .inl (fun j => zi (f j))),
  .inr (3, [.ref (ad 25), .ref (ad 26), .ref (ad 27), .ref (ad 28), .ref (ad 29), .int (zi (f 5)), .int (zi (f 6)), .int (zi (f 7)), .int (zi (f 8)), .int (zi (f 9)), .int (zi (f 10)), .int (zi (f 11))]),
  .inl (cs 0, 24, .inl (fun j => zi (f j))),
  .inl (cs 0, 24, .inl (fun j => zi (f j))),
  .inl (cs 0, 24, .inl (fun j => zi (f j))),
  .inl (cs 0, 24, .inl (fun j => zi (f j))),
  .inl (cs 0, 24, .inl (fun j => zi (f j))),
  .inr (3, [.ref (ad 31), .ref (ad 32), .ref (ad 33), .ref (ad 34), .ref (ad 35), .int (zi (f 5)), .int (zi (f 6)), .int (zi (f 7)), .int (zi (f 8)), .int (zi (f 9)), .int (zi (f 10)), .int (zi (f 11))]),
  .inl (cs 0, 24, .inl (fun j => zi (f j))),
  .inl (cs 0, 24, .inl (fun j => zi (f j))),
  .inl (cs 0, 24, .inl (fun j => zi (f j))),
  .inl (cs 0, 24, .inl (fun j => zi (f j))),
  .inl (cs 0, 24, .inl (fun j => zi (f j))),
  .inr (5, [.ref (ad 6), .ref (ad 5), .ref (ad 37), .ref (ad 38), .ref (ad 39), .ref (ad 40), .ref (ad 41), .int (zi (f 7)), .int (zi (f 8)), .int (zi (f 9)), .int (zi (f 10)), .int (zi (f 11)), .int (zi (f 12)), .int (zi (f 13)), .int (zi (f 14))]),
  .inl (cs 0, 4, .inl (fun j => zi (f j))),
  .inl (cs 1, 4, .inl (fun j => zi (f j))),
  .inl (cs 0, 4, .inl (fun j => zi (f j))),
  .inl (cs 0, 4, .inl (fun j => zi (f j))),
  .inl (cs 0, 4, .inl (fun j => zi (f j))),
  .inl (cs 0, 24, .inl (fun j => zi (f j))),
  .inl (cs 0, 2525, .inl (fun j => zi (f j))),
  .inr (1, [.int (zi (f 0)), .int (zi (f 1)), .int (zi (f 2)), .int (zi (f 3)), .int (zi (f 4))]),
  .inr (1, [.int (zi (f 0)), .int (zi (f 1)), .int (zi (f 2)), .int (zi (f 3)), .int (zi (f 4))]),
  .inr (1, [.int (zi (f 0)), .int (zi (f 1)), .int (zi (f 2)), .int (zi (f 3)), .int (zi (f 4))]),
  .inr (1, [.int (zi (f 0)), .int (zi (f 1)), .int (zi (f 2)), .int (zi (f 3)), .int (zi (f 4))])] : List va_E)).getD k (.inr (0, []))
theorem sh_CM (cs : Nat → ClassId) (ad : Nat → Nat) (f : Nat → Int) : cm_sh cs ad 0 f = .inr (6, [.ref (ad 1), .ref (ad 4), .ref (ad 5), .ref (ad 6), .ref (ad 36), .ref (ad 42), .ref (ad 43), .int (zi (f 7)), .int (zi (f 8)), .int (zi (f 9)), .int (zi (f 10))]) := rfl
theorem sh_Subject (cs : Nat → ClassId) (ad : Nat → Nat) (f : Nat → Int) : cm_sh cs ad 1 f = .inr (0, [.ref (ad 2), .ref (ad 3), .int (zi (f 2))]) := rfl
theorem sh_Spit (cs : Nat → ClassId) (ad : Nat → Nat) (f : Nat → Int) : cm_sh cs ad 2 f = .inl (cs 0, 24, .inl (fun j => zi (f j))) := rfl
theorem sh_Slen (cs : Nat → ClassId) (ad : Nat → Nat) (f : Nat → Int) : cm_sh cs ad 3 f = .inl (cs 0, 24, .inl (fun j => zi (f j))) := rfl
theorem sh_voices (cs : Nat → ClassId) (ad : Nat → Nat) (f : Nat → Int) : cm_sh cs ad 4 f = .inl (cs 2, 4, .inr (.inr (.inr (.inr (fun j => some (ad (44 + j))))))) := rfl
theorem sh_Bounds (cs : Nat → ClassId) (ad : Nat → Nat) (f : Nat → Int) : cm_sh cs ad 5 f = .inr (2, [.int (zi (f 0)), .int (zi (f 1)), .int (zi (f 2)), .int (zi (f 3)), .int (zi (f 4))]) := rfl
theorem sh_Score (cs : Nat → ClassId) (ad : Nat → Nat) (f : Nat → Int) : cm_sh cs ad 6 f = .inr (4, [.ref (ad 7), .ref (ad 8), .ref (ad 9), .ref (ad 10), .ref (ad 11), .int (zi (f 5))]) := rfl
theorem sh_lines (cs : Nat → ClassId) (ad : Nat → Nat) (f : Nat → Int) : cm_sh cs ad 7 f = .inl (cs 3, 4, .inr (.inr (.inr (.inr (fun j => some (ad (12 + 6 * j))))))) := rfl
theorem sh_moments (cs : Nat → ClassId) (ad : Nat → Nat) (f : Nat → Int) : cm_sh cs ad 8 f = .inl (cs 0, 96, .inl (fun j => zi (f j))) := rfl
theorem sh_touched (cs : Nat → ClassId) (ad : Nat → Nat) (f : Nat → Int) : cm_sh cs ad 9 f = .inl (cs 0, 96, .inl (fun j => zi (f j))) := rfl
theorem sh_places (cs : Nat → ClassId) (ad : Nat → Nat) (f : Nat → Int) : cm_sh cs ad 10 f = .inl (cs 0, 384, .inl (fun j => zi (f j))) := rfl
theorem sh_strikes (cs : Nat → ClassId) (ad : Nat → Nat) (f : Nat → Int) : cm_sh cs ad 11 f = .inl (cs 0, 96, .inl (fun j => zi (f j))) := rfl
theorem sh_Line (cs : Nat → ClassId) (ad : Nat → Nat) {v : Nat} (hv : v < 4) (f : Nat → Int) : cm_sh cs ad (12 + 6 * v) f = .inr (3, [.ref (ad (13 + 6 * v)), .ref (ad (14 + 6 * v)), .ref (ad (15 + 6 * v)), .ref (ad (16 + 6 * v)), .ref (ad (17 + 6 * v)), .int (zi (f 5)), .int (zi (f 6)), .int (zi (f 7)), .int (zi (f 8)), .int (zi (f 9)), .int (zi (f 10)), .int (zi (f 11))]) := by
  rcases (show v = 0 ∨ v = 1 ∨ v = 2 ∨ v = 3 by omega) with rfl | rfl | rfl | rfl <;> rfl
theorem sh_Lnotes (cs : Nat → ClassId) (ad : Nat → Nat) {v : Nat} (hv : v < 4) (f : Nat → Int) : cm_sh cs ad (13 + 6 * v) f = .inl (cs 0, 24, .inl (fun j => zi (f j))) := by
  rcases (show v = 0 ∨ v = 1 ∨ v = 2 ∨ v = 3 by omega) with rfl | rfl | rfl | rfl <;> rfl
theorem sh_Lbegins (cs : Nat → ClassId) (ad : Nat → Nat) {v : Nat} (hv : v < 4) (f : Nat → Int) : cm_sh cs ad (14 + 6 * v) f = .inl (cs 0, 24, .inl (fun j => zi (f j))) := by
  rcases (show v = 0 ∨ v = 1 ∨ v = 2 ∨ v = 3 by omega) with rfl | rfl | rfl | rfl <;> rfl
theorem sh_Lpit (cs : Nat → ClassId) (ad : Nat → Nat) {v : Nat} (hv : v < 4) (f : Nat → Int) : cm_sh cs ad (15 + 6 * v) f = .inl (cs 0, 24, .inl (fun j => zi (f j))) := by
  rcases (show v = 0 ∨ v = 1 ∨ v = 2 ∨ v = 3 by omega) with rfl | rfl | rfl | rfl <;> rfl
theorem sh_Lbefore (cs : Nat → ClassId) (ad : Nat → Nat) {v : Nat} (hv : v < 4) (f : Nat → Int) : cm_sh cs ad (16 + 6 * v) f = .inl (cs 0, 24, .inl (fun j => zi (f j))) := by
  rcases (show v = 0 ∨ v = 1 ∨ v = 2 ∨ v = 3 by omega) with rfl | rfl | rfl | rfl <;> rfl
theorem sh_Lbehind (cs : Nat → ClassId) (ad : Nat → Nat) {v : Nat} (hv : v < 4) (f : Nat → Int) : cm_sh cs ad (17 + 6 * v) f = .inl (cs 0, 24, .inl (fun j => zi (f j))) := by
  rcases (show v = 0 ∨ v = 1 ∨ v = 2 ∨ v = 3 by omega) with rfl | rfl | rfl | rfl <;> rfl
theorem sh_Judge (cs : Nat → ClassId) (ad : Nat → Nat) (f : Nat → Int) : cm_sh cs ad 36 f = .inr (5, [.ref (ad 6), .ref (ad 5), .ref (ad 37), .ref (ad 38), .ref (ad 39), .ref (ad 40), .ref (ad 41), .int (zi (f 7)), .int (zi (f 8)), .int (zi (f 9)), .int (zi (f 10)), .int (zi (f 11)), .int (zi (f 12)), .int (zi (f 13)), .int (zi (f 14))]) := rfl
theorem sh_present (cs : Nat → ClassId) (ad : Nat → Nat) (f : Nat → Int) : cm_sh cs ad 37 f = .inl (cs 0, 4, .inl (fun j => zi (f j))) := rfl
theorem sh_struck (cs : Nat → ClassId) (ad : Nat → Nat) (f : Nat → Int) : cm_sh cs ad 38 f = .inl (cs 1, 4, .inl (fun j => zi (f j))) := rfl
theorem sh_now (cs : Nat → ClassId) (ad : Nat → Nat) (f : Nat → Int) : cm_sh cs ad 39 f = .inl (cs 0, 4, .inl (fun j => zi (f j))) := rfl
theorem sh_old (cs : Nat → ClassId) (ad : Nat → Nat) (f : Nat → Int) : cm_sh cs ad 40 f = .inl (cs 0, 4, .inl (fun j => zi (f j))) := rfl
theorem sh_next (cs : Nat → ClassId) (ad : Nat → Nat) (f : Nat → Int) : cm_sh cs ad 41 f = .inl (cs 0, 4, .inl (fun j => zi (f j))) := rfl
theorem sh_openNotes (cs : Nat → ClassId) (ad : Nat → Nat) (f : Nat → Int) : cm_sh cs ad 42 f = .inl (cs 0, 24, .inl (fun j => zi (f j))) := rfl
theorem sh_shiftsFound (cs : Nat → ClassId) (ad : Nat → Nat) (f : Nat → Int) : cm_sh cs ad 43 f = .inl (cs 0, 2525, .inl (fun j => zi (f j))) := rfl
theorem sh_Voice (cs : Nat → ClassId) (ad : Nat → Nat) {v : Nat} (hv : v < 4) (f : Nat → Int) : cm_sh cs ad (44 + v) f = .inr (1, [.int (zi (f 0)), .int (zi (f 1)), .int (zi (f 2)), .int (zi (f 3)), .int (zi (f 4))]) := by
  rcases (show v = 0 ∨ v = 1 ∨ v = 2 ∨ v = 3 by omega) with rfl | rfl | rfl | rfl <;> rfl
abbrev cm_C (l : Launch) (D : va_G) (cs : Nat → ClassId) (ad : Nat → Nat) (zt : Nat) (y : MethodName) (ws : List Cond) (rm : Room) (As : List Value) (I : Wo) (P : Option Value → Wo → Prop) : Prop := mk_C l y ws rm D cmcl (cm_tys cs) (cm_sh cs ad) 48 48 ad (cm_zs zt) As I P
end
section
/-- sums of lengths -/
def usum (f : Nat → Int) : Nat → Int
  | 0 => 0
  | n + 1 => usum f n + f n
theorem usum_b {f : Nat → Int} {n : Nat} (h : ∀ j, j < n → 1 ≤ f j ∧ f j ≤ 16) : (n : Int) ≤ usum f n ∧ usum f n ≤ 16 * n := by
  induction n with
  | zero => simp [usum]
  | succ n ih =>
    have h1 := ih (fun j hj => h j (by omega))
    have h2 := h n (by omega)
    simp only [usum]
    omega
end
section
/-! THE CONFIGURATION that both sides hold: c 0 = [notes, LOW, HIGH, SCALE, BEAT, RULES, ROUND, STEPS, number of shifts], c 1 pitches, c 2 lengths,
c (3 + v) = voice v: [on, delay, interval, mode, factor], c 8, c 9 = the shifts' delays, intervals. -/
theorem q44 {v a : Nat} (h : a < 44) : ¬ (44 + v = a) := by omega
theorem q3 {v a : Nat} (h : a < 3) : ¬ (3 + v = a) := by omega
def wfN (c : Wo) : Prop := (0 ≤ c 0 0 ∧ c 0 0 ≤ 24) ∧ ∀ j : Nat, (j : Int) < c 0 0 → (-2 ≤ c 1 j ∧ c 1 j ≤ 127) ∧ (1 ≤ c 2 j ∧ c 2 j ≤ 16)
def wfS (c : Wo) : Prop := (0 ≤ c 0 1 ∧ c 0 1 ≤ c 0 2 ∧ c 0 2 ≤ 127) ∧ (0 ≤ c 0 3 ∧ c 0 3 ≤ 4095) ∧ (1 ≤ c 0 4 ∧ c 0 4 ≤ 64) ∧ (0 ≤ c 0 5 ∧ c 0 5 ≤ 255) ∧ (0 ≤ c 0 6 ∧ c 0 6 ≤ 400) ∧ (0 ≤ c 0 7 ∧ c 0 7 ≤ 3000)
def wfV (c : Wo) : Prop := (∀ v : Nat, v < 4 → (c (3 + v) 0 = 0 ∨ c (3 + v) 0 = 1) ∧ (0 ≤ c (3 + v) 1 ∧ c (3 + v) 1 ≤ 100) ∧ (-24 ≤ c (3 + v) 2 ∧ c (3 + v) 2 ≤ 24) ∧ (0 ≤ c (3 + v) 3 ∧ c (3 + v) 3 ≤ 3) ∧ (1 ≤ c (3 + v) 4 ∧ c (3 + v) 4 ≤ 3)) ∧ (c 3 0 = 1 ∧ c 3 1 = 0 ∧ c 3 2 = 0 ∧ c 3 3 = 0 ∧ c 3 4 = 1)
def wfF (c : Wo) : Prop := (0 ≤ c 0 8 ∧ c 0 8 ≤ 2525) ∧ ∀ k : Nat, (k : Int) < c 0 8 → (0 ≤ c 8 k ∧ c 8 k ≤ 100) ∧ (-12 ≤ c 9 k ∧ c 9 k ≤ 12)
def wfC (c : Wo) : Prop := wfN c ∧ wfS c ∧ wfV c ∧ wfF c
/-- the class's table holds the configuration -/
def cmN (c I : Wo) : Prop := I 1 2 = c 0 0 ∧ ∀ j : Nat, (j : Int) < c 0 0 → I 2 j = c 1 j ∧ I 3 j = c 2 j
def cmS (c I : Wo) : Prop := (I 5 0 = c 0 1 ∧ I 5 1 = c 0 2 ∧ I 5 2 = c 0 3 ∧ I 5 3 = c 0 4 ∧ I 5 4 = c 0 5) ∧ I 0 7 = c 0 6 ∧ I 0 9 = c 0 7
def cmV (c I : Wo) : Prop := ∀ v : Nat, v < 4 → I (44 + v) 0 = c (3 + v) 0 ∧ I (44 + v) 1 = c (3 + v) 1 ∧ I (44 + v) 2 = c (3 + v) 2 ∧ I (44 + v) 3 = c (3 + v) 3 ∧ I (44 + v) 4 = c (3 + v) 4
def cmF (c I : Wo) : Prop := I 0 10 = c 0 8 ∧ ∀ k : Nat, (k : Int) < c 0 8 → I 43 k = c 8 k * 25 + c 9 k + 12
def cmR (c I : Wo) : Prop := wfC c ∧ cmN c I ∧ cmS c I ∧ cmV c I ∧ cmF c I
/-! the calls: what each answers (an_), what the configuration is behind it (nw_) -/
def an_note (c : Wo) (a b : Int) : Int := if a < -2 ∨ 127 < a ∨ b < 1 ∨ 16 < b then -2 else if c 0 0 = 24 then -4 else c 0 0
def nw_note (c : Wo) (a b : Int) : Wo := if a < -2 ∨ 127 < a ∨ b < 1 ∨ 16 < b then c else if c 0 0 = 24 then c else up2 (up2 (up2 c 1 (c 0 0).toNat a) 2 (c 0 0).toNat b) 0 0 (c 0 0 + 1)
def an_pitch (c : Wo) (k a : Int) : Int := if k < 0 ∨ c 0 0 ≤ k then -1 else if a < -2 ∨ 127 < a then -2 else c 1 k.toNat
def nw_pitch (c : Wo) (k a : Int) : Wo := if k < 0 ∨ c 0 0 ≤ k then c else if a < -2 ∨ 127 < a then c else up2 c 1 k.toNat a
def an_told (c : Wo) (k w : Int) : Int := if k < 0 ∨ c 0 0 ≤ k then -1 else if w = 0 then c 1 k.toNat else if w = 1 then c 2 k.toNat else -2
def an_cut (c : Wo) (n : Int) : Int := if n < 0 ∨ c 0 0 < n then -2 else c 0 0
def nw_cut (c : Wo) (n : Int) : Wo := if n < 0 ∨ c 0 0 < n then c else up2 c 0 0 n
def an_size (c : Wo) : Int := usum (c 2) (c 0 0).toNat
def an_voice (v d i m f : Int) : Int := if v < 1 ∨ 3 < v then -1 else if d < 0 ∨ 100 < d ∨ i < -24 ∨ 24 < i ∨ m < 0 ∨ 3 < m ∨ f < 1 ∨ 3 < f then -2 else 1
def nw_voice (c : Wo) (v d i m f : Int) : Wo := if v < 1 ∨ 3 < v then c else if d < 0 ∨ 100 < d ∨ i < -24 ∨ 24 < i ∨ m < 0 ∨ 3 < m ∨ f < 1 ∨ 3 < f then c else up2 (up2 (up2 (up2 (up2 c (3 + v.toNat) 0 1) (3 + v.toNat) 1 d) (3 + v.toNat) 2 i) (3 + v.toNat) 3 m) (3 + v.toNat) 4 f
def an_off (c : Wo) (v : Int) : Int := if v < 1 ∨ 3 < v then -1 else c (3 + v.toNat) 0
def nw_off (c : Wo) (v : Int) : Wo := if v < 1 ∨ 3 < v then c else up2 c (3 + v.toNat) 0 0
def an_span (a b : Int) : Int := if a < 0 ∨ 127 < b ∨ b < a then -2 else 1
def nw_span (c : Wo) (a b : Int) : Wo := if a < 0 ∨ 127 < b ∨ b < a then c else up2 (up2 c 0 1 a) 0 2 b
def an_scale (c : Wo) (a : Int) : Int := if a < 0 ∨ 4095 < a then -2 else c 0 3
def nw_scale (c : Wo) (a : Int) : Wo := if a < 0 ∨ 4095 < a then c else up2 c 0 3 a
def an_beat (c : Wo) (a : Int) : Int := if a < 1 ∨ 64 < a then -2 else c 0 4
def nw_beat (c : Wo) (a : Int) : Wo := if a < 1 ∨ 64 < a then c else up2 c 0 4 a
def an_rules (c : Wo) (a : Int) : Int := if a < 0 ∨ 255 < a then -2 else c 0 5
def nw_rules (c : Wo) (a : Int) : Wo := if a < 0 ∨ 255 < a then c else up2 c 0 5 a
def an_round (c : Wo) (a : Int) : Int := if a < 0 ∨ 400 < a then -2 else c 0 6
def nw_round (c : Wo) (a : Int) : Wo := if a < 0 ∨ 400 < a then c else up2 c 0 6 a
def an_shift (c : Wo) (k w : Int) : Int := if k < 0 ∨ c 0 8 ≤ k then -1 else if w = 0 then c 8 k.toNat else if w = 1 then c 9 k.toNat else -2
/-- the reference's table holds the configuration -/
def moN (c I : Wo) : Prop := I 0 2 = c 0 0 ∧ ∀ j : Nat, (j : Int) < c 0 0 → I 1 j = c 1 j ∧ I 2 j = c 2 j
def moS (c I : Wo) : Prop := (I 0 8 = c 0 1 ∧ I 0 9 = c 0 2 ∧ I 0 10 = c 0 3 ∧ I 0 11 = c 0 4 ∧ I 0 13 = c 0 5) ∧ I 0 12 = c 0 6 ∧ I 0 14 = c 0 7
def moV (c I : Wo) : Prop := ∀ v : Nat, v < 4 → I 3 v = c (3 + v) 0 ∧ I 4 v = c (3 + v) 1 ∧ I 5 v = c (3 + v) 2 ∧ I 6 v = c (3 + v) 3 ∧ I 7 v = c (3 + v) 4
def moF (c I : Wo) : Prop := I 0 27 = c 0 8 ∧ ∀ k : Nat, (k : Int) < c 0 8 → I 13 k = c 8 k ∧ I 14 k = c 9 k
def moR (c I : Wo) : Prop := wfC c ∧ moN c I ∧ moS c I ∧ moV c I ∧ moF c I
theorem cm_s_scale {c I : Wo} (h : cmR c I) {x : Int} (hx : 0 ≤ x ∧ x ≤ 4095) : cmR (up2 c 0 3 x) (up2 I 5 2 x) := by
  obtain ⟨⟨hN, hS, hV, hF⟩, h1, h2, h3, h4⟩ := h
  exact ⟨⟨by simpa [wfN, up2, up1, q44, q3] using hN, by simp [wfS, up2, up1, q44, q3] at hS ⊢; omega, by simpa [wfV, up2, up1, q44, q3] using hV, by simpa [wfF, up2, up1, q44, q3] using hF⟩, by simpa [cmN, up2, up1, q44, q3] using h1, by simp [cmS, up2, up1, q44, q3] at h2 ⊢; omega, by simpa [cmV, up2, up1, q44, q3] using h3, by simpa [cmF, up2, up1, q44, q3] using h4⟩
theorem cm_s_beat {c I : Wo} (h : cmR c I) {x : Int} (hx : 1 ≤ x ∧ x ≤ 64) : cmR (up2 c 0 4 x) (up2 I 5 3 x) := by
  obtain ⟨⟨hN, hS, hV, hF⟩, h1, h2, h3, h4⟩ := h
  exact ⟨⟨by simpa [wfN, up2, up1, q44, q3] using hN, by simp [wfS, up2, up1, q44, q3] at hS ⊢; omega, by simpa [wfV, up2, up1, q44, q3] using hV, by simpa [wfF, up2, up1, q44, q3] using hF⟩, by simpa [cmN, up2, up1, q44, q3] using h1, by simp [cmS, up2, up1, q44, q3] at h2 ⊢; omega, by simpa [cmV, up2, up1, q44, q3] using h3, by simpa [cmF, up2, up1, q44, q3] using h4⟩
theorem cm_s_rules {c I : Wo} (h : cmR c I) {x : Int} (hx : 0 ≤ x ∧ x ≤ 255) : cmR (up2 c 0 5 x) (up2 I 5 4 x) := by
  obtain ⟨⟨hN, hS, hV, hF⟩, h1, h2, h3, h4⟩ := h
  exact ⟨⟨by simpa [wfN, up2, up1, q44, q3] using hN, by simp [wfS, up2, up1, q44, q3] at hS ⊢; omega, by simpa [wfV, up2, up1, q44, q3] using hV, by simpa [wfF, up2, up1, q44, q3] using hF⟩, by simpa [cmN, up2, up1, q44, q3] using h1, by simp [cmS, up2, up1, q44, q3] at h2 ⊢; omega, by simpa [cmV, up2, up1, q44, q3] using h3, by simpa [cmF, up2, up1, q44, q3] using h4⟩
theorem cm_s_round {c I : Wo} (h : cmR c I) {x : Int} (hx : 0 ≤ x ∧ x ≤ 400) : cmR (up2 c 0 6 x) (up2 I 0 7 x) := by
  obtain ⟨⟨hN, hS, hV, hF⟩, h1, h2, h3, h4⟩ := h
  exact ⟨⟨by simpa [wfN, up2, up1, q44, q3] using hN, by simp [wfS, up2, up1, q44, q3] at hS ⊢; omega, by simpa [wfV, up2, up1, q44, q3] using hV, by simpa [wfF, up2, up1, q44, q3] using hF⟩, by simpa [cmN, up2, up1, q44, q3] using h1, by simp [cmS, up2, up1, q44, q3] at h2 ⊢; omega, by simpa [cmV, up2, up1, q44, q3] using h3, by simpa [cmF, up2, up1, q44, q3] using h4⟩
theorem cm_s_steps {c I : Wo} (h : cmR c I) {x : Int} (hx : 0 ≤ x ∧ x ≤ 3000) : cmR (up2 c 0 7 x) (up2 I 0 9 x) := by
  obtain ⟨⟨hN, hS, hV, hF⟩, h1, h2, h3, h4⟩ := h
  exact ⟨⟨by simpa [wfN, up2, up1, q44, q3] using hN, by simp [wfS, up2, up1, q44, q3] at hS ⊢; omega, by simpa [wfV, up2, up1, q44, q3] using hV, by simpa [wfF, up2, up1, q44, q3] using hF⟩, by simpa [cmN, up2, up1, q44, q3] using h1, by simp [cmS, up2, up1, q44, q3] at h2 ⊢; omega, by simpa [cmV, up2, up1, q44, q3] using h3, by simpa [cmF, up2, up1, q44, q3] using h4⟩
theorem cm_s_span {c I : Wo} (h : cmR c I) {x y : Int} (hx : 0 ≤ x ∧ x ≤ y ∧ y ≤ 127) : cmR (up2 (up2 c 0 1 x) 0 2 y) (up2 (up2 I 5 0 x) 5 1 y) := by
  obtain ⟨⟨hN, hS, hV, hF⟩, h1, h2, h3, h4⟩ := h
  exact ⟨⟨by simpa [wfN, up2, up1, q44, q3] using hN, by simp [wfS, up2, up1, q44, q3] at hS ⊢; omega, by simpa [wfV, up2, up1, q44, q3] using hV, by simpa [wfF, up2, up1, q44, q3] using hF⟩, by simpa [cmN, up2, up1, q44, q3] using h1, by simp [cmS, up2, up1, q44, q3] at h2 ⊢; omega, by simpa [cmV, up2, up1, q44, q3] using h3, by simpa [cmF, up2, up1, q44, q3] using h4⟩
theorem cm_s_cut {c I : Wo} (h : cmR c I) {x : Int} (hx : 0 ≤ x ∧ x ≤ c 0 0) : cmR (up2 c 0 0 x) (up2 I 1 2 x) := by
  obtain ⟨⟨hN, hS, hV, hF⟩, h1, h2, h3, h4⟩ := h
  exact ⟨⟨⟨by have := hN.1; simp [up2, up1, q44, q3]; omega, fun j hj => by
    have := hN.2 j (by simp [up2, up1, q44, q3] at hj; omega)
    simpa [up2, up1, q44, q3] using this⟩, by simpa [wfS, up2, up1, q44, q3] using hS, by simpa [wfV, up2, up1, q44, q3] using hV, by simpa [wfF, up2, up1, q44, q3] using hF⟩, ⟨by simp [up2, up1, q44, q3], fun j hj => by
    have := h1.2 j (by simp [up2, up1, q44, q3] at hj; omega)
    simpa [up2, up1, q44, q3] using this⟩, by simpa [cmS, up2, up1, q44, q3] using h2, by simpa [cmV, up2, up1, q44, q3] using h3, by simpa [cmF, up2, up1, q44, q3] using h4⟩
theorem cm_s_pitch {c I : Wo} (h : cmR c I) {k : Nat} {x : Int} (hk : (k : Int) < c 0 0) (hx : -2 ≤ x ∧ x ≤ 127) : cmR (up2 c 1 k x) (up2 I 2 k x) := by
  obtain ⟨⟨hN, hS, hV, hF⟩, h1, h2, h3, h4⟩ := h
  exact ⟨⟨⟨by simpa [up2, up1, q44, q3] using hN.1, fun j hj => by
    have := hN.2 j (by simpa [up2, up1, q44, q3] using hj)
    by_cases e : j = k
    · subst e; simp [up2, up1, q44, q3]; omega
    · simpa [up2, up1, q44, q3, e] using this⟩, by simpa [wfS, up2, up1, q44, q3] using hS, by simpa [wfV, up2, up1, q44, q3] using hV, by simpa [wfF, up2, up1, q44, q3] using hF⟩, ⟨by simpa [up2, up1, q44, q3] using h1.1, fun j hj => by
    have := h1.2 j (by simpa [up2, up1, q44, q3] using hj)
    by_cases e : j = k
    · subst e; simpa [up2, up1, q44, q3] using this.2
    · simpa [up2, up1, q44, q3, e] using this⟩, by simpa [cmS, up2, up1, q44, q3] using h2, by simpa [cmV, up2, up1, q44, q3] using h3, by simpa [cmF, up2, up1, q44, q3] using h4⟩
theorem cm_s_note {c I : Wo} (h : cmR c I) {k : Nat} {x y : Int} (hk : (k : Int) = c 0 0) (hk2 : k < 24) (hx : -2 ≤ x ∧ x ≤ 127) (hy : 1 ≤ y ∧ y ≤ 16) : cmR (up2 (up2 (up2 c 1 k x) 2 k y) 0 0 (c 0 0 + 1)) (up2 (up2 (up2 I 2 k x) 3 k y) 1 2 (c 0 0 + 1)) := by
  obtain ⟨⟨hN, hS, hV, hF⟩, h1, h2, h3, h4⟩ := h
  exact ⟨⟨⟨by have := hN.1; simp [up2, up1, q44, q3]; omega, fun j hj => by
    by_cases e : j = k
    · subst e; simp [up2, up1, q44, q3]; omega
    · have := hN.2 j (by simp [up2, up1, q44, q3] at hj; omega)
      simpa [up2, up1, q44, q3, e] using this⟩, by simpa [wfS, up2, up1, q44, q3] using hS, by simpa [wfV, up2, up1, q44, q3] using hV, by simpa [wfF, up2, up1, q44, q3] using hF⟩, ⟨by simp [up2, up1, q44, q3], fun j hj => by
    by_cases e : j = k
    · subst e; simp [up2, up1, q44, q3]
    · have := h1.2 j (by simp [up2, up1, q44, q3] at hj; omega)
      simpa [up2, up1, q44, q3, e] using this⟩, by simpa [cmS, up2, up1, q44, q3] using h2, by simpa [cmV, up2, up1, q44, q3] using h3, by simpa [cmF, up2, up1, q44, q3] using h4⟩
theorem cm_s_off {c I : Wo} (h : cmR c I) {v : Nat} (hv : 1 ≤ v ∧ v < 4) : cmR (up2 c (3 + v) 0 0) (up2 I (44 + v) 0 0) := by
  obtain ⟨⟨hN, hS, hV, hF⟩, h1, h2, h3, h4⟩ := h
  exact ⟨⟨by simpa [wfN, up2, up1, q44, q3, show ¬ 0 = 3 + v by omega, show ¬ 1 = 3 + v by omega, show ¬ 2 = 3 + v by omega, show ¬ 8 = 3 + v by omega, show ¬ 9 = 3 + v by omega] using hN, by simpa [wfS, up2, up1, q44, q3, show ¬ 0 = 3 + v by omega, show ¬ 1 = 3 + v by omega, show ¬ 2 = 3 + v by omega, show ¬ 8 = 3 + v by omega, show ¬ 9 = 3 + v by omega] using hS, ⟨fun u hu => by
    have := hV.1 u hu
    by_cases e : u = v
    · subst e; simp [up2, up1, q44, q3]; omega
    · have e1 : ¬ 3 + u = 3 + v := by omega
      simpa [up2, up1, q44, q3, e, e1] using this, by
    have e1 : ¬ 3 = 3 + v := by omega
    simpa [up2, up1, q44, q3, e1, hv.1, show ¬ v = 0 by omega] using hV.2⟩, by simpa [wfF, up2, up1, q44, q3, show ¬ 0 = 3 + v by omega, show ¬ 1 = 3 + v by omega, show ¬ 2 = 3 + v by omega, show ¬ 8 = 3 + v by omega, show ¬ 9 = 3 + v by omega] using hF⟩, by simpa [cmN, up2, up1, q44, q3, show ¬ 0 = 3 + v by omega, show ¬ 1 = 3 + v by omega, show ¬ 2 = 3 + v by omega, show ¬ 8 = 3 + v by omega, show ¬ 9 = 3 + v by omega, show ¬ 0 = 44 + v by omega, show ¬ 1 = 44 + v by omega, show ¬ 2 = 44 + v by omega, show ¬ 3 = 44 + v by omega, show ¬ 5 = 44 + v by omega, show ¬ 43 = 44 + v by omega] using h1, by simpa [cmS, up2, up1, q44, q3, show ¬ 0 = 3 + v by omega, show ¬ 1 = 3 + v by omega, show ¬ 2 = 3 + v by omega, show ¬ 8 = 3 + v by omega, show ¬ 9 = 3 + v by omega, show ¬ 0 = 44 + v by omega, show ¬ 1 = 44 + v by omega, show ¬ 2 = 44 + v by omega, show ¬ 3 = 44 + v by omega, show ¬ 5 = 44 + v by omega, show ¬ 43 = 44 + v by omega] using h2, fun u hu => by
    have := h3 u hu
    by_cases e : u = v
    · subst e; simp [up2, up1, q44, q3]; omega
    · have e1 : ¬ 3 + u = 3 + v := by omega
      have e2 : ¬ 44 + u = 44 + v := by omega
      simpa [up2, up1, q44, q3, e, e1, e2] using this, by simpa [cmF, up2, up1, q44, q3, show ¬ 0 = 3 + v by omega, show ¬ 1 = 3 + v by omega, show ¬ 2 = 3 + v by omega, show ¬ 8 = 3 + v by omega, show ¬ 9 = 3 + v by omega, show ¬ 0 = 44 + v by omega, show ¬ 1 = 44 + v by omega, show ¬ 2 = 44 + v by omega, show ¬ 3 = 44 + v by omega, show ¬ 5 = 44 + v by omega, show ¬ 43 = 44 + v by omega] using h4⟩
theorem cm_s_voice {c I : Wo} (h : cmR c I) {v : Nat} {d i m f : Int} (hv : 1 ≤ v ∧ v < 4) (hd : 0 ≤ d ∧ d ≤ 100) (hi : -24 ≤ i ∧ i ≤ 24) (hm : 0 ≤ m ∧ m ≤ 3) (hf : 1 ≤ f ∧ f ≤ 3) : cmR (up2 (up2 (up2 (up2 (up2 c (3 + v) 0 1) (3 + v) 1 d) (3 + v) 2 i) (3 + v) 3 m) (3 + v) 4 f) (up2 (up2 (up2 (up2 (up2 I (44 + v) 0 1) (44 + v) 1 d) (44 + v) 2 i) (44 + v) 3 m) (44 + v) 4 f) := by
  obtain ⟨⟨hN, hS, hV, hF⟩, h1, h2, h3, h4⟩ := h
  exact ⟨⟨by simpa [wfN, up2, up1, q44, q3, show ¬ 0 = 3 + v by omega, show ¬ 1 = 3 + v by omega, show ¬ 2 = 3 + v by omega, show ¬ 8 = 3 + v by omega, show ¬ 9 = 3 + v by omega] using hN, by simpa [wfS, up2, up1, q44, q3, show ¬ 0 = 3 + v by omega, show ¬ 1 = 3 + v by omega, show ¬ 2 = 3 + v by omega, show ¬ 8 = 3 + v by omega, show ¬ 9 = 3 + v by omega] using hS, ⟨fun u hu => by
    have := hV.1 u hu
    by_cases e : u = v
    · subst e; simp [up2, up1, q44, q3]; omega
    · have e1 : ¬ 3 + u = 3 + v := by omega
      simpa [up2, up1, q44, q3, e, e1] using this, by
    have e1 : ¬ 3 = 3 + v := by omega
    simpa [up2, up1, q44, q3, e1, hv.1, show ¬ v = 0 by omega] using hV.2⟩, by simpa [wfF, up2, up1, q44, q3, show ¬ 0 = 3 + v by omega, show ¬ 1 = 3 + v by omega, show ¬ 2 = 3 + v by omega, show ¬ 8 = 3 + v by omega, show ¬ 9 = 3 + v by omega] using hF⟩, by simpa [cmN, up2, up1, q44, q3, show ¬ 0 = 3 + v by omega, show ¬ 1 = 3 + v by omega, show ¬ 2 = 3 + v by omega, show ¬ 8 = 3 + v by omega, show ¬ 9 = 3 + v by omega, show ¬ 0 = 44 + v by omega, show ¬ 1 = 44 + v by omega, show ¬ 2 = 44 + v by omega, show ¬ 3 = 44 + v by omega, show ¬ 5 = 44 + v by omega, show ¬ 43 = 44 + v by omega] using h1, by simpa [cmS, up2, up1, q44, q3, show ¬ 0 = 3 + v by omega, show ¬ 1 = 3 + v by omega, show ¬ 2 = 3 + v by omega, show ¬ 8 = 3 + v by omega, show ¬ 9 = 3 + v by omega, show ¬ 0 = 44 + v by omega, show ¬ 1 = 44 + v by omega, show ¬ 2 = 44 + v by omega, show ¬ 3 = 44 + v by omega, show ¬ 5 = 44 + v by omega, show ¬ 43 = 44 + v by omega] using h2, fun u hu => by
    have := h3 u hu
    by_cases e : u = v
    · subst e; simp [up2, up1, q44, q3]; try omega
    · have e1 : ¬ 3 + u = 3 + v := by omega
      have e2 : ¬ 44 + u = 44 + v := by omega
      simpa [up2, up1, q44, q3, e, e1, e2] using this, by simpa [cmF, up2, up1, q44, q3, show ¬ 0 = 3 + v by omega, show ¬ 1 = 3 + v by omega, show ¬ 2 = 3 + v by omega, show ¬ 8 = 3 + v by omega, show ¬ 9 = 3 + v by omega, show ¬ 0 = 44 + v by omega, show ¬ 1 = 44 + v by omega, show ¬ 2 = 44 + v by omega, show ¬ 3 = 44 + v by omega, show ¬ 5 = 44 + v by omega, show ¬ 43 = 44 + v by omega] using h4⟩
theorem mo_s_scale {c I : Wo} (h : moR c I) {x : Int} (hx : 0 ≤ x ∧ x ≤ 4095) : moR (up2 c 0 3 x) (up2 I 0 10 x) := by
  obtain ⟨⟨hN, hS, hV, hF⟩, h1, h2, h3, h4⟩ := h
  exact ⟨⟨by simpa [wfN, up2, up1, q44, q3] using hN, by simp [wfS, up2, up1, q44, q3] at hS ⊢; omega, by simpa [wfV, up2, up1, q44, q3] using hV, by simpa [wfF, up2, up1, q44, q3] using hF⟩, by simpa [moN, up2, up1, q44, q3] using h1, by simp [moS, up2, up1, q44, q3] at h2 ⊢; omega, by simpa [moV, up2, up1, q44, q3] using h3, by simpa [moF, up2, up1, q44, q3] using h4⟩
theorem mo_s_beat {c I : Wo} (h : moR c I) {x : Int} (hx : 1 ≤ x ∧ x ≤ 64) : moR (up2 c 0 4 x) (up2 I 0 11 x) := by
  obtain ⟨⟨hN, hS, hV, hF⟩, h1, h2, h3, h4⟩ := h
  exact ⟨⟨by simpa [wfN, up2, up1, q44, q3] using hN, by simp [wfS, up2, up1, q44, q3] at hS ⊢; omega, by simpa [wfV, up2, up1, q44, q3] using hV, by simpa [wfF, up2, up1, q44, q3] using hF⟩, by simpa [moN, up2, up1, q44, q3] using h1, by simp [moS, up2, up1, q44, q3] at h2 ⊢; omega, by simpa [moV, up2, up1, q44, q3] using h3, by simpa [moF, up2, up1, q44, q3] using h4⟩
theorem mo_s_rules {c I : Wo} (h : moR c I) {x : Int} (hx : 0 ≤ x ∧ x ≤ 255) : moR (up2 c 0 5 x) (up2 I 0 13 x) := by
  obtain ⟨⟨hN, hS, hV, hF⟩, h1, h2, h3, h4⟩ := h
  exact ⟨⟨by simpa [wfN, up2, up1, q44, q3] using hN, by simp [wfS, up2, up1, q44, q3] at hS ⊢; omega, by simpa [wfV, up2, up1, q44, q3] using hV, by simpa [wfF, up2, up1, q44, q3] using hF⟩, by simpa [moN, up2, up1, q44, q3] using h1, by simp [moS, up2, up1, q44, q3] at h2 ⊢; omega, by simpa [moV, up2, up1, q44, q3] using h3, by simpa [moF, up2, up1, q44, q3] using h4⟩
theorem mo_s_round {c I : Wo} (h : moR c I) {x : Int} (hx : 0 ≤ x ∧ x ≤ 400) : moR (up2 c 0 6 x) (up2 I 0 12 x) := by
  obtain ⟨⟨hN, hS, hV, hF⟩, h1, h2, h3, h4⟩ := h
  exact ⟨⟨by simpa [wfN, up2, up1, q44, q3] using hN, by simp [wfS, up2, up1, q44, q3] at hS ⊢; omega, by simpa [wfV, up2, up1, q44, q3] using hV, by simpa [wfF, up2, up1, q44, q3] using hF⟩, by simpa [moN, up2, up1, q44, q3] using h1, by simp [moS, up2, up1, q44, q3] at h2 ⊢; omega, by simpa [moV, up2, up1, q44, q3] using h3, by simpa [moF, up2, up1, q44, q3] using h4⟩
theorem mo_s_steps {c I : Wo} (h : moR c I) {x : Int} (hx : 0 ≤ x ∧ x ≤ 3000) : moR (up2 c 0 7 x) (up2 I 0 14 x) := by
  obtain ⟨⟨hN, hS, hV, hF⟩, h1, h2, h3, h4⟩ := h
  exact ⟨⟨by simpa [wfN, up2, up1, q44, q3] using hN, by simp [wfS, up2, up1, q44, q3] at hS ⊢; omega, by simpa [wfV, up2, up1, q44, q3] using hV, by simpa [wfF, up2, up1, q44, q3] using hF⟩, by simpa [moN, up2, up1, q44, q3] using h1, by simp [moS, up2, up1, q44, q3] at h2 ⊢; omega, by simpa [moV, up2, up1, q44, q3] using h3, by simpa [moF, up2, up1, q44, q3] using h4⟩
theorem mo_s_span {c I : Wo} (h : moR c I) {x y : Int} (hx : 0 ≤ x ∧ x ≤ y ∧ y ≤ 127) : moR (up2 (up2 c 0 1 x) 0 2 y) (up2 (up2 I 0 8 x) 0 9 y) := by
  obtain ⟨⟨hN, hS, hV, hF⟩, h1, h2, h3, h4⟩ := h
  exact ⟨⟨by simpa [wfN, up2, up1, q44, q3] using hN, by simp [wfS, up2, up1, q44, q3] at hS ⊢; omega, by simpa [wfV, up2, up1, q44, q3] using hV, by simpa [wfF, up2, up1, q44, q3] using hF⟩, by simpa [moN, up2, up1, q44, q3] using h1, by simp [moS, up2, up1, q44, q3] at h2 ⊢; omega, by simpa [moV, up2, up1, q44, q3] using h3, by simpa [moF, up2, up1, q44, q3] using h4⟩
theorem mo_s_cut {c I : Wo} (h : moR c I) {x : Int} (hx : 0 ≤ x ∧ x ≤ c 0 0) : moR (up2 c 0 0 x) (up2 I 0 2 x) := by
  obtain ⟨⟨hN, hS, hV, hF⟩, h1, h2, h3, h4⟩ := h
  exact ⟨⟨⟨by have := hN.1; simp [up2, up1, q44, q3]; omega, fun j hj => by
    have := hN.2 j (by simp [up2, up1, q44, q3] at hj; omega)
    simpa [up2, up1, q44, q3] using this⟩, by simpa [wfS, up2, up1, q44, q3] using hS, by simpa [wfV, up2, up1, q44, q3] using hV, by simpa [wfF, up2, up1, q44, q3] using hF⟩, ⟨by simp [up2, up1, q44, q3], fun j hj => by
    have := h1.2 j (by simp [up2, up1, q44, q3] at hj; omega)
    simpa [up2, up1, q44, q3] using this⟩, by simpa [moS, up2, up1, q44, q3] using h2, by simpa [moV, up2, up1, q44, q3] using h3, by simpa [moF, up2, up1, q44, q3] using h4⟩
theorem mo_s_pitch {c I : Wo} (h : moR c I) {k : Nat} {x : Int} (hk : (k : Int) < c 0 0) (hx : -2 ≤ x ∧ x ≤ 127) : moR (up2 c 1 k x) (up2 I 1 k x) := by
  obtain ⟨⟨hN, hS, hV, hF⟩, h1, h2, h3, h4⟩ := h
  exact ⟨⟨⟨by simpa [up2, up1, q44, q3] using hN.1, fun j hj => by
    have := hN.2 j (by simpa [up2, up1, q44, q3] using hj)
    by_cases e : j = k
    · subst e; simp [up2, up1, q44, q3]; omega
    · simpa [up2, up1, q44, q3, e] using this⟩, by simpa [wfS, up2, up1, q44, q3] using hS, by simpa [wfV, up2, up1, q44, q3] using hV, by simpa [wfF, up2, up1, q44, q3] using hF⟩, ⟨by simpa [up2, up1, q44, q3] using h1.1, fun j hj => by
    have := h1.2 j (by simpa [up2, up1, q44, q3] using hj)
    by_cases e : j = k
    · subst e; simpa [up2, up1, q44, q3] using this.2
    · simpa [up2, up1, q44, q3, e] using this⟩, by simpa [moS, up2, up1, q44, q3] using h2, by simpa [moV, up2, up1, q44, q3] using h3, by simpa [moF, up2, up1, q44, q3] using h4⟩
theorem mo_s_note {c I : Wo} (h : moR c I) {k : Nat} {x y : Int} (hk : (k : Int) = c 0 0) (hk2 : k < 24) (hx : -2 ≤ x ∧ x ≤ 127) (hy : 1 ≤ y ∧ y ≤ 16) : moR (up2 (up2 (up2 c 1 k x) 2 k y) 0 0 (c 0 0 + 1)) (up2 (up2 (up2 I 1 k x) 2 k y) 0 2 (c 0 0 + 1)) := by
  obtain ⟨⟨hN, hS, hV, hF⟩, h1, h2, h3, h4⟩ := h
  exact ⟨⟨⟨by have := hN.1; simp [up2, up1, q44, q3]; omega, fun j hj => by
    by_cases e : j = k
    · subst e; simp [up2, up1, q44, q3]; omega
    · have := hN.2 j (by simp [up2, up1, q44, q3] at hj; omega)
      simpa [up2, up1, q44, q3, e] using this⟩, by simpa [wfS, up2, up1, q44, q3] using hS, by simpa [wfV, up2, up1, q44, q3] using hV, by simpa [wfF, up2, up1, q44, q3] using hF⟩, ⟨by simp [up2, up1, q44, q3], fun j hj => by
    by_cases e : j = k
    · subst e; simp [up2, up1, q44, q3]
    · have := h1.2 j (by simp [up2, up1, q44, q3] at hj; omega)
      simpa [up2, up1, q44, q3, e] using this⟩, by simpa [moS, up2, up1, q44, q3] using h2, by simpa [moV, up2, up1, q44, q3] using h3, by simpa [moF, up2, up1, q44, q3] using h4⟩
theorem mo_s_off {c I : Wo} (h : moR c I) {v : Nat} (hv : 1 ≤ v ∧ v < 4) : moR (up2 c (3 + v) 0 0) (up2 I 3 v 0) := by
  obtain ⟨⟨hN, hS, hV, hF⟩, h1, h2, h3, h4⟩ := h
  exact ⟨⟨by simpa [wfN, up2, up1, q44, q3, show ¬ 0 = 3 + v by omega, show ¬ 1 = 3 + v by omega, show ¬ 2 = 3 + v by omega, show ¬ 8 = 3 + v by omega, show ¬ 9 = 3 + v by omega] using hN, by simpa [wfS, up2, up1, q44, q3, show ¬ 0 = 3 + v by omega, show ¬ 1 = 3 + v by omega, show ¬ 2 = 3 + v by omega, show ¬ 8 = 3 + v by omega, show ¬ 9 = 3 + v by omega] using hS, ⟨fun u hu => by
    have := hV.1 u hu
    by_cases e : u = v
    · subst e; simp [up2, up1, q44, q3]; omega
    · have e1 : ¬ 3 + u = 3 + v := by omega
      simpa [up2, up1, q44, q3, e, e1] using this, by
    have e1 : ¬ 3 = 3 + v := by omega
    simpa [up2, up1, q44, q3, e1, hv.1, show ¬ v = 0 by omega] using hV.2⟩, by simpa [wfF, up2, up1, q44, q3, show ¬ 0 = 3 + v by omega, show ¬ 1 = 3 + v by omega, show ¬ 2 = 3 + v by omega, show ¬ 8 = 3 + v by omega, show ¬ 9 = 3 + v by omega] using hF⟩, by simpa [moN, up2, up1, q44, q3, show ¬ 0 = 3 + v by omega, show ¬ 1 = 3 + v by omega, show ¬ 2 = 3 + v by omega, show ¬ 8 = 3 + v by omega, show ¬ 9 = 3 + v by omega] using h1, by simpa [moS, up2, up1, q44, q3, show ¬ 0 = 3 + v by omega, show ¬ 1 = 3 + v by omega, show ¬ 2 = 3 + v by omega, show ¬ 8 = 3 + v by omega, show ¬ 9 = 3 + v by omega] using h2, fun u hu => by
    have := h3 u hu
    by_cases e : u = v
    · subst e; simp [up2, up1, q44, q3]; omega
    · have e1 : ¬ 3 + u = 3 + v := by omega
      simpa [up2, up1, q44, q3, e, e1] using this, by simpa [moF, up2, up1, q44, q3, show ¬ 0 = 3 + v by omega, show ¬ 1 = 3 + v by omega, show ¬ 2 = 3 + v by omega, show ¬ 8 = 3 + v by omega, show ¬ 9 = 3 + v by omega] using h4⟩
theorem mo_s_voice {c I : Wo} (h : moR c I) {v : Nat} {d i m f : Int} (hv : 1 ≤ v ∧ v < 4) (hd : 0 ≤ d ∧ d ≤ 100) (hi : -24 ≤ i ∧ i ≤ 24) (hm : 0 ≤ m ∧ m ≤ 3) (hf : 1 ≤ f ∧ f ≤ 3) : moR (up2 (up2 (up2 (up2 (up2 c (3 + v) 0 1) (3 + v) 1 d) (3 + v) 2 i) (3 + v) 3 m) (3 + v) 4 f) (up2 (up2 (up2 (up2 (up2 I 3 v 1) 4 v d) 5 v i) 6 v m) 7 v f) := by
  obtain ⟨⟨hN, hS, hV, hF⟩, h1, h2, h3, h4⟩ := h
  exact ⟨⟨by simpa [wfN, up2, up1, q44, q3, show ¬ 0 = 3 + v by omega, show ¬ 1 = 3 + v by omega, show ¬ 2 = 3 + v by omega, show ¬ 8 = 3 + v by omega, show ¬ 9 = 3 + v by omega] using hN, by simpa [wfS, up2, up1, q44, q3, show ¬ 0 = 3 + v by omega, show ¬ 1 = 3 + v by omega, show ¬ 2 = 3 + v by omega, show ¬ 8 = 3 + v by omega, show ¬ 9 = 3 + v by omega] using hS, ⟨fun u hu => by
    have := hV.1 u hu
    by_cases e : u = v
    · subst e; simp [up2, up1, q44, q3]; omega
    · have e1 : ¬ 3 + u = 3 + v := by omega
      simpa [up2, up1, q44, q3, e, e1] using this, by
    have e1 : ¬ 3 = 3 + v := by omega
    simpa [up2, up1, q44, q3, e1, hv.1, show ¬ v = 0 by omega] using hV.2⟩, by simpa [wfF, up2, up1, q44, q3, show ¬ 0 = 3 + v by omega, show ¬ 1 = 3 + v by omega, show ¬ 2 = 3 + v by omega, show ¬ 8 = 3 + v by omega, show ¬ 9 = 3 + v by omega] using hF⟩, by simpa [moN, up2, up1, q44, q3, show ¬ 0 = 3 + v by omega, show ¬ 1 = 3 + v by omega, show ¬ 2 = 3 + v by omega, show ¬ 8 = 3 + v by omega, show ¬ 9 = 3 + v by omega] using h1, by simpa [moS, up2, up1, q44, q3, show ¬ 0 = 3 + v by omega, show ¬ 1 = 3 + v by omega, show ¬ 2 = 3 + v by omega, show ¬ 8 = 3 + v by omega, show ¬ 9 = 3 + v by omega] using h2, fun u hu => by
    have := h3 u hu
    by_cases e : u = v
    · subst e; simp [up2, up1, q44, q3]; try omega
    · have e1 : ¬ 3 + u = 3 + v := by omega
      simpa [up2, up1, q44, q3, e, e1] using this, by simpa [moF, up2, up1, q44, q3, show ¬ 0 = 3 + v by omega, show ¬ 1 = 3 + v by omega, show ¬ 2 = 3 + v by omega, show ¬ 8 = 3 + v by omega, show ¬ 9 = 3 + v by omega] using h4⟩
end
section
theorem an_size_b {c : Wo} (h : wfN c) : 0 ≤ an_size c ∧ an_size c ≤ 384 := by
  have := usum_b (f := c 2) (n := (c 0 0).toNat) (fun j hj => (h.2 j (by have := h.1; omega)).2)
  have := h.1
  unfold an_size
  omega
theorem mul_rng {U f : Int} (hU : 0 ≤ U ∧ U ≤ 384) (hf : 1 ≤ f ∧ f ≤ 3) : U ≤ U * f ∧ U * f ≤ 1152 := by
  rcases (show f = 1 ∨ f = 2 ∨ f = 3 by omega) with rfl | rfl | rfl <;> omega
/-- THE END without a ROUND, over the first voices -/
def eo (c : Wo) : Nat → Int
  | 0 => 0
  | v + 1 => if c (3 + v) 0 = 1 then max (eo c v) (c (3 + v) 1 + an_size c * c (3 + v) 4) else eo c v
def an_end (c : Wo) : Int := if 0 < c 0 6 then c 0 6 else eo c 4
theorem eo_b {c : Wo} (h : wfN c) (hV : wfV c) : ∀ v, v ≤ 4 → 0 ≤ eo c v ∧ eo c v ≤ 1252 := by
  intro v
  induction v with
  | zero => intro _; simp [eo]
  | succ v ih =>
    intro hv
    have h1 := ih (by omega)
    have h2 := hV.1 v (by omega)
    have h3 := mul_rng (an_size_b h) h2.2.2.2.2
    simp only [eo]
    split <;> omega
/-- a LINE longer than the ROUND -/
def tl (c : Wo) (v : Nat) : Prop := c (3 + v) 0 = 1 ∧ 0 < c 0 6 ∧ c 0 6 < an_size c * c (3 + v) 4

-- CanonMaker$Subject.has(I)Z
theorem d_Subject_has_0 : decode prog_6_method_2_code 0 = .ok (.iload_n 1, 1) := by decide +kernel
theorem d_Subject_has_1 : decode prog_6_method_2_code 1 = .ok (.ifCond .lt 15, 3) := by decide +kernel
theorem d_Subject_has_4 : decode prog_6_method_2_code 4 = .ok (.iload_n 1, 1) := by decide +kernel
theorem d_Subject_has_5 : decode prog_6_method_2_code 5 = .ok (.aload_n 0, 1) := by decide +kernel
theorem d_Subject_has_6 : decode prog_6_method_2_code 6 = .ok (.getfield 18, 3) := by decide +kernel
theorem d_Subject_has_9 : decode prog_6_method_2_code 9 = .ok (.if_icmp .ge 7, 3) := by decide +kernel
theorem d_Subject_has_12 : decode prog_6_method_2_code 12 = .ok (.iconst 1, 1) := by decide +kernel
theorem d_Subject_has_13 : decode prog_6_method_2_code 13 = .ok (.goto 4, 3) := by decide +kernel
theorem d_Subject_has_16 : decode prog_6_method_2_code 16 = .ok (.iconst 0, 1) := by decide +kernel
theorem d_Subject_has_17 : decode prog_6_method_2_code 17 = .ok (.ireturn, 1) := by decide +kernel
abbrev rm_Subject_has : Room := { frames := 0, cells := 0, slots := 0, locals := 0 }
set_option maxHeartbeats 4000000 in
set_option maxRecDepth 100000 in
theorem c_Subject_has (l : Launch) (D : va_G) (cs : Nat → ClassId) (ad : Nat → Nat) (zt : Nat) (hi : cm_inj ad) (I : Wo) (n : Int) (hn : -2147483648 ≤ n ∧ n < 2147483648) (hc : 0 ≤ I 1 2 ∧ I 1 2 ≤ 24) : cm_C l D cs ad zt y_Subject_has ws_Subject_has rm_Subject_has [.ref (ad 1), .int (zi n)] I (mk_pi (fun r J => I = J ∧ ((r = 1 ∧ 0 ≤ n ∧ n < I 1 2) ∨ (r = 0 ∧ ¬ (0 ≤ n ∧ n < I 1 2))))) := by
  refine mk_metz (own := "CanonMaker$Subject") (Ts := wA) hi (Nat.le_refl _) (by decide) rfl (fun w h => List.mem_cons_of_mem _ h) rfl (Nat.le_of_ble_eq_true rfl) [(0, .ref (ad 1)), (1, .int (zi n))] rfl ?_
  intro p_ e_ s_ m_ as_ bl_ me_ co_ Q_ X hret
  refine mk_iloadn (nx := 1) X 1 d_Subject_has_0 rfl rfl ?_
  refine mk_if_lt (tgt := 16) (nx := 4) X d_Subject_has_1 (by omega) (by decide) rfl (fun c1 => ?_) (fun c1 => ?_)
  · skip
    refine mk_iconst (nx := 17) X d_Subject_has_16 rfl ?_
    exact hret _ _ _ _ d_Subject_has_17 (by omega) (by exact ⟨rfl, by omega⟩)
  · skip
    refine mk_iloadn (nx := 5) X 1 d_Subject_has_4 rfl rfl ?_
    refine mk_aloadn (nx := 6) X 0 d_Subject_has_5 rfl rfl ?_
    refine mk_get (nx := 9) (v := .int (zi (I 1 2))) X 1 (by decide) (sh_Subject cs ad _) rfl in_Subject 2 (by decide) wd_70 rfl rfl d_Subject_has_6 rfl ?_
    refine mk_icmp_ge (tgt := 16) (nx := 12) X d_Subject_has_9 (by omega) (by omega) (by decide) rfl (fun c9 => ?_) (fun c9 => ?_)
    · skip
      refine mk_iconst (nx := 17) X d_Subject_has_16 rfl ?_
      exact hret _ _ _ _ d_Subject_has_17 (by omega) (by exact ⟨rfl, by omega⟩)
    · skip
      refine mk_iconst (nx := 13) X d_Subject_has_12 rfl ?_
      refine mk_goto (tgt := 17) X d_Subject_has_13 (by decide) ?_
      exact hret _ _ _ _ d_Subject_has_17 (by omega) (by exact ⟨rfl, by omega⟩)

-- CanonMaker$Subject.units()I
theorem d_Subject_units_0 : decode prog_6_method_3_code 0 = .ok (.iconst 0, 1) := by decide +kernel
theorem d_Subject_units_1 : decode prog_6_method_3_code 1 = .ok (.istore_n 1, 1) := by decide +kernel
theorem d_Subject_units_2 : decode prog_6_method_3_code 2 = .ok (.iconst 0, 1) := by decide +kernel
theorem d_Subject_units_3 : decode prog_6_method_3_code 3 = .ok (.istore_n 2, 1) := by decide +kernel
theorem d_Subject_units_4 : decode prog_6_method_3_code 4 = .ok (.iload_n 2, 1) := by decide +kernel
theorem d_Subject_units_5 : decode prog_6_method_3_code 5 = .ok (.aload_n 0, 1) := by decide +kernel
theorem d_Subject_units_6 : decode prog_6_method_3_code 6 = .ok (.getfield 18, 3) := by decide +kernel
theorem d_Subject_units_9 : decode prog_6_method_3_code 9 = .ok (.if_icmp .ge 18, 3) := by decide +kernel
theorem d_Subject_units_12 : decode prog_6_method_3_code 12 = .ok (.iload_n 1, 1) := by decide +kernel
theorem d_Subject_units_13 : decode prog_6_method_3_code 13 = .ok (.aload_n 0, 1) := by decide +kernel
theorem d_Subject_units_14 : decode prog_6_method_3_code 14 = .ok (.getfield 15, 3) := by decide +kernel
theorem d_Subject_units_17 : decode prog_6_method_3_code 17 = .ok (.iload_n 2, 1) := by decide +kernel
theorem d_Subject_units_18 : decode prog_6_method_3_code 18 = .ok (.iaload, 1) := by decide +kernel
theorem d_Subject_units_19 : decode prog_6_method_3_code 19 = .ok (.iadd, 1) := by decide +kernel
theorem d_Subject_units_20 : decode prog_6_method_3_code 20 = .ok (.istore_n 1, 1) := by decide +kernel
theorem d_Subject_units_21 : decode prog_6_method_3_code 21 = .ok (.iinc 2 1, 3) := by decide +kernel
theorem d_Subject_units_24 : decode prog_6_method_3_code 24 = .ok (.goto (-20), 3) := by decide +kernel
theorem d_Subject_units_27 : decode prog_6_method_3_code 27 = .ok (.iload_n 1, 1) := by decide +kernel
theorem d_Subject_units_28 : decode prog_6_method_3_code 28 = .ok (.ireturn, 1) := by decide +kernel
abbrev rm_Subject_units : Room := { frames := 0, cells := 0, slots := 0, locals := 0 }
set_option maxHeartbeats 4000000 in
set_option maxRecDepth 100000 in
theorem c_Subject_units (l : Launch) (D : va_G) (cs : Nat → ClassId) (ad : Nat → Nat) (zt : Nat) (hi : cm_inj ad) (c I : Wo) (hw : wfN c) (hm : cmN c I) : cm_C l D cs ad zt y_Subject_units ws_Subject_units rm_Subject_units [.ref (ad 1)] I (mk_pi (fun r J => I = J ∧ r = an_size c)) := by
  refine mk_meti (own := "CanonMaker$Subject") (Ts := wA) hi (Nat.le_refl _) (by decide) rfl (fun w h => List.mem_cons_of_mem _ h) rfl (Nat.le_of_ble_eq_true rfl) [(0, .ref (ad 1))] rfl ?_
  intro p_ e_ s_ m_ as_ bl_ me_ co_ Q_ X hret
  have h0 := hw.1
  have h1 := hm.1
  have L4 : ∀ nf : Nat, ∀ (k : Nat), ((k : Int) ≤ c 0 0) → 24 - k < nf → mk_A p_ l e_ rm_Subject_units s_ m_ as_ bl_ me_ co_ Q_ 3 D cmcl (cm_sh cs ad) 48 48 ad I [(0, .ref (ad 1)), (1, .int (zi (usum (c 2) k))), (2, .int (zi (k : Int)))] 4 [] := by
    intro nf
    induction nf with
    | zero => intro k hk hn; exact absurd hn (Nat.not_lt_zero _)
    | succ nf ih4 =>
      intro k hk hn4
      have hb := usum_b (f := c 2) (n := k) (fun j hj => (hw.2 j (by omega)).2)
      refine mk_iloadn (nx := 5) X 2 d_Subject_units_4 rfl rfl ?_
      refine mk_aloadn (nx := 6) X 0 d_Subject_units_5 rfl rfl ?_
      refine mk_get (nx := 9) (v := .int (zi (I 1 2))) X 1 (by decide) (sh_Subject cs ad _) rfl in_Subject 2 (by decide) wd_70 rfl rfl d_Subject_units_6 rfl ?_
      refine mk_icmp_ge (tgt := 27) (nx := 12) X d_Subject_units_9 (by omega) (by omega) (by decide) rfl (fun c9 => ?_) (fun c9 => ?_)
      · skip
        refine mk_iloadn (nx := 28) X 1 d_Subject_units_27 rfl rfl ?_
        exact hret _ _ _ _ d_Subject_units_28 (by exact ⟨rfl, by rw [show k = (c 0 0).toNat by omega]; rfl⟩)
      · skip
        refine mk_iloadn (nx := 13) X 1 d_Subject_units_12 rfl rfl ?_
        refine mk_aloadn (nx := 14) X 0 d_Subject_units_13 rfl rfl ?_
        refine mk_get (nx := 17) (v := .ref (ad 3)) X 1 (by decide) (sh_Subject cs ad _) rfl in_Subject 1 (by decide) wd_67 rfl rfl d_Subject_units_14 rfl ?_
        refine mk_iloadn (nx := 18) X 2 d_Subject_units_17 rfl rfl ?_
        refine mk_iald (nx := 19) (j := k) X 3 0 (by decide) (sh_Slen cs ad _) rfl (by omega) (by omega) (by decide) rfl d_Subject_units_18 rfl ?_
        rw [show I 3 k = c 2 k from (hm.2 k (by omega)).2]
        refine mk_iadd (nx := 20) X d_Subject_units_19 rfl ?_
        refine mk_istoren (nx := 21) X [(1, .int (zi ((usum (c 2) k) + (c 2 k)))), (0, .ref (ad 1)), (2, .int (zi (k : Int)))] d_Subject_units_20 (by decide) rfl rfl ?_
        refine mk_iinc (nx := 24) X 2 [(2, .int (zi ((k : Int) + 1))), (1, .int (zi ((usum (c 2) k) + (c 2 k)))), (0, .ref (ad 1))] d_Subject_units_21 rfl (by decide) rfl rfl ?_
        refine mk_goto (tgt := 4) X d_Subject_units_24 (by decide) ?_
        refine mk_lv [2, 1, 0] rfl ?_
        exact ih4 (k + 1) (by omega) (by omega)
  refine mk_iconst (nx := 1) X d_Subject_units_0 rfl ?_
  refine mk_istoren (nx := 2) X [(1, .int (zi 0)), (0, .ref (ad 1))] d_Subject_units_1 (by decide) rfl rfl ?_
  refine mk_iconst (nx := 3) X d_Subject_units_2 rfl ?_
  refine mk_istoren (nx := 4) X [(2, .int (zi 0)), (1, .int (zi 0)), (0, .ref (ad 1))] d_Subject_units_3 (by decide) rfl rfl ?_
  refine mk_lv [2, 1, 0] rfl ?_
  exact L4 _ 0 (by omega) (Nat.lt_succ_self _)

-- CanonMaker.isPitch(I)Z
theorem d_CM_isPitch_0 : decode prog_1_method_22_code 0 = .ok (.iload_n 0, 1) := by decide +kernel
theorem d_CM_isPitch_1 : decode prog_1_method_22_code 1 = .ok (.bipush (-2), 2) := by decide +kernel
theorem d_CM_isPitch_3 : decode prog_1_method_22_code 3 = .ok (.if_icmp .lt 13, 3) := by decide +kernel
theorem d_CM_isPitch_6 : decode prog_1_method_22_code 6 = .ok (.iload_n 0, 1) := by decide +kernel
theorem d_CM_isPitch_7 : decode prog_1_method_22_code 7 = .ok (.bipush 127, 2) := by decide +kernel
theorem d_CM_isPitch_9 : decode prog_1_method_22_code 9 = .ok (.if_icmp .gt 7, 3) := by decide +kernel
theorem d_CM_isPitch_12 : decode prog_1_method_22_code 12 = .ok (.iconst 1, 1) := by decide +kernel
theorem d_CM_isPitch_13 : decode prog_1_method_22_code 13 = .ok (.goto 4, 3) := by decide +kernel
theorem d_CM_isPitch_16 : decode prog_1_method_22_code 16 = .ok (.iconst 0, 1) := by decide +kernel
theorem d_CM_isPitch_17 : decode prog_1_method_22_code 17 = .ok (.ireturn, 1) := by decide +kernel
abbrev rm_CM_isPitch : Room := { frames := 0, cells := 0, slots := 0, locals := 0 }
set_option maxHeartbeats 4000000 in
set_option maxRecDepth 100000 in
theorem c_CM_isPitch (l : Launch) (D : va_G) (cs : Nat → ClassId) (ad : Nat → Nat) (zt : Nat) (hi : cm_inj ad) (I : Wo) (x : Int) (hx : -2147483648 ≤ x ∧ x < 2147483648) : cm_C l D cs ad zt y_CM_isPitch ws_CM_isPitch rm_CM_isPitch [.int (zi x)] I (mk_pi (fun r J => I = J ∧ ((r = 1 ∧ -2 ≤ x ∧ x ≤ 127) ∨ (r = 0 ∧ ¬ (-2 ≤ x ∧ x ≤ 127))))) := by
  refine mk_metz (own := "CanonMaker") (Ts := wA) hi (Nat.le_refl _) (by decide) rfl (fun w h => List.mem_cons_of_mem _ h) rfl (Nat.le_of_ble_eq_true rfl) [(0, .int (zi x))] rfl ?_
  intro p_ e_ s_ m_ as_ bl_ me_ co_ Q_ X hret
  refine mk_iloadn (nx := 1) X 0 d_CM_isPitch_0 rfl rfl ?_
  refine mk_bipush (nx := 3) X d_CM_isPitch_1 (by decide) rfl ?_
  refine mk_icmp_lt (tgt := 16) (nx := 6) X d_CM_isPitch_3 (by omega) (by omega) (by decide) rfl (fun c3 => ?_) (fun c3 => ?_)
  · skip
    refine mk_iconst (nx := 17) X d_CM_isPitch_16 rfl ?_
    exact hret _ _ _ _ d_CM_isPitch_17 (by omega) (by exact ⟨rfl, by omega⟩)
  · skip
    refine mk_iloadn (nx := 7) X 0 d_CM_isPitch_6 rfl rfl ?_
    refine mk_bipush (nx := 9) X d_CM_isPitch_7 (by decide) rfl ?_
    refine mk_icmp_gt (tgt := 16) (nx := 12) X d_CM_isPitch_9 (by omega) (by omega) (by decide) rfl (fun c9 => ?_) (fun c9 => ?_)
    · skip
      refine mk_iconst (nx := 17) X d_CM_isPitch_16 rfl ?_
      exact hret _ _ _ _ d_CM_isPitch_17 (by omega) (by exact ⟨rfl, by omega⟩)
    · skip
      refine mk_iconst (nx := 13) X d_CM_isPitch_12 rfl ?_
      refine mk_goto (tgt := 17) X d_CM_isPitch_13 (by decide) ?_
      exact hret _ _ _ _ d_CM_isPitch_17 (by omega) (by exact ⟨rfl, by omega⟩)

-- CanonMaker.isFollower(I)Z
theorem d_CM_isFollower_0 : decode prog_1_method_23_code 0 = .ok (.iload_n 0, 1) := by decide +kernel
theorem d_CM_isFollower_1 : decode prog_1_method_23_code 1 = .ok (.iconst 1, 1) := by decide +kernel
theorem d_CM_isFollower_2 : decode prog_1_method_23_code 2 = .ok (.if_icmp .lt 12, 3) := by decide +kernel
theorem d_CM_isFollower_5 : decode prog_1_method_23_code 5 = .ok (.iload_n 0, 1) := by decide +kernel
theorem d_CM_isFollower_6 : decode prog_1_method_23_code 6 = .ok (.iconst 4, 1) := by decide +kernel
theorem d_CM_isFollower_7 : decode prog_1_method_23_code 7 = .ok (.if_icmp .ge 7, 3) := by decide +kernel
theorem d_CM_isFollower_10 : decode prog_1_method_23_code 10 = .ok (.iconst 1, 1) := by decide +kernel
theorem d_CM_isFollower_11 : decode prog_1_method_23_code 11 = .ok (.goto 4, 3) := by decide +kernel
theorem d_CM_isFollower_14 : decode prog_1_method_23_code 14 = .ok (.iconst 0, 1) := by decide +kernel
theorem d_CM_isFollower_15 : decode prog_1_method_23_code 15 = .ok (.ireturn, 1) := by decide +kernel
abbrev rm_CM_isFollower : Room := { frames := 0, cells := 0, slots := 0, locals := 0 }
set_option maxHeartbeats 4000000 in
set_option maxRecDepth 100000 in
theorem c_CM_isFollower (l : Launch) (D : va_G) (cs : Nat → ClassId) (ad : Nat → Nat) (zt : Nat) (hi : cm_inj ad) (I : Wo) (x : Int) (hx : -2147483648 ≤ x ∧ x < 2147483648) : cm_C l D cs ad zt y_CM_isFollower ws_CM_isFollower rm_CM_isFollower [.int (zi x)] I (mk_pi (fun r J => I = J ∧ ((r = 1 ∧ 1 ≤ x ∧ x ≤ 3) ∨ (r = 0 ∧ ¬ (1 ≤ x ∧ x ≤ 3))))) := by
  refine mk_metz (own := "CanonMaker") (Ts := wA) hi (Nat.le_refl _) (by decide) rfl (fun w h => List.mem_cons_of_mem _ h) rfl (Nat.le_of_ble_eq_true rfl) [(0, .int (zi x))] rfl ?_
  intro p_ e_ s_ m_ as_ bl_ me_ co_ Q_ X hret
  refine mk_iloadn (nx := 1) X 0 d_CM_isFollower_0 rfl rfl ?_
  refine mk_iconst (nx := 2) X d_CM_isFollower_1 rfl ?_
  refine mk_icmp_lt (tgt := 14) (nx := 5) X d_CM_isFollower_2 (by omega) (by omega) (by decide) rfl (fun c2 => ?_) (fun c2 => ?_)
  · skip
    refine mk_iconst (nx := 15) X d_CM_isFollower_14 rfl ?_
    exact hret _ _ _ _ d_CM_isFollower_15 (by omega) (by exact ⟨rfl, by omega⟩)
  · skip
    refine mk_iloadn (nx := 6) X 0 d_CM_isFollower_5 rfl rfl ?_
    refine mk_iconst (nx := 7) X d_CM_isFollower_6 rfl ?_
    refine mk_icmp_ge (tgt := 14) (nx := 10) X d_CM_isFollower_7 (by omega) (by omega) (by decide) rfl (fun c7 => ?_) (fun c7 => ?_)
    · skip
      refine mk_iconst (nx := 15) X d_CM_isFollower_14 rfl ?_
      exact hret _ _ _ _ d_CM_isFollower_15 (by omega) (by exact ⟨rfl, by omega⟩)
    · skip
      refine mk_iconst (nx := 11) X d_CM_isFollower_10 rfl ?_
      refine mk_goto (tgt := 15) X d_CM_isFollower_11 (by decide) ?_
      exact hret _ _ _ _ d_CM_isFollower_15 (by omega) (by exact ⟨rfl, by omega⟩)

-- CanonMaker.note(II)I
theorem d_CM_note_0 : decode prog_1_method_2_code 0 = .ok (.iload_n 1, 1) := by decide +kernel
theorem d_CM_note_1 : decode prog_1_method_2_code 1 = .ok (.invokestatic 57, 3) := by decide +kernel
theorem d_CM_note_4 : decode prog_1_method_2_code 4 = .ok (.ifCond .eq 14, 3) := by decide +kernel
theorem d_CM_note_7 : decode prog_1_method_2_code 7 = .ok (.iload_n 2, 1) := by decide +kernel
theorem d_CM_note_8 : decode prog_1_method_2_code 8 = .ok (.iconst 1, 1) := by decide +kernel
theorem d_CM_note_9 : decode prog_1_method_2_code 9 = .ok (.if_icmp .lt 9, 3) := by decide +kernel
theorem d_CM_note_12 : decode prog_1_method_2_code 12 = .ok (.iload_n 2, 1) := by decide +kernel
theorem d_CM_note_13 : decode prog_1_method_2_code 13 = .ok (.bipush 16, 2) := by decide +kernel
theorem d_CM_note_15 : decode prog_1_method_2_code 15 = .ok (.if_icmp .le 6, 3) := by decide +kernel
theorem d_CM_note_18 : decode prog_1_method_2_code 18 = .ok (.bipush (-2), 2) := by decide +kernel
theorem d_CM_note_20 : decode prog_1_method_2_code 20 = .ok (.ireturn, 1) := by decide +kernel
theorem d_CM_note_21 : decode prog_1_method_2_code 21 = .ok (.aload_n 0, 1) := by decide +kernel
theorem d_CM_note_22 : decode prog_1_method_2_code 22 = .ok (.getfield 12, 3) := by decide +kernel
theorem d_CM_note_25 : decode prog_1_method_2_code 25 = .ok (.getfield 61, 3) := by decide +kernel
theorem d_CM_note_28 : decode prog_1_method_2_code 28 = .ok (.bipush 24, 2) := by decide +kernel
theorem d_CM_note_30 : decode prog_1_method_2_code 30 = .ok (.if_icmp .lt 6, 3) := by decide +kernel
theorem d_CM_note_33 : decode prog_1_method_2_code 33 = .ok (.bipush (-4), 2) := by decide +kernel
theorem d_CM_note_35 : decode prog_1_method_2_code 35 = .ok (.ireturn, 1) := by decide +kernel
theorem d_CM_note_36 : decode prog_1_method_2_code 36 = .ok (.aload_n 0, 1) := by decide +kernel
theorem d_CM_note_37 : decode prog_1_method_2_code 37 = .ok (.getfield 12, 3) := by decide +kernel
theorem d_CM_note_40 : decode prog_1_method_2_code 40 = .ok (.getfield 61, 3) := by decide +kernel
theorem d_CM_note_43 : decode prog_1_method_2_code 43 = .ok (.istore_n 3, 1) := by decide +kernel
theorem d_CM_note_44 : decode prog_1_method_2_code 44 = .ok (.aload_n 0, 1) := by decide +kernel
theorem d_CM_note_45 : decode prog_1_method_2_code 45 = .ok (.getfield 12, 3) := by decide +kernel
theorem d_CM_note_48 : decode prog_1_method_2_code 48 = .ok (.getfield 65, 3) := by decide +kernel
theorem d_CM_note_51 : decode prog_1_method_2_code 51 = .ok (.iload_n 3, 1) := by decide +kernel
theorem d_CM_note_52 : decode prog_1_method_2_code 52 = .ok (.iload_n 1, 1) := by decide +kernel
theorem d_CM_note_53 : decode prog_1_method_2_code 53 = .ok (.iastore, 1) := by decide +kernel
theorem d_CM_note_54 : decode prog_1_method_2_code 54 = .ok (.aload_n 0, 1) := by decide +kernel
theorem d_CM_note_55 : decode prog_1_method_2_code 55 = .ok (.getfield 12, 3) := by decide +kernel
theorem d_CM_note_58 : decode prog_1_method_2_code 58 = .ok (.getfield 68, 3) := by decide +kernel
theorem d_CM_note_61 : decode prog_1_method_2_code 61 = .ok (.iload_n 3, 1) := by decide +kernel
theorem d_CM_note_62 : decode prog_1_method_2_code 62 = .ok (.iload_n 2, 1) := by decide +kernel
theorem d_CM_note_63 : decode prog_1_method_2_code 63 = .ok (.iastore, 1) := by decide +kernel
theorem d_CM_note_64 : decode prog_1_method_2_code 64 = .ok (.aload_n 0, 1) := by decide +kernel
theorem d_CM_note_65 : decode prog_1_method_2_code 65 = .ok (.getfield 12, 3) := by decide +kernel
theorem d_CM_note_68 : decode prog_1_method_2_code 68 = .ok (.iload_n 3, 1) := by decide +kernel
theorem d_CM_note_69 : decode prog_1_method_2_code 69 = .ok (.iconst 1, 1) := by decide +kernel
theorem d_CM_note_70 : decode prog_1_method_2_code 70 = .ok (.iadd, 1) := by decide +kernel
theorem d_CM_note_71 : decode prog_1_method_2_code 71 = .ok (.putfield 61, 3) := by decide +kernel
theorem d_CM_note_74 : decode prog_1_method_2_code 74 = .ok (.iload_n 3, 1) := by decide +kernel
theorem d_CM_note_75 : decode prog_1_method_2_code 75 = .ok (.ireturn, 1) := by decide +kernel
abbrev rm_CM_note : Room := { frames := 1, cells := 0, slots := 0, locals := 20 }
set_option maxHeartbeats 4000000 in
set_option maxRecDepth 100000 in
theorem c_CM_note (l : Launch) (D : va_G) (cs : Nat → ClassId) (ad : Nat → Nat) (zt : Nat) (hi : cm_inj ad) (c I : Wo) (h : cmR c I) (a : Int) (h_a : -2147483648 ≤ a ∧ a < 2147483648) (b : Int) (h_b : -2147483648 ≤ b ∧ b < 2147483648) : cm_C l D cs ad zt y_CM_note ws_CM_note rm_CM_note [.ref (ad 0), .int (zi a), .int (zi b)] I (mk_pi (fun r J => r = an_note c a b ∧ cmR (nw_note c a b) J)) := by
  refine mk_meti (own := "CanonMaker") (Ts := wA) hi (Nat.le_refl _) (by decide) rfl (fun w h => List.mem_cons_of_mem _ h) rfl (Nat.le_of_ble_eq_true rfl) [(0, .ref (ad 0)), (1, .int (zi a)), (2, .int (zi b))] rfl ?_
  intro p_ e_ s_ m_ as_ bl_ me_ co_ Q_ X hret
  obtain ⟨⟨⟨hn, hN⟩, ⟨hlo, hsc, hbt, hru, hrd, hst⟩, ⟨hV, hV0⟩, ⟨hfc, hF⟩⟩, ⟨i12, iN⟩, ⟨⟨i50, i51, i52, i53, i54⟩, i07, i09⟩, iV, ⟨i010, iF⟩⟩ := id h
  refine mk_iloadn (nx := 1) X 1 d_CM_note_0 rfl rfl ?_
  refine mk_callSi (nx := 4) (n := 1) (As := [.int (zi a)]) (rest := []) X (c_CM_isPitch l D cs ad zt hi I a (by omega)) (g_CM_isPitch wd_325) rfl ⟨rfl, rfl⟩ (by decide +kernel) ⟨by decide, by decide⟩ rfl (Nat.le_of_ble_eq_true rfl) rfl d_CM_note_1 rfl ?_
  intro r1 J1 hJ1
  obtain ⟨rfl, hr1⟩ := hJ1
  refine mk_if_eq (tgt := 18) (nx := 7) X d_CM_note_4 (by omega) (by decide) rfl (fun c4 => ?_) (fun c4 => ?_)
  · skip
    refine mk_bipush (nx := 20) X d_CM_note_18 (by decide) rfl ?_
    exact hret _ _ _ _ d_CM_note_20 (by exact ⟨by rw [an_note, if_pos (by omega)], by rw [nw_note, if_pos (by omega)]; exact h⟩)
  · skip
    refine mk_iloadn (nx := 8) X 2 d_CM_note_7 rfl rfl ?_
    refine mk_iconst (nx := 9) X d_CM_note_8 rfl ?_
    refine mk_icmp_lt (tgt := 18) (nx := 12) X d_CM_note_9 (by omega) (by omega) (by decide) rfl (fun c9 => ?_) (fun c9 => ?_)
    · skip
      refine mk_bipush (nx := 20) X d_CM_note_18 (by decide) rfl ?_
      exact hret _ _ _ _ d_CM_note_20 (by exact ⟨by rw [an_note, if_pos (by omega)], by rw [nw_note, if_pos (by omega)]; exact h⟩)
    · skip
      refine mk_iloadn (nx := 13) X 2 d_CM_note_12 rfl rfl ?_
      refine mk_bipush (nx := 15) X d_CM_note_13 (by decide) rfl ?_
      refine mk_icmp_le (tgt := 21) (nx := 18) X d_CM_note_15 (by omega) (by omega) (by decide) rfl (fun c15 => ?_) (fun c15 => ?_)
      · skip
        refine mk_aloadn (nx := 22) X 0 d_CM_note_21 rfl rfl ?_
        refine mk_get (nx := 25) (v := .ref (ad 1)) X 0 (by decide) (sh_CM cs ad _) rfl in_CM 0 (by decide) wd_287 rfl rfl d_CM_note_22 rfl ?_
        refine mk_get (nx := 28) (v := .int (zi (I 1 2))) X 1 (by decide) (sh_Subject cs ad _) rfl in_Subject 2 (by decide) wd_71 rfl rfl d_CM_note_25 rfl ?_
        refine mk_bipush (nx := 30) X d_CM_note_28 (by decide) rfl ?_
        refine mk_icmp_lt (tgt := 36) (nx := 33) X d_CM_note_30 (by omega) (by omega) (by decide) rfl (fun c30 => ?_) (fun c30 => ?_)
        · skip
          refine mk_aloadn (nx := 37) X 0 d_CM_note_36 rfl rfl ?_
          refine mk_get (nx := 40) (v := .ref (ad 1)) X 0 (by decide) (sh_CM cs ad _) rfl in_CM 0 (by decide) wd_287 rfl rfl d_CM_note_37 rfl ?_
          refine mk_get (nx := 43) (v := .int (zi (I 1 2))) X 1 (by decide) (sh_Subject cs ad _) rfl in_Subject 2 (by decide) wd_71 rfl rfl d_CM_note_40 rfl ?_
          refine mk_istoren (nx := 44) X [(3, .int (zi (I 1 2))), (0, .ref (ad 0)), (1, .int (zi a)), (2, .int (zi b))] d_CM_note_43 (by decide) rfl rfl ?_
          refine mk_aloadn (nx := 45) X 1 d_CM_note_44 rfl rfl ?_
          refine mk_get (nx := 48) (v := .ref (ad 1)) X 0 (by decide) (sh_CM cs ad _) rfl in_CM 0 (by decide) wd_287 rfl rfl d_CM_note_45 rfl ?_
          refine mk_get (nx := 51) (v := .ref (ad 2)) X 1 (by decide) (sh_Subject cs ad _) rfl in_Subject 0 (by decide) wd_65 rfl rfl d_CM_note_48 rfl ?_
          refine mk_iloadn (nx := 52) X 0 d_CM_note_51 rfl rfl ?_
          refine mk_iloadn (nx := 53) X 2 d_CM_note_52 rfl rfl ?_
          refine mk_iast (nx := 54) (j := (I 1 2).toNat) X 2 0 (by decide) (sh_Spit cs ad) rfl (by omega) (by omega) (by decide) rfl d_CM_note_53 rfl ?_
          obtain ⟨J2, hJ2⟩ : ∃ z, z = up2 I 2 ((I 1 2).toNat) a := ⟨_, rfl⟩
          refine mk_same hJ2.symm ?_
          have hJ2s : J2 2 ((I 1 2).toNat) = a := hJ2 ▸ up2_ss I 2 ((I 1 2).toNat) a
          have hJ2o : ∀ a b, (a ≠ 2 ∨ b ≠ ((I 1 2).toNat)) → J2 a b = I a b := hJ2 ▸ up2_o I 2 ((I 1 2).toNat) a
          refine mk_aloadn (nx := 55) X 1 d_CM_note_54 rfl rfl ?_
          refine mk_get (nx := 58) (v := .ref (ad 1)) X 0 (by decide) (sh_CM cs ad _) rfl in_CM 0 (by decide) wd_287 rfl rfl d_CM_note_55 rfl ?_
          refine mk_get (nx := 61) (v := .ref (ad 3)) X 1 (by decide) (sh_Subject cs ad _) rfl in_Subject 1 (by decide) wd_68 rfl rfl d_CM_note_58 rfl ?_
          refine mk_iloadn (nx := 62) X 0 d_CM_note_61 rfl rfl ?_
          refine mk_iloadn (nx := 63) X 3 d_CM_note_62 rfl rfl ?_
          refine mk_iast (nx := 64) (j := (I 1 2).toNat) X 3 0 (by decide) (sh_Slen cs ad) rfl (by omega) (by omega) (by decide) rfl d_CM_note_63 rfl ?_
          obtain ⟨J3, hJ3⟩ : ∃ z, z = up2 J2 3 ((I 1 2).toNat) b := ⟨_, rfl⟩
          refine mk_same hJ3.symm ?_
          have hJ3s : J3 3 ((I 1 2).toNat) = b := hJ3 ▸ up2_ss J2 3 ((I 1 2).toNat) b
          have hJ3o : ∀ a b, (a ≠ 3 ∨ b ≠ ((I 1 2).toNat)) → J3 a b = J2 a b := hJ3 ▸ up2_o J2 3 ((I 1 2).toNat) b
          refine mk_aloadn (nx := 65) X 1 d_CM_note_64 rfl rfl ?_
          refine mk_get (nx := 68) (v := .ref (ad 1)) X 0 (by decide) (sh_CM cs ad _) rfl in_CM 0 (by decide) wd_287 rfl rfl d_CM_note_65 rfl ?_
          refine mk_iloadn (nx := 69) X 0 d_CM_note_68 rfl rfl ?_
          refine mk_iconst (nx := 70) X d_CM_note_69 rfl ?_
          refine mk_iadd (nx := 71) X d_CM_note_70 rfl ?_
          refine mk_putf (nx := 74) (ty := .int) X t_Subject t_Subject_ok n_Subject 1 (by decide) (sh_Subject cs ad _) rfl in_Subject 2 (by decide) wd_71 rfl rfl (by decide +kernel) rfl rfl (Nat.le_of_ble_eq_true rfl) ((sh_Subject cs ad _).trans rfl) d_CM_note_71 rfl ?_
          obtain ⟨J4, hJ4⟩ : ∃ z, z = up2 J3 1 2 ((I 1 2) + 1) := ⟨_, rfl⟩
          refine mk_same hJ4.symm ?_
          have hJ4s : J4 1 2 = (I 1 2) + 1 := hJ4 ▸ up2_ss J3 1 2 ((I 1 2) + 1)
          have hJ4o : ∀ a b, (a ≠ 1 ∨ b ≠ 2) → J4 a b = J3 a b := hJ4 ▸ up2_o J3 1 2 ((I 1 2) + 1)
          refine mk_iloadn (nx := 75) X 0 d_CM_note_74 rfl rfl ?_
          exact hret _ _ _ _ d_CM_note_75 (by exact ⟨by rw [an_note, if_neg (by omega), if_neg (by omega)]; omega, by rw [nw_note, if_neg (by omega), if_neg (by omega), hJ4, hJ3, hJ2]; rw [i12]; exact cm_s_note h (by omega) (by omega) (by omega) (by omega)⟩)
        · skip
          refine mk_bipush (nx := 35) X d_CM_note_33 (by decide) rfl ?_
          exact hret _ _ _ _ d_CM_note_35 (by exact ⟨by rw [an_note, if_neg (by omega), if_pos (by omega)], by rw [nw_note, if_neg (by omega), if_pos (by omega)]; exact h⟩)
      · skip
        refine mk_bipush (nx := 20) X d_CM_note_18 (by decide) rfl ?_
        exact hret _ _ _ _ d_CM_note_20 (by exact ⟨by rw [an_note, if_pos (by omega)], by rw [nw_note, if_pos (by omega)]; exact h⟩)

-- CanonMaker.pitch(II)I
theorem d_CM_pitch_0 : decode prog_1_method_3_code 0 = .ok (.aload_n 0, 1) := by decide +kernel
theorem d_CM_pitch_1 : decode prog_1_method_3_code 1 = .ok (.getfield 12, 3) := by decide +kernel
theorem d_CM_pitch_4 : decode prog_1_method_3_code 4 = .ok (.iload_n 1, 1) := by decide +kernel
theorem d_CM_pitch_5 : decode prog_1_method_3_code 5 = .ok (.invokevirtual 71, 3) := by decide +kernel
theorem d_CM_pitch_8 : decode prog_1_method_3_code 8 = .ok (.ifCond .ne 5, 3) := by decide +kernel
theorem d_CM_pitch_11 : decode prog_1_method_3_code 11 = .ok (.iconst (-1), 1) := by decide +kernel
theorem d_CM_pitch_12 : decode prog_1_method_3_code 12 = .ok (.ireturn, 1) := by decide +kernel
theorem d_CM_pitch_13 : decode prog_1_method_3_code 13 = .ok (.iload_n 2, 1) := by decide +kernel
theorem d_CM_pitch_14 : decode prog_1_method_3_code 14 = .ok (.invokestatic 57, 3) := by decide +kernel
theorem d_CM_pitch_17 : decode prog_1_method_3_code 17 = .ok (.ifCond .ne 6, 3) := by decide +kernel
theorem d_CM_pitch_20 : decode prog_1_method_3_code 20 = .ok (.bipush (-2), 2) := by decide +kernel
theorem d_CM_pitch_22 : decode prog_1_method_3_code 22 = .ok (.ireturn, 1) := by decide +kernel
theorem d_CM_pitch_23 : decode prog_1_method_3_code 23 = .ok (.aload_n 0, 1) := by decide +kernel
theorem d_CM_pitch_24 : decode prog_1_method_3_code 24 = .ok (.getfield 12, 3) := by decide +kernel
theorem d_CM_pitch_27 : decode prog_1_method_3_code 27 = .ok (.getfield 65, 3) := by decide +kernel
theorem d_CM_pitch_30 : decode prog_1_method_3_code 30 = .ok (.iload_n 1, 1) := by decide +kernel
theorem d_CM_pitch_31 : decode prog_1_method_3_code 31 = .ok (.iaload, 1) := by decide +kernel
theorem d_CM_pitch_32 : decode prog_1_method_3_code 32 = .ok (.istore_n 3, 1) := by decide +kernel
theorem d_CM_pitch_33 : decode prog_1_method_3_code 33 = .ok (.aload_n 0, 1) := by decide +kernel
theorem d_CM_pitch_34 : decode prog_1_method_3_code 34 = .ok (.getfield 12, 3) := by decide +kernel
theorem d_CM_pitch_37 : decode prog_1_method_3_code 37 = .ok (.getfield 65, 3) := by decide +kernel
theorem d_CM_pitch_40 : decode prog_1_method_3_code 40 = .ok (.iload_n 1, 1) := by decide +kernel
theorem d_CM_pitch_41 : decode prog_1_method_3_code 41 = .ok (.iload_n 2, 1) := by decide +kernel
theorem d_CM_pitch_42 : decode prog_1_method_3_code 42 = .ok (.iastore, 1) := by decide +kernel
theorem d_CM_pitch_43 : decode prog_1_method_3_code 43 = .ok (.iload_n 3, 1) := by decide +kernel
theorem d_CM_pitch_44 : decode prog_1_method_3_code 44 = .ok (.ireturn, 1) := by decide +kernel
abbrev rm_CM_pitch : Room := { frames := 1, cells := 0, slots := 0, locals := 21 }
set_option maxHeartbeats 4000000 in
set_option maxRecDepth 100000 in
theorem c_CM_pitch (l : Launch) (D : va_G) (cs : Nat → ClassId) (ad : Nat → Nat) (zt : Nat) (hi : cm_inj ad) (c I : Wo) (h : cmR c I) (k : Int) (h_k : -2147483648 ≤ k ∧ k < 2147483648) (a : Int) (h_a : -2147483648 ≤ a ∧ a < 2147483648) : cm_C l D cs ad zt y_CM_pitch ws_CM_pitch rm_CM_pitch [.ref (ad 0), .int (zi k), .int (zi a)] I (mk_pi (fun r J => r = an_pitch c k a ∧ cmR (nw_pitch c k a) J)) := by
  refine mk_meti (own := "CanonMaker") (Ts := wA) hi (Nat.le_refl _) (by decide) rfl (fun w h => List.mem_cons_of_mem _ h) rfl (Nat.le_of_ble_eq_true rfl) [(0, .ref (ad 0)), (1, .int (zi k)), (2, .int (zi a))] rfl ?_
  intro p_ e_ s_ m_ as_ bl_ me_ co_ Q_ X hret
  obtain ⟨⟨⟨hn, hN⟩, ⟨hlo, hsc, hbt, hru, hrd, hst⟩, ⟨hV, hV0⟩, ⟨hfc, hF⟩⟩, ⟨i12, iN⟩, ⟨⟨i50, i51, i52, i53, i54⟩, i07, i09⟩, iV, ⟨i010, iF⟩⟩ := id h
  refine mk_aloadn (nx := 1) X 0 d_CM_pitch_0 rfl rfl ?_
  refine mk_get (nx := 4) (v := .ref (ad 1)) X 0 (by decide) (sh_CM cs ad _) rfl in_CM 0 (by decide) wd_287 rfl rfl d_CM_pitch_1 rfl ?_
  refine mk_iloadn (nx := 5) X 1 d_CM_pitch_4 rfl rfl ?_
  refine mk_callVi (nx := 8) (n := 1) (As := [.int (zi k)]) (rest := []) X 1 (by decide) (sh_Subject cs ad _) rfl (c_Subject_has l D cs ad zt hi I k (by omega) (by omega)) (g_Subject_has wd_332) rfl ⟨rfl, rfl⟩ (by decide +kernel) ⟨by decide, by decide⟩ rfl (Nat.le_of_ble_eq_true rfl) rfl d_CM_pitch_5 rfl ?_
  intro r5 J1 hJ1
  obtain ⟨rfl, hr5⟩ := hJ1
  refine mk_if_ne (tgt := 13) (nx := 11) X d_CM_pitch_8 (by omega) (by decide) rfl (fun c8 => ?_) (fun c8 => ?_)
  · skip
    refine mk_iloadn (nx := 14) X 2 d_CM_pitch_13 rfl rfl ?_
    refine mk_callSi (nx := 17) (n := 1) (As := [.int (zi a)]) (rest := []) X (c_CM_isPitch l D cs ad zt hi I a (by omega)) (g_CM_isPitch wd_325) rfl ⟨rfl, rfl⟩ (by decide +kernel) ⟨by decide, by decide⟩ rfl (Nat.le_of_ble_eq_true rfl) rfl d_CM_pitch_14 rfl ?_
    intro r14 J2 hJ2
    obtain ⟨rfl, hr14⟩ := hJ2
    refine mk_if_ne (tgt := 23) (nx := 20) X d_CM_pitch_17 (by omega) (by decide) rfl (fun c17 => ?_) (fun c17 => ?_)
    · skip
      refine mk_aloadn (nx := 24) X 0 d_CM_pitch_23 rfl rfl ?_
      refine mk_get (nx := 27) (v := .ref (ad 1)) X 0 (by decide) (sh_CM cs ad _) rfl in_CM 0 (by decide) wd_287 rfl rfl d_CM_pitch_24 rfl ?_
      refine mk_get (nx := 30) (v := .ref (ad 2)) X 1 (by decide) (sh_Subject cs ad _) rfl in_Subject 0 (by decide) wd_65 rfl rfl d_CM_pitch_27 rfl ?_
      refine mk_iloadn (nx := 31) X 1 d_CM_pitch_30 rfl rfl ?_
      refine mk_iald (nx := 32) (j := k.toNat) X 2 0 (by decide) (sh_Spit cs ad _) rfl (by omega) (by omega) (by decide) rfl d_CM_pitch_31 rfl ?_
      refine mk_istoren (nx := 33) X [(3, .int (zi (I 2 k.toNat))), (0, .ref (ad 0)), (1, .int (zi k)), (2, .int (zi a))] d_CM_pitch_32 (by decide) rfl rfl ?_
      refine mk_aloadn (nx := 34) X 1 d_CM_pitch_33 rfl rfl ?_
      refine mk_get (nx := 37) (v := .ref (ad 1)) X 0 (by decide) (sh_CM cs ad _) rfl in_CM 0 (by decide) wd_287 rfl rfl d_CM_pitch_34 rfl ?_
      refine mk_get (nx := 40) (v := .ref (ad 2)) X 1 (by decide) (sh_Subject cs ad _) rfl in_Subject 0 (by decide) wd_65 rfl rfl d_CM_pitch_37 rfl ?_
      refine mk_iloadn (nx := 41) X 2 d_CM_pitch_40 rfl rfl ?_
      refine mk_iloadn (nx := 42) X 3 d_CM_pitch_41 rfl rfl ?_
      refine mk_iast (nx := 43) (j := k.toNat) X 2 0 (by decide) (sh_Spit cs ad) rfl (by omega) (by omega) (by decide) rfl d_CM_pitch_42 rfl ?_
      obtain ⟨J3, hJ3⟩ : ∃ z, z = up2 I 2 k.toNat a := ⟨_, rfl⟩
      refine mk_same hJ3.symm ?_
      have hJ3s : J3 2 k.toNat = a := hJ3 ▸ up2_ss I 2 k.toNat a
      have hJ3o : ∀ a b, (a ≠ 2 ∨ b ≠ k.toNat) → J3 a b = I a b := hJ3 ▸ up2_o I 2 k.toNat a
      refine mk_iloadn (nx := 44) X 0 d_CM_pitch_43 rfl rfl ?_
      exact hret _ _ _ _ d_CM_pitch_44 (by exact ⟨by rw [an_pitch, if_neg (by omega), if_neg (by omega)]; exact (iN k.toNat (by omega)).1, by rw [nw_pitch, if_neg (by omega), if_neg (by omega), hJ3]; exact cm_s_pitch h (by omega) (by omega)⟩)
    · skip
      refine mk_bipush (nx := 22) X d_CM_pitch_20 (by decide) rfl ?_
      exact hret _ _ _ _ d_CM_pitch_22 (by exact ⟨by rw [an_pitch, if_neg (by omega), if_pos (by omega)], by rw [nw_pitch, if_neg (by omega), if_pos (by omega)]; exact h⟩)
  · skip
    refine mk_iconst (nx := 12) X d_CM_pitch_11 rfl ?_
    exact hret _ _ _ _ d_CM_pitch_12 (by exact ⟨by rw [an_pitch, if_pos (by omega)], by rw [nw_pitch, if_pos (by omega)]; exact h⟩)

-- CanonMaker.told(II)I
theorem d_CM_told_0 : decode prog_1_method_4_code 0 = .ok (.aload_n 0, 1) := by decide +kernel
theorem d_CM_told_1 : decode prog_1_method_4_code 1 = .ok (.getfield 12, 3) := by decide +kernel
theorem d_CM_told_4 : decode prog_1_method_4_code 4 = .ok (.iload_n 1, 1) := by decide +kernel
theorem d_CM_told_5 : decode prog_1_method_4_code 5 = .ok (.invokevirtual 71, 3) := by decide +kernel
theorem d_CM_told_8 : decode prog_1_method_4_code 8 = .ok (.ifCond .ne 5, 3) := by decide +kernel
theorem d_CM_told_11 : decode prog_1_method_4_code 11 = .ok (.iconst (-1), 1) := by decide +kernel
theorem d_CM_told_12 : decode prog_1_method_4_code 12 = .ok (.ireturn, 1) := by decide +kernel
theorem d_CM_told_13 : decode prog_1_method_4_code 13 = .ok (.iload_n 2, 1) := by decide +kernel
theorem d_CM_told_14 : decode prog_1_method_4_code 14 = .ok (.lookupswitch 46 #[(0, 26), (1, 36)], 26) := by decide +kernel
theorem d_CM_told_40 : decode prog_1_method_4_code 40 = .ok (.aload_n 0, 1) := by decide +kernel
theorem d_CM_told_41 : decode prog_1_method_4_code 41 = .ok (.getfield 12, 3) := by decide +kernel
theorem d_CM_told_44 : decode prog_1_method_4_code 44 = .ok (.getfield 65, 3) := by decide +kernel
theorem d_CM_told_47 : decode prog_1_method_4_code 47 = .ok (.iload_n 1, 1) := by decide +kernel
theorem d_CM_told_48 : decode prog_1_method_4_code 48 = .ok (.iaload, 1) := by decide +kernel
theorem d_CM_told_49 : decode prog_1_method_4_code 49 = .ok (.ireturn, 1) := by decide +kernel
theorem d_CM_told_50 : decode prog_1_method_4_code 50 = .ok (.aload_n 0, 1) := by decide +kernel
theorem d_CM_told_51 : decode prog_1_method_4_code 51 = .ok (.getfield 12, 3) := by decide +kernel
theorem d_CM_told_54 : decode prog_1_method_4_code 54 = .ok (.getfield 68, 3) := by decide +kernel
theorem d_CM_told_57 : decode prog_1_method_4_code 57 = .ok (.iload_n 1, 1) := by decide +kernel
theorem d_CM_told_58 : decode prog_1_method_4_code 58 = .ok (.iaload, 1) := by decide +kernel
theorem d_CM_told_59 : decode prog_1_method_4_code 59 = .ok (.ireturn, 1) := by decide +kernel
theorem d_CM_told_60 : decode prog_1_method_4_code 60 = .ok (.bipush (-2), 2) := by decide +kernel
theorem d_CM_told_62 : decode prog_1_method_4_code 62 = .ok (.ireturn, 1) := by decide +kernel
abbrev rm_CM_told : Room := { frames := 1, cells := 0, slots := 0, locals := 21 }
set_option maxHeartbeats 4000000 in
set_option maxRecDepth 100000 in
theorem c_CM_told (l : Launch) (D : va_G) (cs : Nat → ClassId) (ad : Nat → Nat) (zt : Nat) (hi : cm_inj ad) (c I : Wo) (h : cmR c I) (k : Int) (h_k : -2147483648 ≤ k ∧ k < 2147483648) (w : Int) (h_w : -2147483648 ≤ w ∧ w < 2147483648) : cm_C l D cs ad zt y_CM_told ws_CM_told rm_CM_told [.ref (ad 0), .int (zi k), .int (zi w)] I (mk_pi (fun r J => r = an_told c k w ∧ cmR c J)) := by
  refine mk_meti (own := "CanonMaker") (Ts := wA) hi (Nat.le_refl _) (by decide) rfl (fun w h => List.mem_cons_of_mem _ h) rfl (Nat.le_of_ble_eq_true rfl) [(0, .ref (ad 0)), (1, .int (zi k)), (2, .int (zi w))] rfl ?_
  intro p_ e_ s_ m_ as_ bl_ me_ co_ Q_ X hret
  obtain ⟨⟨⟨hn, hN⟩, ⟨hlo, hsc, hbt, hru, hrd, hst⟩, ⟨hV, hV0⟩, ⟨hfc, hF⟩⟩, ⟨i12, iN⟩, ⟨⟨i50, i51, i52, i53, i54⟩, i07, i09⟩, iV, ⟨i010, iF⟩⟩ := id h
  refine mk_aloadn (nx := 1) X 0 d_CM_told_0 rfl rfl ?_
  refine mk_get (nx := 4) (v := .ref (ad 1)) X 0 (by decide) (sh_CM cs ad _) rfl in_CM 0 (by decide) wd_287 rfl rfl d_CM_told_1 rfl ?_
  refine mk_iloadn (nx := 5) X 1 d_CM_told_4 rfl rfl ?_
  refine mk_callVi (nx := 8) (n := 1) (As := [.int (zi k)]) (rest := []) X 1 (by decide) (sh_Subject cs ad _) rfl (c_Subject_has l D cs ad zt hi I k (by omega) (by omega)) (g_Subject_has wd_332) rfl ⟨rfl, rfl⟩ (by decide +kernel) ⟨by decide, by decide⟩ rfl (Nat.le_of_ble_eq_true rfl) rfl d_CM_told_5 rfl ?_
  intro r5 J1 hJ1
  obtain ⟨rfl, hr5⟩ := hJ1
  refine mk_if_ne (tgt := 13) (nx := 11) X d_CM_told_8 (by omega) (by decide) rfl (fun c8 => ?_) (fun c8 => ?_)
  · skip
    refine mk_iloadn (nx := 14) X 2 d_CM_told_13 rfl rfl ?_
    by_cases c14_0 : w = 0
    · refine mk_lookup (tgt := 40) (off := 26) X d_CM_told_14 (by omega) ⟨by decide, by rw [c14_0]; try rfl⟩ (by decide) ?_
      refine mk_aloadn (nx := 41) X 0 d_CM_told_40 rfl rfl ?_
      refine mk_get (nx := 44) (v := .ref (ad 1)) X 0 (by decide) (sh_CM cs ad _) rfl in_CM 0 (by decide) wd_287 rfl rfl d_CM_told_41 rfl ?_
      refine mk_get (nx := 47) (v := .ref (ad 2)) X 1 (by decide) (sh_Subject cs ad _) rfl in_Subject 0 (by decide) wd_65 rfl rfl d_CM_told_44 rfl ?_
      refine mk_iloadn (nx := 48) X 1 d_CM_told_47 rfl rfl ?_
      refine mk_iald (nx := 49) (j := k.toNat) X 2 0 (by decide) (sh_Spit cs ad _) rfl (by omega) (by omega) (by decide) rfl d_CM_told_48 rfl ?_
      exact hret _ _ _ _ d_CM_told_49 (by exact ⟨by rw [an_told, if_neg (by omega), if_pos (by omega)]; exact (iN k.toNat (by omega)).1, h⟩)
    · skip
      by_cases c14_1 : w = 1
      · refine mk_lookup (tgt := 50) (off := 36) X d_CM_told_14 (by omega) ⟨by decide, by rw [c14_1]; try rfl⟩ (by decide) ?_
        refine mk_aloadn (nx := 51) X 0 d_CM_told_50 rfl rfl ?_
        refine mk_get (nx := 54) (v := .ref (ad 1)) X 0 (by decide) (sh_CM cs ad _) rfl in_CM 0 (by decide) wd_287 rfl rfl d_CM_told_51 rfl ?_
        refine mk_get (nx := 57) (v := .ref (ad 3)) X 1 (by decide) (sh_Subject cs ad _) rfl in_Subject 1 (by decide) wd_68 rfl rfl d_CM_told_54 rfl ?_
        refine mk_iloadn (nx := 58) X 1 d_CM_told_57 rfl rfl ?_
        refine mk_iald (nx := 59) (j := k.toNat) X 3 0 (by decide) (sh_Slen cs ad _) rfl (by omega) (by omega) (by decide) rfl d_CM_told_58 rfl ?_
        exact hret _ _ _ _ d_CM_told_59 (by exact ⟨by rw [an_told, if_neg (by omega), if_neg (by omega), if_pos (by omega)]; exact (iN k.toNat (by omega)).2, h⟩)
      · skip
        refine mk_lookup (tgt := 60) (off := 46) X d_CM_told_14 (by omega) ⟨by decide, by simp only [Op.lookupswitch.offset_cons, Op.lookupswitch.offset_nil]; rw [if_neg (by omega), if_neg (by omega)]⟩ (by decide) ?_
        refine mk_bipush (nx := 62) X d_CM_told_60 (by decide) rfl ?_
        exact hret _ _ _ _ d_CM_told_62 (by exact ⟨by rw [an_told, if_neg (by omega), if_neg (by omega), if_neg (by omega)], h⟩)
  · skip
    refine mk_iconst (nx := 12) X d_CM_told_11 rfl ?_
    exact hret _ _ _ _ d_CM_told_12 (by exact ⟨by rw [an_told, if_pos (by omega)], by exact h⟩)

-- CanonMaker.cut(I)I
theorem d_CM_cut_0 : decode prog_1_method_5_code 0 = .ok (.iload_n 1, 1) := by decide +kernel
theorem d_CM_cut_1 : decode prog_1_method_5_code 1 = .ok (.ifCond .lt 14, 3) := by decide +kernel
theorem d_CM_cut_4 : decode prog_1_method_5_code 4 = .ok (.iload_n 1, 1) := by decide +kernel
theorem d_CM_cut_5 : decode prog_1_method_5_code 5 = .ok (.aload_n 0, 1) := by decide +kernel
theorem d_CM_cut_6 : decode prog_1_method_5_code 6 = .ok (.getfield 12, 3) := by decide +kernel
theorem d_CM_cut_9 : decode prog_1_method_5_code 9 = .ok (.getfield 61, 3) := by decide +kernel
theorem d_CM_cut_12 : decode prog_1_method_5_code 12 = .ok (.if_icmp .le 6, 3) := by decide +kernel
theorem d_CM_cut_15 : decode prog_1_method_5_code 15 = .ok (.bipush (-2), 2) := by decide +kernel
theorem d_CM_cut_17 : decode prog_1_method_5_code 17 = .ok (.ireturn, 1) := by decide +kernel
theorem d_CM_cut_18 : decode prog_1_method_5_code 18 = .ok (.aload_n 0, 1) := by decide +kernel
theorem d_CM_cut_19 : decode prog_1_method_5_code 19 = .ok (.getfield 12, 3) := by decide +kernel
theorem d_CM_cut_22 : decode prog_1_method_5_code 22 = .ok (.getfield 61, 3) := by decide +kernel
theorem d_CM_cut_25 : decode prog_1_method_5_code 25 = .ok (.istore_n 2, 1) := by decide +kernel
theorem d_CM_cut_26 : decode prog_1_method_5_code 26 = .ok (.aload_n 0, 1) := by decide +kernel
theorem d_CM_cut_27 : decode prog_1_method_5_code 27 = .ok (.getfield 12, 3) := by decide +kernel
theorem d_CM_cut_30 : decode prog_1_method_5_code 30 = .ok (.iload_n 1, 1) := by decide +kernel
theorem d_CM_cut_31 : decode prog_1_method_5_code 31 = .ok (.putfield 61, 3) := by decide +kernel
theorem d_CM_cut_34 : decode prog_1_method_5_code 34 = .ok (.iload_n 2, 1) := by decide +kernel
theorem d_CM_cut_35 : decode prog_1_method_5_code 35 = .ok (.ireturn, 1) := by decide +kernel
abbrev rm_CM_cut : Room := { frames := 0, cells := 0, slots := 0, locals := 0 }
set_option maxHeartbeats 4000000 in
set_option maxRecDepth 100000 in
theorem c_CM_cut (l : Launch) (D : va_G) (cs : Nat → ClassId) (ad : Nat → Nat) (zt : Nat) (hi : cm_inj ad) (c I : Wo) (h : cmR c I) (n : Int) (h_n : -2147483648 ≤ n ∧ n < 2147483648) : cm_C l D cs ad zt y_CM_cut ws_CM_cut rm_CM_cut [.ref (ad 0), .int (zi n)] I (mk_pi (fun r J => r = an_cut c n ∧ cmR (nw_cut c n) J)) := by
  refine mk_meti (own := "CanonMaker") (Ts := wA) hi (Nat.le_refl _) (by decide) rfl (fun w h => List.mem_cons_of_mem _ h) rfl (Nat.le_of_ble_eq_true rfl) [(0, .ref (ad 0)), (1, .int (zi n))] rfl ?_
  intro p_ e_ s_ m_ as_ bl_ me_ co_ Q_ X hret
  obtain ⟨⟨⟨hn, hN⟩, ⟨hlo, hsc, hbt, hru, hrd, hst⟩, ⟨hV, hV0⟩, ⟨hfc, hF⟩⟩, ⟨i12, iN⟩, ⟨⟨i50, i51, i52, i53, i54⟩, i07, i09⟩, iV, ⟨i010, iF⟩⟩ := id h
  refine mk_iloadn (nx := 1) X 1 d_CM_cut_0 rfl rfl ?_
  refine mk_if_lt (tgt := 15) (nx := 4) X d_CM_cut_1 (by omega) (by decide) rfl (fun c1 => ?_) (fun c1 => ?_)
  · skip
    refine mk_bipush (nx := 17) X d_CM_cut_15 (by decide) rfl ?_
    exact hret _ _ _ _ d_CM_cut_17 (by exact ⟨by rw [an_cut, if_pos (by omega)], by rw [nw_cut, if_pos (by omega)]; exact h⟩)
  · skip
    refine mk_iloadn (nx := 5) X 1 d_CM_cut_4 rfl rfl ?_
    refine mk_aloadn (nx := 6) X 0 d_CM_cut_5 rfl rfl ?_
    refine mk_get (nx := 9) (v := .ref (ad 1)) X 0 (by decide) (sh_CM cs ad _) rfl in_CM 0 (by decide) wd_287 rfl rfl d_CM_cut_6 rfl ?_
    refine mk_get (nx := 12) (v := .int (zi (I 1 2))) X 1 (by decide) (sh_Subject cs ad _) rfl in_Subject 2 (by decide) wd_71 rfl rfl d_CM_cut_9 rfl ?_
    refine mk_icmp_le (tgt := 18) (nx := 15) X d_CM_cut_12 (by omega) (by omega) (by decide) rfl (fun c12 => ?_) (fun c12 => ?_)
    · skip
      refine mk_aloadn (nx := 19) X 0 d_CM_cut_18 rfl rfl ?_
      refine mk_get (nx := 22) (v := .ref (ad 1)) X 0 (by decide) (sh_CM cs ad _) rfl in_CM 0 (by decide) wd_287 rfl rfl d_CM_cut_19 rfl ?_
      refine mk_get (nx := 25) (v := .int (zi (I 1 2))) X 1 (by decide) (sh_Subject cs ad _) rfl in_Subject 2 (by decide) wd_71 rfl rfl d_CM_cut_22 rfl ?_
      refine mk_istoren (nx := 26) X [(2, .int (zi (I 1 2))), (0, .ref (ad 0)), (1, .int (zi n))] d_CM_cut_25 (by decide) rfl rfl ?_
      refine mk_aloadn (nx := 27) X 1 d_CM_cut_26 rfl rfl ?_
      refine mk_get (nx := 30) (v := .ref (ad 1)) X 0 (by decide) (sh_CM cs ad _) rfl in_CM 0 (by decide) wd_287 rfl rfl d_CM_cut_27 rfl ?_
      refine mk_iloadn (nx := 31) X 2 d_CM_cut_30 rfl rfl ?_
      refine mk_putf (nx := 34) (ty := .int) X t_Subject t_Subject_ok n_Subject 1 (by decide) (sh_Subject cs ad _) rfl in_Subject 2 (by decide) wd_71 rfl rfl (by decide +kernel) rfl rfl (Nat.le_of_ble_eq_true rfl) ((sh_Subject cs ad _).trans rfl) d_CM_cut_31 rfl ?_
      obtain ⟨J1, hJ1⟩ : ∃ z, z = up2 I 1 2 n := ⟨_, rfl⟩
      refine mk_same hJ1.symm ?_
      have hJ1s : J1 1 2 = n := hJ1 ▸ up2_ss I 1 2 n
      have hJ1o : ∀ a b, (a ≠ 1 ∨ b ≠ 2) → J1 a b = I a b := hJ1 ▸ up2_o I 1 2 n
      refine mk_iloadn (nx := 35) X 0 d_CM_cut_34 rfl rfl ?_
      exact hret _ _ _ _ d_CM_cut_35 (by exact ⟨by rw [an_cut, if_neg (by omega)]; omega, by rw [nw_cut, if_neg (by omega), hJ1]; exact cm_s_cut h (by omega)⟩)
    · skip
      refine mk_bipush (nx := 17) X d_CM_cut_15 (by decide) rfl ?_
      exact hret _ _ _ _ d_CM_cut_17 (by exact ⟨by rw [an_cut, if_pos (by omega)], by rw [nw_cut, if_pos (by omega)]; exact h⟩)

-- CanonMaker.size()I
theorem d_CM_size_0 : decode prog_1_method_6_code 0 = .ok (.aload_n 0, 1) := by decide +kernel
theorem d_CM_size_1 : decode prog_1_method_6_code 1 = .ok (.getfield 12, 3) := by decide +kernel
theorem d_CM_size_4 : decode prog_1_method_6_code 4 = .ok (.invokevirtual 74, 3) := by decide +kernel
theorem d_CM_size_7 : decode prog_1_method_6_code 7 = .ok (.ireturn, 1) := by decide +kernel
abbrev rm_CM_size : Room := { frames := 1, cells := 0, slots := 0, locals := 22 }
set_option maxHeartbeats 4000000 in
set_option maxRecDepth 100000 in
theorem c_CM_size (l : Launch) (D : va_G) (cs : Nat → ClassId) (ad : Nat → Nat) (zt : Nat) (hi : cm_inj ad) (c I : Wo) (h : cmR c I)  : cm_C l D cs ad zt y_CM_size ws_CM_size rm_CM_size [.ref (ad 0)] I (mk_pi (fun r J => r = an_size c ∧ cmR c J)) := by
  refine mk_meti (own := "CanonMaker") (Ts := wA) hi (Nat.le_refl _) (by decide) rfl (fun w h => List.mem_cons_of_mem _ h) rfl (Nat.le_of_ble_eq_true rfl) [(0, .ref (ad 0))] rfl ?_
  intro p_ e_ s_ m_ as_ bl_ me_ co_ Q_ X hret
  obtain ⟨⟨⟨hn, hN⟩, ⟨hlo, hsc, hbt, hru, hrd, hst⟩, ⟨hV, hV0⟩, ⟨hfc, hF⟩⟩, ⟨i12, iN⟩, ⟨⟨i50, i51, i52, i53, i54⟩, i07, i09⟩, iV, ⟨i010, iF⟩⟩ := id h
  refine mk_aloadn (nx := 1) X 0 d_CM_size_0 rfl rfl ?_
  refine mk_get (nx := 4) (v := .ref (ad 1)) X 0 (by decide) (sh_CM cs ad _) rfl in_CM 0 (by decide) wd_287 rfl rfl d_CM_size_1 rfl ?_
  refine mk_callVi (nx := 7) (n := 0) (As := []) (rest := []) X 1 (by decide) (sh_Subject cs ad _) rfl (c_Subject_units l D cs ad zt hi c I h.1.1 h.2.1) (g_Subject_units wd_348) rfl ⟨rfl, rfl⟩ (by decide +kernel) ⟨by decide, by decide⟩ rfl (Nat.le_of_ble_eq_true rfl) rfl d_CM_size_4 rfl ?_
  intro r4 J1 hJ1
  obtain ⟨rfl, rfl⟩ := hJ1
  exact hret _ _ _ _ d_CM_size_7 (by exact ⟨rfl, h⟩)

-- CanonMaker.voice(IIIII)I
theorem d_CM_voice_0 : decode prog_1_method_7_code 0 = .ok (.iload_n 1, 1) := by decide +kernel
theorem d_CM_voice_1 : decode prog_1_method_7_code 1 = .ok (.invokestatic 78, 3) := by decide +kernel
theorem d_CM_voice_4 : decode prog_1_method_7_code 4 = .ok (.ifCond .ne 5, 3) := by decide +kernel
theorem d_CM_voice_7 : decode prog_1_method_7_code 7 = .ok (.iconst (-1), 1) := by decide +kernel
theorem d_CM_voice_8 : decode prog_1_method_7_code 8 = .ok (.ireturn, 1) := by decide +kernel
theorem d_CM_voice_9 : decode prog_1_method_7_code 9 = .ok (.iload_n 2, 1) := by decide +kernel
theorem d_CM_voice_10 : decode prog_1_method_7_code 10 = .ok (.ifCond .lt 21, 3) := by decide +kernel
theorem d_CM_voice_13 : decode prog_1_method_7_code 13 = .ok (.iload_n 2, 1) := by decide +kernel
theorem d_CM_voice_14 : decode prog_1_method_7_code 14 = .ok (.bipush 100, 2) := by decide +kernel
theorem d_CM_voice_16 : decode prog_1_method_7_code 16 = .ok (.if_icmp .gt 15, 3) := by decide +kernel
theorem d_CM_voice_19 : decode prog_1_method_7_code 19 = .ok (.iload_n 3, 1) := by decide +kernel
theorem d_CM_voice_20 : decode prog_1_method_7_code 20 = .ok (.bipush (-24), 2) := by decide +kernel
theorem d_CM_voice_22 : decode prog_1_method_7_code 22 = .ok (.if_icmp .lt 9, 3) := by decide +kernel
theorem d_CM_voice_25 : decode prog_1_method_7_code 25 = .ok (.iload_n 3, 1) := by decide +kernel
theorem d_CM_voice_26 : decode prog_1_method_7_code 26 = .ok (.bipush 24, 2) := by decide +kernel
theorem d_CM_voice_28 : decode prog_1_method_7_code 28 = .ok (.if_icmp .le 6, 3) := by decide +kernel
theorem d_CM_voice_31 : decode prog_1_method_7_code 31 = .ok (.bipush (-2), 2) := by decide +kernel
theorem d_CM_voice_33 : decode prog_1_method_7_code 33 = .ok (.ireturn, 1) := by decide +kernel
theorem d_CM_voice_34 : decode prog_1_method_7_code 34 = .ok (.iload 4, 2) := by decide +kernel
theorem d_CM_voice_36 : decode prog_1_method_7_code 36 = .ok (.ifCond .lt 21, 3) := by decide +kernel
theorem d_CM_voice_39 : decode prog_1_method_7_code 39 = .ok (.iload 4, 2) := by decide +kernel
theorem d_CM_voice_41 : decode prog_1_method_7_code 41 = .ok (.iconst 3, 1) := by decide +kernel
theorem d_CM_voice_42 : decode prog_1_method_7_code 42 = .ok (.if_icmp .gt 15, 3) := by decide +kernel
theorem d_CM_voice_45 : decode prog_1_method_7_code 45 = .ok (.iload 5, 2) := by decide +kernel
theorem d_CM_voice_47 : decode prog_1_method_7_code 47 = .ok (.iconst 1, 1) := by decide +kernel
theorem d_CM_voice_48 : decode prog_1_method_7_code 48 = .ok (.if_icmp .lt 9, 3) := by decide +kernel
theorem d_CM_voice_51 : decode prog_1_method_7_code 51 = .ok (.iload 5, 2) := by decide +kernel
theorem d_CM_voice_53 : decode prog_1_method_7_code 53 = .ok (.iconst 3, 1) := by decide +kernel
theorem d_CM_voice_54 : decode prog_1_method_7_code 54 = .ok (.if_icmp .le 6, 3) := by decide +kernel
theorem d_CM_voice_57 : decode prog_1_method_7_code 57 = .ok (.bipush (-2), 2) := by decide +kernel
theorem d_CM_voice_59 : decode prog_1_method_7_code 59 = .ok (.ireturn, 1) := by decide +kernel
theorem d_CM_voice_60 : decode prog_1_method_7_code 60 = .ok (.aload_n 0, 1) := by decide +kernel
theorem d_CM_voice_61 : decode prog_1_method_7_code 61 = .ok (.getfield 18, 3) := by decide +kernel
theorem d_CM_voice_64 : decode prog_1_method_7_code 64 = .ok (.iload_n 1, 1) := by decide +kernel
theorem d_CM_voice_65 : decode prog_1_method_7_code 65 = .ok (.aaload, 1) := by decide +kernel
theorem d_CM_voice_66 : decode prog_1_method_7_code 66 = .ok (.astore 6, 2) := by decide +kernel
theorem d_CM_voice_68 : decode prog_1_method_7_code 68 = .ok (.aload 6, 2) := by decide +kernel
theorem d_CM_voice_70 : decode prog_1_method_7_code 70 = .ok (.iconst 1, 1) := by decide +kernel
theorem d_CM_voice_71 : decode prog_1_method_7_code 71 = .ok (.putfield 53, 3) := by decide +kernel
theorem d_CM_voice_74 : decode prog_1_method_7_code 74 = .ok (.aload 6, 2) := by decide +kernel
theorem d_CM_voice_76 : decode prog_1_method_7_code 76 = .ok (.iload_n 2, 1) := by decide +kernel
theorem d_CM_voice_77 : decode prog_1_method_7_code 77 = .ok (.putfield 81, 3) := by decide +kernel
theorem d_CM_voice_80 : decode prog_1_method_7_code 80 = .ok (.aload 6, 2) := by decide +kernel
theorem d_CM_voice_82 : decode prog_1_method_7_code 82 = .ok (.iload_n 3, 1) := by decide +kernel
theorem d_CM_voice_83 : decode prog_1_method_7_code 83 = .ok (.putfield 84, 3) := by decide +kernel
theorem d_CM_voice_86 : decode prog_1_method_7_code 86 = .ok (.aload 6, 2) := by decide +kernel
theorem d_CM_voice_88 : decode prog_1_method_7_code 88 = .ok (.iload 4, 2) := by decide +kernel
theorem d_CM_voice_90 : decode prog_1_method_7_code 90 = .ok (.putfield 87, 3) := by decide +kernel
theorem d_CM_voice_93 : decode prog_1_method_7_code 93 = .ok (.aload 6, 2) := by decide +kernel
theorem d_CM_voice_95 : decode prog_1_method_7_code 95 = .ok (.iload 5, 2) := by decide +kernel
theorem d_CM_voice_97 : decode prog_1_method_7_code 97 = .ok (.putfield 90, 3) := by decide +kernel
theorem d_CM_voice_100 : decode prog_1_method_7_code 100 = .ok (.iconst 1, 1) := by decide +kernel
theorem d_CM_voice_101 : decode prog_1_method_7_code 101 = .ok (.ireturn, 1) := by decide +kernel
abbrev rm_CM_voice : Room := { frames := 1, cells := 0, slots := 0, locals := 20 }
set_option maxHeartbeats 4000000 in
set_option maxRecDepth 100000 in
theorem c_CM_voice (l : Launch) (D : va_G) (cs : Nat → ClassId) (ad : Nat → Nat) (zt : Nat) (hi : cm_inj ad) (c I : Wo) (h : cmR c I) (v : Int) (h_v : -2147483648 ≤ v ∧ v < 2147483648) (d : Int) (h_d : -2147483648 ≤ d ∧ d < 2147483648) (i : Int) (h_i : -2147483648 ≤ i ∧ i < 2147483648) (m : Int) (h_m : -2147483648 ≤ m ∧ m < 2147483648) (f : Int) (h_f : -2147483648 ≤ f ∧ f < 2147483648) : cm_C l D cs ad zt y_CM_voice ws_CM_voice rm_CM_voice [.ref (ad 0), .int (zi v), .int (zi d), .int (zi i), .int (zi m), .int (zi f)] I (mk_pi (fun r J => r = an_voice v d i m f ∧ cmR (nw_voice c v d i m f) J)) := by
  refine mk_meti (own := "CanonMaker") (Ts := wA) hi (Nat.le_refl _) (by decide) rfl (fun w h => List.mem_cons_of_mem _ h) rfl (Nat.le_of_ble_eq_true rfl) [(0, .ref (ad 0)), (1, .int (zi v)), (2, .int (zi d)), (3, .int (zi i)), (4, .int (zi m)), (5, .int (zi f))] rfl ?_
  intro p_ e_ s_ m_ as_ bl_ me_ co_ Q_ X hret
  obtain ⟨⟨⟨hn, hN⟩, ⟨hlo, hsc, hbt, hru, hrd, hst⟩, ⟨hV, hV0⟩, ⟨hfc, hF⟩⟩, ⟨i12, iN⟩, ⟨⟨i50, i51, i52, i53, i54⟩, i07, i09⟩, iV, ⟨i010, iF⟩⟩ := id h
  refine mk_iloadn (nx := 1) X 1 d_CM_voice_0 rfl rfl ?_
  refine mk_callSi (nx := 4) (n := 1) (As := [.int (zi v)]) (rest := []) X (c_CM_isFollower l D cs ad zt hi I v (by omega)) (g_CM_isFollower wd_356) rfl ⟨rfl, rfl⟩ (by decide +kernel) ⟨by decide, by decide⟩ rfl (Nat.le_of_ble_eq_true rfl) rfl d_CM_voice_1 rfl ?_
  intro r1 J1 hJ1
  obtain ⟨rfl, hr1⟩ := hJ1
  refine mk_if_ne (tgt := 9) (nx := 7) X d_CM_voice_4 (by omega) (by decide) rfl (fun c4 => ?_) (fun c4 => ?_)
  · skip
    refine mk_iloadn (nx := 10) X 2 d_CM_voice_9 rfl rfl ?_
    refine mk_if_lt (tgt := 31) (nx := 13) X d_CM_voice_10 (by omega) (by decide) rfl (fun c10 => ?_) (fun c10 => ?_)
    · skip
      refine mk_bipush (nx := 33) X d_CM_voice_31 (by decide) rfl ?_
      exact hret _ _ _ _ d_CM_voice_33 (by exact ⟨by rw [an_voice, if_neg (by omega), if_pos (by omega)], by rw [nw_voice, if_neg (by omega), if_pos (by omega)]; exact h⟩)
    · skip
      refine mk_iloadn (nx := 14) X 2 d_CM_voice_13 rfl rfl ?_
      refine mk_bipush (nx := 16) X d_CM_voice_14 (by decide) rfl ?_
      refine mk_icmp_gt (tgt := 31) (nx := 19) X d_CM_voice_16 (by omega) (by omega) (by decide) rfl (fun c16 => ?_) (fun c16 => ?_)
      · skip
        refine mk_bipush (nx := 33) X d_CM_voice_31 (by decide) rfl ?_
        exact hret _ _ _ _ d_CM_voice_33 (by exact ⟨by rw [an_voice, if_neg (by omega), if_pos (by omega)], by rw [nw_voice, if_neg (by omega), if_pos (by omega)]; exact h⟩)
      · skip
        refine mk_iloadn (nx := 20) X 3 d_CM_voice_19 rfl rfl ?_
        refine mk_bipush (nx := 22) X d_CM_voice_20 (by decide) rfl ?_
        refine mk_icmp_lt (tgt := 31) (nx := 25) X d_CM_voice_22 (by omega) (by omega) (by decide) rfl (fun c22 => ?_) (fun c22 => ?_)
        · skip
          refine mk_bipush (nx := 33) X d_CM_voice_31 (by decide) rfl ?_
          exact hret _ _ _ _ d_CM_voice_33 (by exact ⟨by rw [an_voice, if_neg (by omega), if_pos (by omega)], by rw [nw_voice, if_neg (by omega), if_pos (by omega)]; exact h⟩)
        · skip
          refine mk_iloadn (nx := 26) X 3 d_CM_voice_25 rfl rfl ?_
          refine mk_bipush (nx := 28) X d_CM_voice_26 (by decide) rfl ?_
          refine mk_icmp_le (tgt := 34) (nx := 31) X d_CM_voice_28 (by omega) (by omega) (by decide) rfl (fun c28 => ?_) (fun c28 => ?_)
          · skip
            refine mk_iload (nx := 36) X 4 d_CM_voice_34 rfl rfl ?_
            refine mk_if_lt (tgt := 57) (nx := 39) X d_CM_voice_36 (by omega) (by decide) rfl (fun c36 => ?_) (fun c36 => ?_)
            · skip
              refine mk_bipush (nx := 59) X d_CM_voice_57 (by decide) rfl ?_
              exact hret _ _ _ _ d_CM_voice_59 (by exact ⟨by rw [an_voice, if_neg (by omega), if_pos (by omega)], by rw [nw_voice, if_neg (by omega), if_pos (by omega)]; exact h⟩)
            · skip
              refine mk_iload (nx := 41) X 4 d_CM_voice_39 rfl rfl ?_
              refine mk_iconst (nx := 42) X d_CM_voice_41 rfl ?_
              refine mk_icmp_gt (tgt := 57) (nx := 45) X d_CM_voice_42 (by omega) (by omega) (by decide) rfl (fun c42 => ?_) (fun c42 => ?_)
              · skip
                refine mk_bipush (nx := 59) X d_CM_voice_57 (by decide) rfl ?_
                exact hret _ _ _ _ d_CM_voice_59 (by exact ⟨by rw [an_voice, if_neg (by omega), if_pos (by omega)], by rw [nw_voice, if_neg (by omega), if_pos (by omega)]; exact h⟩)
              · skip
                refine mk_iload (nx := 47) X 5 d_CM_voice_45 rfl rfl ?_
                refine mk_iconst (nx := 48) X d_CM_voice_47 rfl ?_
                refine mk_icmp_lt (tgt := 57) (nx := 51) X d_CM_voice_48 (by omega) (by omega) (by decide) rfl (fun c48 => ?_) (fun c48 => ?_)
                · skip
                  refine mk_bipush (nx := 59) X d_CM_voice_57 (by decide) rfl ?_
                  exact hret _ _ _ _ d_CM_voice_59 (by exact ⟨by rw [an_voice, if_neg (by omega), if_pos (by omega)], by rw [nw_voice, if_neg (by omega), if_pos (by omega)]; exact h⟩)
                · skip
                  refine mk_iload (nx := 53) X 5 d_CM_voice_51 rfl rfl ?_
                  refine mk_iconst (nx := 54) X d_CM_voice_53 rfl ?_
                  refine mk_icmp_le (tgt := 60) (nx := 57) X d_CM_voice_54 (by omega) (by omega) (by decide) rfl (fun c54 => ?_) (fun c54 => ?_)
                  · skip
                    refine mk_aloadn (nx := 61) X 0 d_CM_voice_60 rfl rfl ?_
                    refine mk_get (nx := 64) (v := .ref (ad 4)) X 0 (by decide) (sh_CM cs ad _) rfl in_CM 1 (by decide) wd_288 rfl rfl d_CM_voice_61 rfl ?_
                    refine mk_iloadn (nx := 65) X 1 d_CM_voice_64 rfl rfl ?_
                    refine mk_aald (nx := 66) (j := v.toNat) X 4 2 (by decide) (sh_voices cs ad _) rfl (by omega) (by omega) (by decide) rfl rfl d_CM_voice_65 rfl ?_
                    refine mk_astore (nx := 68) X [(6, .ref (ad (44 + v.toNat))), (0, .ref (ad 0)), (1, .int (zi v)), (2, .int (zi d)), (3, .int (zi i)), (4, .int (zi m)), (5, .int (zi f))] d_CM_voice_66 (by decide) rfl rfl ?_
                    refine mk_aload (nx := 70) X 0 d_CM_voice_68 rfl rfl ?_
                    refine mk_iconst (nx := 71) X d_CM_voice_70 rfl ?_
                    refine mk_putf (nx := 74) (ty := .boolean) X t_Voice t_Voice_ok n_Voice (44 + v.toNat) (by omega) (sh_Voice cs ad (show v.toNat < 4 by omega) _) rfl in_Voice 0 (by decide) wd_265 rfl rfl (by decide +kernel) (zi_nb (by omega)) (zi_fb (by omega)) (Nat.le_of_ble_eq_true rfl) ((sh_Voice cs ad (show v.toNat < 4 by omega) _).trans rfl) d_CM_voice_71 rfl ?_
                    obtain ⟨J2, hJ2⟩ : ∃ z, z = up2 I (44 + v.toNat) 0 1 := ⟨_, rfl⟩
                    refine mk_same hJ2.symm ?_
                    have hJ2s : J2 (44 + v.toNat) 0 = 1 := hJ2 ▸ up2_ss I (44 + v.toNat) 0 1
                    have hJ2o : ∀ a b, (a ≠ (44 + v.toNat) ∨ b ≠ 0) → J2 a b = I a b := hJ2 ▸ up2_o I (44 + v.toNat) 0 1
                    refine mk_aload (nx := 76) X 0 d_CM_voice_74 rfl rfl ?_
                    refine mk_iloadn (nx := 77) X 3 d_CM_voice_76 rfl rfl ?_
                    refine mk_putf (nx := 80) (ty := .int) X t_Voice t_Voice_ok n_Voice (44 + v.toNat) (by omega) (sh_Voice cs ad (show v.toNat < 4 by omega) _) rfl in_Voice 1 (by decide) wd_268 rfl rfl (by decide +kernel) rfl rfl (Nat.le_of_ble_eq_true rfl) ((sh_Voice cs ad (show v.toNat < 4 by omega) _).trans rfl) d_CM_voice_77 rfl ?_
                    obtain ⟨J3, hJ3⟩ : ∃ z, z = up2 J2 (44 + v.toNat) 1 d := ⟨_, rfl⟩
                    refine mk_same hJ3.symm ?_
                    have hJ3s : J3 (44 + v.toNat) 1 = d := hJ3 ▸ up2_ss J2 (44 + v.toNat) 1 d
                    have hJ3o : ∀ a b, (a ≠ (44 + v.toNat) ∨ b ≠ 1) → J3 a b = J2 a b := hJ3 ▸ up2_o J2 (44 + v.toNat) 1 d
                    refine mk_aload (nx := 82) X 0 d_CM_voice_80 rfl rfl ?_
                    refine mk_iloadn (nx := 83) X 4 d_CM_voice_82 rfl rfl ?_
                    refine mk_putf (nx := 86) (ty := .int) X t_Voice t_Voice_ok n_Voice (44 + v.toNat) (by omega) (sh_Voice cs ad (show v.toNat < 4 by omega) _) rfl in_Voice 2 (by decide) wd_270 rfl rfl (by decide +kernel) rfl rfl (Nat.le_of_ble_eq_true rfl) ((sh_Voice cs ad (show v.toNat < 4 by omega) _).trans rfl) d_CM_voice_83 rfl ?_
                    obtain ⟨J4, hJ4⟩ : ∃ z, z = up2 J3 (44 + v.toNat) 2 i := ⟨_, rfl⟩
                    refine mk_same hJ4.symm ?_
                    have hJ4s : J4 (44 + v.toNat) 2 = i := hJ4 ▸ up2_ss J3 (44 + v.toNat) 2 i
                    have hJ4o : ∀ a b, (a ≠ (44 + v.toNat) ∨ b ≠ 2) → J4 a b = J3 a b := hJ4 ▸ up2_o J3 (44 + v.toNat) 2 i
                    refine mk_aload (nx := 88) X 0 d_CM_voice_86 rfl rfl ?_
                    refine mk_iload (nx := 90) X 5 d_CM_voice_88 rfl rfl ?_
                    refine mk_putf (nx := 93) (ty := .int) X t_Voice t_Voice_ok n_Voice (44 + v.toNat) (by omega) (sh_Voice cs ad (show v.toNat < 4 by omega) _) rfl in_Voice 3 (by decide) wd_272 rfl rfl (by decide +kernel) rfl rfl (Nat.le_of_ble_eq_true rfl) ((sh_Voice cs ad (show v.toNat < 4 by omega) _).trans rfl) d_CM_voice_90 rfl ?_
                    obtain ⟨J5, hJ5⟩ : ∃ z, z = up2 J4 (44 + v.toNat) 3 m := ⟨_, rfl⟩
                    refine mk_same hJ5.symm ?_
                    have hJ5s : J5 (44 + v.toNat) 3 = m := hJ5 ▸ up2_ss J4 (44 + v.toNat) 3 m
                    have hJ5o : ∀ a b, (a ≠ (44 + v.toNat) ∨ b ≠ 3) → J5 a b = J4 a b := hJ5 ▸ up2_o J4 (44 + v.toNat) 3 m
                    refine mk_aload (nx := 95) X 0 d_CM_voice_93 rfl rfl ?_
                    refine mk_iload (nx := 97) X 6 d_CM_voice_95 rfl rfl ?_
                    refine mk_putf (nx := 100) (ty := .int) X t_Voice t_Voice_ok n_Voice (44 + v.toNat) (by omega) (sh_Voice cs ad (show v.toNat < 4 by omega) _) rfl in_Voice 4 (by decide) wd_275 rfl rfl (by decide +kernel) rfl rfl (Nat.le_of_ble_eq_true rfl) ((sh_Voice cs ad (show v.toNat < 4 by omega) _).trans rfl) d_CM_voice_97 rfl ?_
                    obtain ⟨J6, hJ6⟩ : ∃ z, z = up2 J5 (44 + v.toNat) 4 f := ⟨_, rfl⟩
                    refine mk_same hJ6.symm ?_
                    have hJ6s : J6 (44 + v.toNat) 4 = f := hJ6 ▸ up2_ss J5 (44 + v.toNat) 4 f
                    have hJ6o : ∀ a b, (a ≠ (44 + v.toNat) ∨ b ≠ 4) → J6 a b = J5 a b := hJ6 ▸ up2_o J5 (44 + v.toNat) 4 f
                    refine mk_iconst (nx := 101) X d_CM_voice_100 rfl ?_
                    exact hret _ _ _ _ d_CM_voice_101 (by exact ⟨by rw [an_voice, if_neg (by omega), if_neg (by omega)]; try rfl, by rw [nw_voice, if_neg (by omega), if_neg (by omega), hJ6, hJ5, hJ4, hJ3, hJ2]; exact cm_s_voice h (by omega) (by omega) (by omega) (by omega) (by omega)⟩)
                  · skip
                    refine mk_bipush (nx := 59) X d_CM_voice_57 (by decide) rfl ?_
                    exact hret _ _ _ _ d_CM_voice_59 (by exact ⟨by rw [an_voice, if_neg (by omega), if_pos (by omega)], by rw [nw_voice, if_neg (by omega), if_pos (by omega)]; exact h⟩)
          · skip
            refine mk_bipush (nx := 33) X d_CM_voice_31 (by decide) rfl ?_
            exact hret _ _ _ _ d_CM_voice_33 (by exact ⟨by rw [an_voice, if_neg (by omega), if_pos (by omega)], by rw [nw_voice, if_neg (by omega), if_pos (by omega)]; exact h⟩)
  · skip
    refine mk_iconst (nx := 8) X d_CM_voice_7 rfl ?_
    exact hret _ _ _ _ d_CM_voice_8 (by exact ⟨by rw [an_voice, if_pos (by omega)], by rw [nw_voice, if_pos (by omega)]; exact h⟩)

-- CanonMaker.off(I)I
theorem d_CM_off_0 : decode prog_1_method_8_code 0 = .ok (.iload_n 1, 1) := by decide +kernel
theorem d_CM_off_1 : decode prog_1_method_8_code 1 = .ok (.invokestatic 78, 3) := by decide +kernel
theorem d_CM_off_4 : decode prog_1_method_8_code 4 = .ok (.ifCond .ne 5, 3) := by decide +kernel
theorem d_CM_off_7 : decode prog_1_method_8_code 7 = .ok (.iconst (-1), 1) := by decide +kernel
theorem d_CM_off_8 : decode prog_1_method_8_code 8 = .ok (.ireturn, 1) := by decide +kernel
theorem d_CM_off_9 : decode prog_1_method_8_code 9 = .ok (.aload_n 0, 1) := by decide +kernel
theorem d_CM_off_10 : decode prog_1_method_8_code 10 = .ok (.getfield 18, 3) := by decide +kernel
theorem d_CM_off_13 : decode prog_1_method_8_code 13 = .ok (.iload_n 1, 1) := by decide +kernel
theorem d_CM_off_14 : decode prog_1_method_8_code 14 = .ok (.aaload, 1) := by decide +kernel
theorem d_CM_off_15 : decode prog_1_method_8_code 15 = .ok (.getfield 53, 3) := by decide +kernel
theorem d_CM_off_18 : decode prog_1_method_8_code 18 = .ok (.istore_n 2, 1) := by decide +kernel
theorem d_CM_off_19 : decode prog_1_method_8_code 19 = .ok (.aload_n 0, 1) := by decide +kernel
theorem d_CM_off_20 : decode prog_1_method_8_code 20 = .ok (.getfield 18, 3) := by decide +kernel
theorem d_CM_off_23 : decode prog_1_method_8_code 23 = .ok (.iload_n 1, 1) := by decide +kernel
theorem d_CM_off_24 : decode prog_1_method_8_code 24 = .ok (.aaload, 1) := by decide +kernel
theorem d_CM_off_25 : decode prog_1_method_8_code 25 = .ok (.iconst 0, 1) := by decide +kernel
theorem d_CM_off_26 : decode prog_1_method_8_code 26 = .ok (.putfield 53, 3) := by decide +kernel
theorem d_CM_off_29 : decode prog_1_method_8_code 29 = .ok (.iload_n 2, 1) := by decide +kernel
theorem d_CM_off_30 : decode prog_1_method_8_code 30 = .ok (.ifCond .eq 7, 3) := by decide +kernel
theorem d_CM_off_33 : decode prog_1_method_8_code 33 = .ok (.iconst 1, 1) := by decide +kernel
theorem d_CM_off_34 : decode prog_1_method_8_code 34 = .ok (.goto 4, 3) := by decide +kernel
theorem d_CM_off_37 : decode prog_1_method_8_code 37 = .ok (.iconst 0, 1) := by decide +kernel
theorem d_CM_off_38 : decode prog_1_method_8_code 38 = .ok (.ireturn, 1) := by decide +kernel
abbrev rm_CM_off : Room := { frames := 1, cells := 0, slots := 0, locals := 20 }
set_option maxHeartbeats 4000000 in
set_option maxRecDepth 100000 in
theorem c_CM_off (l : Launch) (D : va_G) (cs : Nat → ClassId) (ad : Nat → Nat) (zt : Nat) (hi : cm_inj ad) (c I : Wo) (h : cmR c I) (v : Int) (h_v : -2147483648 ≤ v ∧ v < 2147483648) : cm_C l D cs ad zt y_CM_off ws_CM_off rm_CM_off [.ref (ad 0), .int (zi v)] I (mk_pi (fun r J => r = an_off c v ∧ cmR (nw_off c v) J)) := by
  refine mk_meti (own := "CanonMaker") (Ts := wA) hi (Nat.le_refl _) (by decide) rfl (fun w h => List.mem_cons_of_mem _ h) rfl (Nat.le_of_ble_eq_true rfl) [(0, .ref (ad 0)), (1, .int (zi v))] rfl ?_
  intro p_ e_ s_ m_ as_ bl_ me_ co_ Q_ X hret
  obtain ⟨⟨⟨hn, hN⟩, ⟨hlo, hsc, hbt, hru, hrd, hst⟩, ⟨hV, hV0⟩, ⟨hfc, hF⟩⟩, ⟨i12, iN⟩, ⟨⟨i50, i51, i52, i53, i54⟩, i07, i09⟩, iV, ⟨i010, iF⟩⟩ := id h
  refine mk_iloadn (nx := 1) X 1 d_CM_off_0 rfl rfl ?_
  refine mk_callSi (nx := 4) (n := 1) (As := [.int (zi v)]) (rest := []) X (c_CM_isFollower l D cs ad zt hi I v (by omega)) (g_CM_isFollower wd_356) rfl ⟨rfl, rfl⟩ (by decide +kernel) ⟨by decide, by decide⟩ rfl (Nat.le_of_ble_eq_true rfl) rfl d_CM_off_1 rfl ?_
  intro r1 J1 hJ1
  obtain ⟨rfl, hr1⟩ := hJ1
  refine mk_if_ne (tgt := 9) (nx := 7) X d_CM_off_4 (by omega) (by decide) rfl (fun c4 => ?_) (fun c4 => ?_)
  · skip
    have hv4 := iV v.toNat (by omega)
    have hv5 := hV v.toNat (by omega)
    refine mk_aloadn (nx := 10) X 0 d_CM_off_9 rfl rfl ?_
    refine mk_get (nx := 13) (v := .ref (ad 4)) X 0 (by decide) (sh_CM cs ad _) rfl in_CM 1 (by decide) wd_288 rfl rfl d_CM_off_10 rfl ?_
    refine mk_iloadn (nx := 14) X 1 d_CM_off_13 rfl rfl ?_
    refine mk_aald (nx := 15) (j := v.toNat) X 4 2 (by decide) (sh_voices cs ad _) rfl (by omega) (by omega) (by decide) rfl rfl d_CM_off_14 rfl ?_
    refine mk_get (nx := 18) (v := .int (zi (I (44 + v.toNat) 0))) X (44 + v.toNat) (by omega) (sh_Voice cs ad (show v.toNat < 4 by omega) _) rfl in_Voice 0 (by decide) wd_265 rfl rfl d_CM_off_15 rfl ?_
    refine mk_istoren (nx := 19) X [(2, .int (zi (I (44 + v.toNat) 0))), (0, .ref (ad 0)), (1, .int (zi v))] d_CM_off_18 (by decide) rfl rfl ?_
    refine mk_aloadn (nx := 20) X 1 d_CM_off_19 rfl rfl ?_
    refine mk_get (nx := 23) (v := .ref (ad 4)) X 0 (by decide) (sh_CM cs ad _) rfl in_CM 1 (by decide) wd_288 rfl rfl d_CM_off_20 rfl ?_
    refine mk_iloadn (nx := 24) X 2 d_CM_off_23 rfl rfl ?_
    refine mk_aald (nx := 25) (j := v.toNat) X 4 2 (by decide) (sh_voices cs ad _) rfl (by omega) (by omega) (by decide) rfl rfl d_CM_off_24 rfl ?_
    refine mk_iconst (nx := 26) X d_CM_off_25 rfl ?_
    refine mk_putf (nx := 29) (ty := .boolean) X t_Voice t_Voice_ok n_Voice (44 + v.toNat) (by omega) (sh_Voice cs ad (show v.toNat < 4 by omega) _) rfl in_Voice 0 (by decide) wd_265 rfl rfl (by decide +kernel) (zi_nb (by omega)) (zi_fb (by omega)) (Nat.le_of_ble_eq_true rfl) ((sh_Voice cs ad (show v.toNat < 4 by omega) _).trans rfl) d_CM_off_26 rfl ?_
    obtain ⟨J2, hJ2⟩ : ∃ z, z = up2 I (44 + v.toNat) 0 0 := ⟨_, rfl⟩
    refine mk_same hJ2.symm ?_
    have hJ2s : J2 (44 + v.toNat) 0 = 0 := hJ2 ▸ up2_ss I (44 + v.toNat) 0 0
    have hJ2o : ∀ a b, (a ≠ (44 + v.toNat) ∨ b ≠ 0) → J2 a b = I a b := hJ2 ▸ up2_o I (44 + v.toNat) 0 0
    refine mk_iloadn (nx := 30) X 0 d_CM_off_29 rfl rfl ?_
    refine mk_if_eq (tgt := 37) (nx := 33) X d_CM_off_30 (by omega) (by decide) rfl (fun c30 => ?_) (fun c30 => ?_)
    · skip
      refine mk_iconst (nx := 38) X d_CM_off_37 rfl ?_
      exact hret _ _ _ _ d_CM_off_38 (by exact ⟨by rw [an_off, if_neg (by omega)]; omega, by rw [nw_off, if_neg (by omega), hJ2]; exact cm_s_off h (by omega)⟩)
    · skip
      refine mk_iconst (nx := 34) X d_CM_off_33 rfl ?_
      refine mk_goto (tgt := 38) X d_CM_off_34 (by decide) ?_
      exact hret _ _ _ _ d_CM_off_38 (by exact ⟨by rw [an_off, if_neg (by omega)]; omega, by rw [nw_off, if_neg (by omega), hJ2]; exact cm_s_off h (by omega)⟩)
  · skip
    refine mk_iconst (nx := 8) X d_CM_off_7 rfl ?_
    exact hret _ _ _ _ d_CM_off_8 (by exact ⟨by rw [an_off, if_pos (by omega)], by rw [nw_off, if_pos (by omega)]; exact h⟩)

-- CanonMaker.span(II)I
theorem d_CM_span_0 : decode prog_1_method_9_code 0 = .ok (.iload_n 1, 1) := by decide +kernel
theorem d_CM_span_1 : decode prog_1_method_9_code 1 = .ok (.ifCond .lt 14, 3) := by decide +kernel
theorem d_CM_span_4 : decode prog_1_method_9_code 4 = .ok (.iload_n 2, 1) := by decide +kernel
theorem d_CM_span_5 : decode prog_1_method_9_code 5 = .ok (.bipush 127, 2) := by decide +kernel
theorem d_CM_span_7 : decode prog_1_method_9_code 7 = .ok (.if_icmp .gt 8, 3) := by decide +kernel
theorem d_CM_span_10 : decode prog_1_method_9_code 10 = .ok (.iload_n 1, 1) := by decide +kernel
theorem d_CM_span_11 : decode prog_1_method_9_code 11 = .ok (.iload_n 2, 1) := by decide +kernel
theorem d_CM_span_12 : decode prog_1_method_9_code 12 = .ok (.if_icmp .le 6, 3) := by decide +kernel
theorem d_CM_span_15 : decode prog_1_method_9_code 15 = .ok (.bipush (-2), 2) := by decide +kernel
theorem d_CM_span_17 : decode prog_1_method_9_code 17 = .ok (.ireturn, 1) := by decide +kernel
theorem d_CM_span_18 : decode prog_1_method_9_code 18 = .ok (.aload_n 0, 1) := by decide +kernel
theorem d_CM_span_19 : decode prog_1_method_9_code 19 = .ok (.getfield 25, 3) := by decide +kernel
theorem d_CM_span_22 : decode prog_1_method_9_code 22 = .ok (.iload_n 1, 1) := by decide +kernel
theorem d_CM_span_23 : decode prog_1_method_9_code 23 = .ok (.putfield 93, 3) := by decide +kernel
theorem d_CM_span_26 : decode prog_1_method_9_code 26 = .ok (.aload_n 0, 1) := by decide +kernel
theorem d_CM_span_27 : decode prog_1_method_9_code 27 = .ok (.getfield 25, 3) := by decide +kernel
theorem d_CM_span_30 : decode prog_1_method_9_code 30 = .ok (.iload_n 2, 1) := by decide +kernel
theorem d_CM_span_31 : decode prog_1_method_9_code 31 = .ok (.putfield 96, 3) := by decide +kernel
theorem d_CM_span_34 : decode prog_1_method_9_code 34 = .ok (.iconst 1, 1) := by decide +kernel
theorem d_CM_span_35 : decode prog_1_method_9_code 35 = .ok (.ireturn, 1) := by decide +kernel
abbrev rm_CM_span : Room := { frames := 0, cells := 0, slots := 0, locals := 0 }
set_option maxHeartbeats 4000000 in
set_option maxRecDepth 100000 in
theorem c_CM_span (l : Launch) (D : va_G) (cs : Nat → ClassId) (ad : Nat → Nat) (zt : Nat) (hi : cm_inj ad) (c I : Wo) (h : cmR c I) (a : Int) (h_a : -2147483648 ≤ a ∧ a < 2147483648) (b : Int) (h_b : -2147483648 ≤ b ∧ b < 2147483648) : cm_C l D cs ad zt y_CM_span ws_CM_span rm_CM_span [.ref (ad 0), .int (zi a), .int (zi b)] I (mk_pi (fun r J => r = an_span a b ∧ cmR (nw_span c a b) J)) := by
  refine mk_meti (own := "CanonMaker") (Ts := wA) hi (Nat.le_refl _) (by decide) rfl (fun w h => List.mem_cons_of_mem _ h) rfl (Nat.le_of_ble_eq_true rfl) [(0, .ref (ad 0)), (1, .int (zi a)), (2, .int (zi b))] rfl ?_
  intro p_ e_ s_ m_ as_ bl_ me_ co_ Q_ X hret
  obtain ⟨⟨⟨hn, hN⟩, ⟨hlo, hsc, hbt, hru, hrd, hst⟩, ⟨hV, hV0⟩, ⟨hfc, hF⟩⟩, ⟨i12, iN⟩, ⟨⟨i50, i51, i52, i53, i54⟩, i07, i09⟩, iV, ⟨i010, iF⟩⟩ := id h
  refine mk_iloadn (nx := 1) X 1 d_CM_span_0 rfl rfl ?_
  refine mk_if_lt (tgt := 15) (nx := 4) X d_CM_span_1 (by omega) (by decide) rfl (fun c1 => ?_) (fun c1 => ?_)
  · skip
    refine mk_bipush (nx := 17) X d_CM_span_15 (by decide) rfl ?_
    exact hret _ _ _ _ d_CM_span_17 (by exact ⟨by rw [an_span, if_pos (by omega)], by rw [nw_span, if_pos (by omega)]; exact h⟩)
  · skip
    refine mk_iloadn (nx := 5) X 2 d_CM_span_4 rfl rfl ?_
    refine mk_bipush (nx := 7) X d_CM_span_5 (by decide) rfl ?_
    refine mk_icmp_gt (tgt := 15) (nx := 10) X d_CM_span_7 (by omega) (by omega) (by decide) rfl (fun c7 => ?_) (fun c7 => ?_)
    · skip
      refine mk_bipush (nx := 17) X d_CM_span_15 (by decide) rfl ?_
      exact hret _ _ _ _ d_CM_span_17 (by exact ⟨by rw [an_span, if_pos (by omega)], by rw [nw_span, if_pos (by omega)]; exact h⟩)
    · skip
      refine mk_iloadn (nx := 11) X 1 d_CM_span_10 rfl rfl ?_
      refine mk_iloadn (nx := 12) X 2 d_CM_span_11 rfl rfl ?_
      refine mk_icmp_le (tgt := 18) (nx := 15) X d_CM_span_12 (by omega) (by omega) (by decide) rfl (fun c12 => ?_) (fun c12 => ?_)
      · skip
        refine mk_aloadn (nx := 19) X 0 d_CM_span_18 rfl rfl ?_
        refine mk_get (nx := 22) (v := .ref (ad 5)) X 0 (by decide) (sh_CM cs ad _) rfl in_CM 2 (by decide) wd_289 rfl rfl d_CM_span_19 rfl ?_
        refine mk_iloadn (nx := 23) X 1 d_CM_span_22 rfl rfl ?_
        refine mk_putf (nx := 26) (ty := .int) X t_Bounds t_Bounds_ok n_Bounds 5 (by decide) (sh_Bounds cs ad _) rfl in_Bounds 0 (by decide) wd_90 rfl rfl (by decide +kernel) rfl rfl (Nat.le_of_ble_eq_true rfl) ((sh_Bounds cs ad _).trans rfl) d_CM_span_23 rfl ?_
        obtain ⟨J1, hJ1⟩ : ∃ z, z = up2 I 5 0 a := ⟨_, rfl⟩
        refine mk_same hJ1.symm ?_
        have hJ1s : J1 5 0 = a := hJ1 ▸ up2_ss I 5 0 a
        have hJ1o : ∀ a b, (a ≠ 5 ∨ b ≠ 0) → J1 a b = I a b := hJ1 ▸ up2_o I 5 0 a
        refine mk_aloadn (nx := 27) X 0 d_CM_span_26 rfl rfl ?_
        refine mk_get (nx := 30) (v := .ref (ad 5)) X 0 (by decide) (sh_CM cs ad _) rfl in_CM 2 (by decide) wd_289 rfl rfl d_CM_span_27 rfl ?_
        refine mk_iloadn (nx := 31) X 2 d_CM_span_30 rfl rfl ?_
        refine mk_putf (nx := 34) (ty := .int) X t_Bounds t_Bounds_ok n_Bounds 5 (by decide) (sh_Bounds cs ad _) rfl in_Bounds 1 (by decide) wd_93 rfl rfl (by decide +kernel) rfl rfl (Nat.le_of_ble_eq_true rfl) ((sh_Bounds cs ad _).trans rfl) d_CM_span_31 rfl ?_
        obtain ⟨J2, hJ2⟩ : ∃ z, z = up2 J1 5 1 b := ⟨_, rfl⟩
        refine mk_same hJ2.symm ?_
        have hJ2s : J2 5 1 = b := hJ2 ▸ up2_ss J1 5 1 b
        have hJ2o : ∀ a b, (a ≠ 5 ∨ b ≠ 1) → J2 a b = J1 a b := hJ2 ▸ up2_o J1 5 1 b
        refine mk_iconst (nx := 35) X d_CM_span_34 rfl ?_
        exact hret _ _ _ _ d_CM_span_35 (by exact ⟨by rw [an_span, if_neg (by omega)]; try rfl, by rw [nw_span, if_neg (by omega), hJ2, hJ1]; exact cm_s_span h (by omega)⟩)
      · skip
        refine mk_bipush (nx := 17) X d_CM_span_15 (by decide) rfl ?_
        exact hret _ _ _ _ d_CM_span_17 (by exact ⟨by rw [an_span, if_pos (by omega)], by rw [nw_span, if_pos (by omega)]; exact h⟩)

-- CanonMaker.scale(I)I
theorem d_CM_scale_0 : decode prog_1_method_10_code 0 = .ok (.iload_n 1, 1) := by decide +kernel
theorem d_CM_scale_1 : decode prog_1_method_10_code 1 = .ok (.ifCond .lt 10, 3) := by decide +kernel
theorem d_CM_scale_4 : decode prog_1_method_10_code 4 = .ok (.iload_n 1, 1) := by decide +kernel
theorem d_CM_scale_5 : decode prog_1_method_10_code 5 = .ok (.sipush 4095, 3) := by decide +kernel
theorem d_CM_scale_8 : decode prog_1_method_10_code 8 = .ok (.if_icmp .le 6, 3) := by decide +kernel
theorem d_CM_scale_11 : decode prog_1_method_10_code 11 = .ok (.bipush (-2), 2) := by decide +kernel
theorem d_CM_scale_13 : decode prog_1_method_10_code 13 = .ok (.ireturn, 1) := by decide +kernel
theorem d_CM_scale_14 : decode prog_1_method_10_code 14 = .ok (.aload_n 0, 1) := by decide +kernel
theorem d_CM_scale_15 : decode prog_1_method_10_code 15 = .ok (.getfield 25, 3) := by decide +kernel
theorem d_CM_scale_18 : decode prog_1_method_10_code 18 = .ok (.getfield 99, 3) := by decide +kernel
theorem d_CM_scale_21 : decode prog_1_method_10_code 21 = .ok (.istore_n 2, 1) := by decide +kernel
theorem d_CM_scale_22 : decode prog_1_method_10_code 22 = .ok (.aload_n 0, 1) := by decide +kernel
theorem d_CM_scale_23 : decode prog_1_method_10_code 23 = .ok (.getfield 25, 3) := by decide +kernel
theorem d_CM_scale_26 : decode prog_1_method_10_code 26 = .ok (.iload_n 1, 1) := by decide +kernel
theorem d_CM_scale_27 : decode prog_1_method_10_code 27 = .ok (.putfield 99, 3) := by decide +kernel
theorem d_CM_scale_30 : decode prog_1_method_10_code 30 = .ok (.iload_n 2, 1) := by decide +kernel
theorem d_CM_scale_31 : decode prog_1_method_10_code 31 = .ok (.ireturn, 1) := by decide +kernel
abbrev rm_CM_scale : Room := { frames := 0, cells := 0, slots := 0, locals := 0 }
set_option maxHeartbeats 4000000 in
set_option maxRecDepth 100000 in
theorem c_CM_scale (l : Launch) (D : va_G) (cs : Nat → ClassId) (ad : Nat → Nat) (zt : Nat) (hi : cm_inj ad) (c I : Wo) (h : cmR c I) (a : Int) (h_a : -2147483648 ≤ a ∧ a < 2147483648) : cm_C l D cs ad zt y_CM_scale ws_CM_scale rm_CM_scale [.ref (ad 0), .int (zi a)] I (mk_pi (fun r J => r = an_scale c a ∧ cmR (nw_scale c a) J)) := by
  refine mk_meti (own := "CanonMaker") (Ts := wA) hi (Nat.le_refl _) (by decide) rfl (fun w h => List.mem_cons_of_mem _ h) rfl (Nat.le_of_ble_eq_true rfl) [(0, .ref (ad 0)), (1, .int (zi a))] rfl ?_
  intro p_ e_ s_ m_ as_ bl_ me_ co_ Q_ X hret
  obtain ⟨⟨⟨hn, hN⟩, ⟨hlo, hsc, hbt, hru, hrd, hst⟩, ⟨hV, hV0⟩, ⟨hfc, hF⟩⟩, ⟨i12, iN⟩, ⟨⟨i50, i51, i52, i53, i54⟩, i07, i09⟩, iV, ⟨i010, iF⟩⟩ := id h
  refine mk_iloadn (nx := 1) X 1 d_CM_scale_0 rfl rfl ?_
  refine mk_if_lt (tgt := 11) (nx := 4) X d_CM_scale_1 (by omega) (by decide) rfl (fun c1 => ?_) (fun c1 => ?_)
  · skip
    refine mk_bipush (nx := 13) X d_CM_scale_11 (by decide) rfl ?_
    exact hret _ _ _ _ d_CM_scale_13 (by exact ⟨by rw [an_scale, if_pos (by omega)], by rw [nw_scale, if_pos (by omega)]; exact h⟩)
  · skip
    refine mk_iloadn (nx := 5) X 1 d_CM_scale_4 rfl rfl ?_
    refine mk_sipush (nx := 8) X d_CM_scale_5 (by decide) rfl ?_
    refine mk_icmp_le (tgt := 14) (nx := 11) X d_CM_scale_8 (by omega) (by omega) (by decide) rfl (fun c8 => ?_) (fun c8 => ?_)
    · skip
      refine mk_aloadn (nx := 15) X 0 d_CM_scale_14 rfl rfl ?_
      refine mk_get (nx := 18) (v := .ref (ad 5)) X 0 (by decide) (sh_CM cs ad _) rfl in_CM 2 (by decide) wd_289 rfl rfl d_CM_scale_15 rfl ?_
      refine mk_get (nx := 21) (v := .int (zi (I 5 2))) X 5 (by decide) (sh_Bounds cs ad _) rfl in_Bounds 2 (by decide) wd_96 rfl rfl d_CM_scale_18 rfl ?_
      refine mk_istoren (nx := 22) X [(2, .int (zi (I 5 2))), (0, .ref (ad 0)), (1, .int (zi a))] d_CM_scale_21 (by decide) rfl rfl ?_
      refine mk_aloadn (nx := 23) X 1 d_CM_scale_22 rfl rfl ?_
      refine mk_get (nx := 26) (v := .ref (ad 5)) X 0 (by decide) (sh_CM cs ad _) rfl in_CM 2 (by decide) wd_289 rfl rfl d_CM_scale_23 rfl ?_
      refine mk_iloadn (nx := 27) X 2 d_CM_scale_26 rfl rfl ?_
      refine mk_putf (nx := 30) (ty := .int) X t_Bounds t_Bounds_ok n_Bounds 5 (by decide) (sh_Bounds cs ad _) rfl in_Bounds 2 (by decide) wd_96 rfl rfl (by decide +kernel) rfl rfl (Nat.le_of_ble_eq_true rfl) ((sh_Bounds cs ad _).trans rfl) d_CM_scale_27 rfl ?_
      obtain ⟨J1, hJ1⟩ : ∃ z, z = up2 I 5 2 a := ⟨_, rfl⟩
      refine mk_same hJ1.symm ?_
      have hJ1s : J1 5 2 = a := hJ1 ▸ up2_ss I 5 2 a
      have hJ1o : ∀ a b, (a ≠ 5 ∨ b ≠ 2) → J1 a b = I a b := hJ1 ▸ up2_o I 5 2 a
      refine mk_iloadn (nx := 31) X 0 d_CM_scale_30 rfl rfl ?_
      exact hret _ _ _ _ d_CM_scale_31 (by exact ⟨by rw [an_scale, if_neg (by omega)]; omega, by rw [nw_scale, if_neg (by omega), hJ1]; exact cm_s_scale h (by omega)⟩)
    · skip
      refine mk_bipush (nx := 13) X d_CM_scale_11 (by decide) rfl ?_
      exact hret _ _ _ _ d_CM_scale_13 (by exact ⟨by rw [an_scale, if_pos (by omega)], by rw [nw_scale, if_pos (by omega)]; exact h⟩)

-- CanonMaker.beat(I)I
theorem d_CM_beat_0 : decode prog_1_method_11_code 0 = .ok (.iload_n 1, 1) := by decide +kernel
theorem d_CM_beat_1 : decode prog_1_method_11_code 1 = .ok (.iconst 1, 1) := by decide +kernel
theorem d_CM_beat_2 : decode prog_1_method_11_code 2 = .ok (.if_icmp .lt 9, 3) := by decide +kernel
theorem d_CM_beat_5 : decode prog_1_method_11_code 5 = .ok (.iload_n 1, 1) := by decide +kernel
theorem d_CM_beat_6 : decode prog_1_method_11_code 6 = .ok (.bipush 64, 2) := by decide +kernel
theorem d_CM_beat_8 : decode prog_1_method_11_code 8 = .ok (.if_icmp .le 6, 3) := by decide +kernel
theorem d_CM_beat_11 : decode prog_1_method_11_code 11 = .ok (.bipush (-2), 2) := by decide +kernel
theorem d_CM_beat_13 : decode prog_1_method_11_code 13 = .ok (.ireturn, 1) := by decide +kernel
theorem d_CM_beat_14 : decode prog_1_method_11_code 14 = .ok (.aload_n 0, 1) := by decide +kernel
theorem d_CM_beat_15 : decode prog_1_method_11_code 15 = .ok (.getfield 25, 3) := by decide +kernel
theorem d_CM_beat_18 : decode prog_1_method_11_code 18 = .ok (.getfield 102, 3) := by decide +kernel
theorem d_CM_beat_21 : decode prog_1_method_11_code 21 = .ok (.istore_n 2, 1) := by decide +kernel
theorem d_CM_beat_22 : decode prog_1_method_11_code 22 = .ok (.aload_n 0, 1) := by decide +kernel
theorem d_CM_beat_23 : decode prog_1_method_11_code 23 = .ok (.getfield 25, 3) := by decide +kernel
theorem d_CM_beat_26 : decode prog_1_method_11_code 26 = .ok (.iload_n 1, 1) := by decide +kernel
theorem d_CM_beat_27 : decode prog_1_method_11_code 27 = .ok (.putfield 102, 3) := by decide +kernel
theorem d_CM_beat_30 : decode prog_1_method_11_code 30 = .ok (.iload_n 2, 1) := by decide +kernel
theorem d_CM_beat_31 : decode prog_1_method_11_code 31 = .ok (.ireturn, 1) := by decide +kernel
abbrev rm_CM_beat : Room := { frames := 0, cells := 0, slots := 0, locals := 0 }
set_option maxHeartbeats 4000000 in
set_option maxRecDepth 100000 in
theorem c_CM_beat (l : Launch) (D : va_G) (cs : Nat → ClassId) (ad : Nat → Nat) (zt : Nat) (hi : cm_inj ad) (c I : Wo) (h : cmR c I) (a : Int) (h_a : -2147483648 ≤ a ∧ a < 2147483648) : cm_C l D cs ad zt y_CM_beat ws_CM_beat rm_CM_beat [.ref (ad 0), .int (zi a)] I (mk_pi (fun r J => r = an_beat c a ∧ cmR (nw_beat c a) J)) := by
  refine mk_meti (own := "CanonMaker") (Ts := wA) hi (Nat.le_refl _) (by decide) rfl (fun w h => List.mem_cons_of_mem _ h) rfl (Nat.le_of_ble_eq_true rfl) [(0, .ref (ad 0)), (1, .int (zi a))] rfl ?_
  intro p_ e_ s_ m_ as_ bl_ me_ co_ Q_ X hret
  obtain ⟨⟨⟨hn, hN⟩, ⟨hlo, hsc, hbt, hru, hrd, hst⟩, ⟨hV, hV0⟩, ⟨hfc, hF⟩⟩, ⟨i12, iN⟩, ⟨⟨i50, i51, i52, i53, i54⟩, i07, i09⟩, iV, ⟨i010, iF⟩⟩ := id h
  refine mk_iloadn (nx := 1) X 1 d_CM_beat_0 rfl rfl ?_
  refine mk_iconst (nx := 2) X d_CM_beat_1 rfl ?_
  refine mk_icmp_lt (tgt := 11) (nx := 5) X d_CM_beat_2 (by omega) (by omega) (by decide) rfl (fun c2 => ?_) (fun c2 => ?_)
  · skip
    refine mk_bipush (nx := 13) X d_CM_beat_11 (by decide) rfl ?_
    exact hret _ _ _ _ d_CM_beat_13 (by exact ⟨by rw [an_beat, if_pos (by omega)], by rw [nw_beat, if_pos (by omega)]; exact h⟩)
  · skip
    refine mk_iloadn (nx := 6) X 1 d_CM_beat_5 rfl rfl ?_
    refine mk_bipush (nx := 8) X d_CM_beat_6 (by decide) rfl ?_
    refine mk_icmp_le (tgt := 14) (nx := 11) X d_CM_beat_8 (by omega) (by omega) (by decide) rfl (fun c8 => ?_) (fun c8 => ?_)
    · skip
      refine mk_aloadn (nx := 15) X 0 d_CM_beat_14 rfl rfl ?_
      refine mk_get (nx := 18) (v := .ref (ad 5)) X 0 (by decide) (sh_CM cs ad _) rfl in_CM 2 (by decide) wd_289 rfl rfl d_CM_beat_15 rfl ?_
      refine mk_get (nx := 21) (v := .int (zi (I 5 3))) X 5 (by decide) (sh_Bounds cs ad _) rfl in_Bounds 3 (by decide) wd_99 rfl rfl d_CM_beat_18 rfl ?_
      refine mk_istoren (nx := 22) X [(2, .int (zi (I 5 3))), (0, .ref (ad 0)), (1, .int (zi a))] d_CM_beat_21 (by decide) rfl rfl ?_
      refine mk_aloadn (nx := 23) X 1 d_CM_beat_22 rfl rfl ?_
      refine mk_get (nx := 26) (v := .ref (ad 5)) X 0 (by decide) (sh_CM cs ad _) rfl in_CM 2 (by decide) wd_289 rfl rfl d_CM_beat_23 rfl ?_
      refine mk_iloadn (nx := 27) X 2 d_CM_beat_26 rfl rfl ?_
      refine mk_putf (nx := 30) (ty := .int) X t_Bounds t_Bounds_ok n_Bounds 5 (by decide) (sh_Bounds cs ad _) rfl in_Bounds 3 (by decide) wd_99 rfl rfl (by decide +kernel) rfl rfl (Nat.le_of_ble_eq_true rfl) ((sh_Bounds cs ad _).trans rfl) d_CM_beat_27 rfl ?_
      obtain ⟨J1, hJ1⟩ : ∃ z, z = up2 I 5 3 a := ⟨_, rfl⟩
      refine mk_same hJ1.symm ?_
      have hJ1s : J1 5 3 = a := hJ1 ▸ up2_ss I 5 3 a
      have hJ1o : ∀ a b, (a ≠ 5 ∨ b ≠ 3) → J1 a b = I a b := hJ1 ▸ up2_o I 5 3 a
      refine mk_iloadn (nx := 31) X 0 d_CM_beat_30 rfl rfl ?_
      exact hret _ _ _ _ d_CM_beat_31 (by exact ⟨by rw [an_beat, if_neg (by omega)]; omega, by rw [nw_beat, if_neg (by omega), hJ1]; exact cm_s_beat h (by omega)⟩)
    · skip
      refine mk_bipush (nx := 13) X d_CM_beat_11 (by decide) rfl ?_
      exact hret _ _ _ _ d_CM_beat_13 (by exact ⟨by rw [an_beat, if_pos (by omega)], by rw [nw_beat, if_pos (by omega)]; exact h⟩)

-- CanonMaker.rules(I)I
theorem d_CM_rules_0 : decode prog_1_method_13_code 0 = .ok (.iload_n 1, 1) := by decide +kernel
theorem d_CM_rules_1 : decode prog_1_method_13_code 1 = .ok (.ifCond .lt 10, 3) := by decide +kernel
theorem d_CM_rules_4 : decode prog_1_method_13_code 4 = .ok (.iload_n 1, 1) := by decide +kernel
theorem d_CM_rules_5 : decode prog_1_method_13_code 5 = .ok (.sipush 255, 3) := by decide +kernel
theorem d_CM_rules_8 : decode prog_1_method_13_code 8 = .ok (.if_icmp .le 6, 3) := by decide +kernel
theorem d_CM_rules_11 : decode prog_1_method_13_code 11 = .ok (.bipush (-2), 2) := by decide +kernel
theorem d_CM_rules_13 : decode prog_1_method_13_code 13 = .ok (.ireturn, 1) := by decide +kernel
theorem d_CM_rules_14 : decode prog_1_method_13_code 14 = .ok (.aload_n 0, 1) := by decide +kernel
theorem d_CM_rules_15 : decode prog_1_method_13_code 15 = .ok (.getfield 25, 3) := by decide +kernel
theorem d_CM_rules_18 : decode prog_1_method_13_code 18 = .ok (.getfield 108, 3) := by decide +kernel
theorem d_CM_rules_21 : decode prog_1_method_13_code 21 = .ok (.istore_n 2, 1) := by decide +kernel
theorem d_CM_rules_22 : decode prog_1_method_13_code 22 = .ok (.aload_n 0, 1) := by decide +kernel
theorem d_CM_rules_23 : decode prog_1_method_13_code 23 = .ok (.getfield 25, 3) := by decide +kernel
theorem d_CM_rules_26 : decode prog_1_method_13_code 26 = .ok (.iload_n 1, 1) := by decide +kernel
theorem d_CM_rules_27 : decode prog_1_method_13_code 27 = .ok (.putfield 108, 3) := by decide +kernel
theorem d_CM_rules_30 : decode prog_1_method_13_code 30 = .ok (.iload_n 2, 1) := by decide +kernel
theorem d_CM_rules_31 : decode prog_1_method_13_code 31 = .ok (.ireturn, 1) := by decide +kernel
abbrev rm_CM_rules : Room := { frames := 0, cells := 0, slots := 0, locals := 0 }
set_option maxHeartbeats 4000000 in
set_option maxRecDepth 100000 in
theorem c_CM_rules (l : Launch) (D : va_G) (cs : Nat → ClassId) (ad : Nat → Nat) (zt : Nat) (hi : cm_inj ad) (c I : Wo) (h : cmR c I) (a : Int) (h_a : -2147483648 ≤ a ∧ a < 2147483648) : cm_C l D cs ad zt y_CM_rules ws_CM_rules rm_CM_rules [.ref (ad 0), .int (zi a)] I (mk_pi (fun r J => r = an_rules c a ∧ cmR (nw_rules c a) J)) := by
  refine mk_meti (own := "CanonMaker") (Ts := wA) hi (Nat.le_refl _) (by decide) rfl (fun w h => List.mem_cons_of_mem _ h) rfl (Nat.le_of_ble_eq_true rfl) [(0, .ref (ad 0)), (1, .int (zi a))] rfl ?_
  intro p_ e_ s_ m_ as_ bl_ me_ co_ Q_ X hret
  obtain ⟨⟨⟨hn, hN⟩, ⟨hlo, hsc, hbt, hru, hrd, hst⟩, ⟨hV, hV0⟩, ⟨hfc, hF⟩⟩, ⟨i12, iN⟩, ⟨⟨i50, i51, i52, i53, i54⟩, i07, i09⟩, iV, ⟨i010, iF⟩⟩ := id h
  refine mk_iloadn (nx := 1) X 1 d_CM_rules_0 rfl rfl ?_
  refine mk_if_lt (tgt := 11) (nx := 4) X d_CM_rules_1 (by omega) (by decide) rfl (fun c1 => ?_) (fun c1 => ?_)
  · skip
    refine mk_bipush (nx := 13) X d_CM_rules_11 (by decide) rfl ?_
    exact hret _ _ _ _ d_CM_rules_13 (by exact ⟨by rw [an_rules, if_pos (by omega)], by rw [nw_rules, if_pos (by omega)]; exact h⟩)
  · skip
    refine mk_iloadn (nx := 5) X 1 d_CM_rules_4 rfl rfl ?_
    refine mk_sipush (nx := 8) X d_CM_rules_5 (by decide) rfl ?_
    refine mk_icmp_le (tgt := 14) (nx := 11) X d_CM_rules_8 (by omega) (by omega) (by decide) rfl (fun c8 => ?_) (fun c8 => ?_)
    · skip
      refine mk_aloadn (nx := 15) X 0 d_CM_rules_14 rfl rfl ?_
      refine mk_get (nx := 18) (v := .ref (ad 5)) X 0 (by decide) (sh_CM cs ad _) rfl in_CM 2 (by decide) wd_289 rfl rfl d_CM_rules_15 rfl ?_
      refine mk_get (nx := 21) (v := .int (zi (I 5 4))) X 5 (by decide) (sh_Bounds cs ad _) rfl in_Bounds 4 (by decide) wd_101 rfl rfl d_CM_rules_18 rfl ?_
      refine mk_istoren (nx := 22) X [(2, .int (zi (I 5 4))), (0, .ref (ad 0)), (1, .int (zi a))] d_CM_rules_21 (by decide) rfl rfl ?_
      refine mk_aloadn (nx := 23) X 1 d_CM_rules_22 rfl rfl ?_
      refine mk_get (nx := 26) (v := .ref (ad 5)) X 0 (by decide) (sh_CM cs ad _) rfl in_CM 2 (by decide) wd_289 rfl rfl d_CM_rules_23 rfl ?_
      refine mk_iloadn (nx := 27) X 2 d_CM_rules_26 rfl rfl ?_
      refine mk_putf (nx := 30) (ty := .int) X t_Bounds t_Bounds_ok n_Bounds 5 (by decide) (sh_Bounds cs ad _) rfl in_Bounds 4 (by decide) wd_101 rfl rfl (by decide +kernel) rfl rfl (Nat.le_of_ble_eq_true rfl) ((sh_Bounds cs ad _).trans rfl) d_CM_rules_27 rfl ?_
      obtain ⟨J1, hJ1⟩ : ∃ z, z = up2 I 5 4 a := ⟨_, rfl⟩
      refine mk_same hJ1.symm ?_
      have hJ1s : J1 5 4 = a := hJ1 ▸ up2_ss I 5 4 a
      have hJ1o : ∀ a b, (a ≠ 5 ∨ b ≠ 4) → J1 a b = I a b := hJ1 ▸ up2_o I 5 4 a
      refine mk_iloadn (nx := 31) X 0 d_CM_rules_30 rfl rfl ?_
      exact hret _ _ _ _ d_CM_rules_31 (by exact ⟨by rw [an_rules, if_neg (by omega)]; omega, by rw [nw_rules, if_neg (by omega), hJ1]; exact cm_s_rules h (by omega)⟩)
    · skip
      refine mk_bipush (nx := 13) X d_CM_rules_11 (by decide) rfl ?_
      exact hret _ _ _ _ d_CM_rules_13 (by exact ⟨by rw [an_rules, if_pos (by omega)], by rw [nw_rules, if_pos (by omega)]; exact h⟩)

-- CanonMaker.round(I)I
theorem d_CM_round_0 : decode prog_1_method_12_code 0 = .ok (.iload_n 1, 1) := by decide +kernel
theorem d_CM_round_1 : decode prog_1_method_12_code 1 = .ok (.ifCond .lt 10, 3) := by decide +kernel
theorem d_CM_round_4 : decode prog_1_method_12_code 4 = .ok (.iload_n 1, 1) := by decide +kernel
theorem d_CM_round_5 : decode prog_1_method_12_code 5 = .ok (.sipush 400, 3) := by decide +kernel
theorem d_CM_round_8 : decode prog_1_method_12_code 8 = .ok (.if_icmp .le 6, 3) := by decide +kernel
theorem d_CM_round_11 : decode prog_1_method_12_code 11 = .ok (.bipush (-2), 2) := by decide +kernel
theorem d_CM_round_13 : decode prog_1_method_12_code 13 = .ok (.ireturn, 1) := by decide +kernel
theorem d_CM_round_14 : decode prog_1_method_12_code 14 = .ok (.aload_n 0, 1) := by decide +kernel
theorem d_CM_round_15 : decode prog_1_method_12_code 15 = .ok (.getfield 105, 3) := by decide +kernel
theorem d_CM_round_18 : decode prog_1_method_12_code 18 = .ok (.istore_n 2, 1) := by decide +kernel
theorem d_CM_round_19 : decode prog_1_method_12_code 19 = .ok (.aload_n 0, 1) := by decide +kernel
theorem d_CM_round_20 : decode prog_1_method_12_code 20 = .ok (.iload_n 1, 1) := by decide +kernel
theorem d_CM_round_21 : decode prog_1_method_12_code 21 = .ok (.putfield 105, 3) := by decide +kernel
theorem d_CM_round_24 : decode prog_1_method_12_code 24 = .ok (.iload_n 2, 1) := by decide +kernel
theorem d_CM_round_25 : decode prog_1_method_12_code 25 = .ok (.ireturn, 1) := by decide +kernel
abbrev rm_CM_round : Room := { frames := 0, cells := 0, slots := 0, locals := 0 }
set_option maxHeartbeats 4000000 in
set_option maxRecDepth 100000 in
theorem c_CM_round (l : Launch) (D : va_G) (cs : Nat → ClassId) (ad : Nat → Nat) (zt : Nat) (hi : cm_inj ad) (c I : Wo) (h : cmR c I) (a : Int) (h_a : -2147483648 ≤ a ∧ a < 2147483648) : cm_C l D cs ad zt y_CM_round ws_CM_round rm_CM_round [.ref (ad 0), .int (zi a)] I (mk_pi (fun r J => r = an_round c a ∧ cmR (nw_round c a) J)) := by
  refine mk_meti (own := "CanonMaker") (Ts := wA) hi (Nat.le_refl _) (by decide) rfl (fun w h => List.mem_cons_of_mem _ h) rfl (Nat.le_of_ble_eq_true rfl) [(0, .ref (ad 0)), (1, .int (zi a))] rfl ?_
  intro p_ e_ s_ m_ as_ bl_ me_ co_ Q_ X hret
  obtain ⟨⟨⟨hn, hN⟩, ⟨hlo, hsc, hbt, hru, hrd, hst⟩, ⟨hV, hV0⟩, ⟨hfc, hF⟩⟩, ⟨i12, iN⟩, ⟨⟨i50, i51, i52, i53, i54⟩, i07, i09⟩, iV, ⟨i010, iF⟩⟩ := id h
  refine mk_iloadn (nx := 1) X 1 d_CM_round_0 rfl rfl ?_
  refine mk_if_lt (tgt := 11) (nx := 4) X d_CM_round_1 (by omega) (by decide) rfl (fun c1 => ?_) (fun c1 => ?_)
  · skip
    refine mk_bipush (nx := 13) X d_CM_round_11 (by decide) rfl ?_
    exact hret _ _ _ _ d_CM_round_13 (by exact ⟨by rw [an_round, if_pos (by omega)], by rw [nw_round, if_pos (by omega)]; exact h⟩)
  · skip
    refine mk_iloadn (nx := 5) X 1 d_CM_round_4 rfl rfl ?_
    refine mk_sipush (nx := 8) X d_CM_round_5 (by decide) rfl ?_
    refine mk_icmp_le (tgt := 14) (nx := 11) X d_CM_round_8 (by omega) (by omega) (by decide) rfl (fun c8 => ?_) (fun c8 => ?_)
    · skip
      refine mk_aloadn (nx := 15) X 0 d_CM_round_14 rfl rfl ?_
      refine mk_get (nx := 18) (v := .int (zi (I 0 7))) X 0 (by decide) (sh_CM cs ad _) rfl in_CM 7 (by decide) wd_294 rfl rfl d_CM_round_15 rfl ?_
      refine mk_istoren (nx := 19) X [(2, .int (zi (I 0 7))), (0, .ref (ad 0)), (1, .int (zi a))] d_CM_round_18 (by decide) rfl rfl ?_
      refine mk_aloadn (nx := 20) X 1 d_CM_round_19 rfl rfl ?_
      refine mk_iloadn (nx := 21) X 2 d_CM_round_20 rfl rfl ?_
      refine mk_putf (nx := 24) (ty := .int) X t_CM t_CM_ok n_CM 0 (by decide) (sh_CM cs ad _) rfl in_CM 7 (by decide) wd_294 rfl rfl (by decide +kernel) rfl rfl (Nat.le_of_ble_eq_true rfl) ((sh_CM cs ad _).trans rfl) d_CM_round_21 rfl ?_
      obtain ⟨J1, hJ1⟩ : ∃ z, z = up2 I 0 7 a := ⟨_, rfl⟩
      refine mk_same hJ1.symm ?_
      have hJ1s : J1 0 7 = a := hJ1 ▸ up2_ss I 0 7 a
      have hJ1o : ∀ a b, (a ≠ 0 ∨ b ≠ 7) → J1 a b = I a b := hJ1 ▸ up2_o I 0 7 a
      refine mk_iloadn (nx := 25) X 0 d_CM_round_24 rfl rfl ?_
      exact hret _ _ _ _ d_CM_round_25 (by exact ⟨by rw [an_round, if_neg (by omega)]; omega, by rw [nw_round, if_neg (by omega), hJ1]; exact cm_s_round h (by omega)⟩)
    · skip
      refine mk_bipush (nx := 13) X d_CM_round_11 (by decide) rfl ?_
      exact hret _ _ _ _ d_CM_round_13 (by exact ⟨by rw [an_round, if_pos (by omega)], by rw [nw_round, if_pos (by omega)]; exact h⟩)

-- CanonMaker.steps()I
theorem d_CM_steps_0 : decode prog_1_method_19_code 0 = .ok (.aload_n 0, 1) := by decide +kernel
theorem d_CM_steps_1 : decode prog_1_method_19_code 1 = .ok (.getfield 157, 3) := by decide +kernel
theorem d_CM_steps_4 : decode prog_1_method_19_code 4 = .ok (.ireturn, 1) := by decide +kernel
abbrev rm_CM_steps : Room := { frames := 0, cells := 0, slots := 0, locals := 0 }
set_option maxHeartbeats 4000000 in
set_option maxRecDepth 100000 in
theorem c_CM_steps (l : Launch) (D : va_G) (cs : Nat → ClassId) (ad : Nat → Nat) (zt : Nat) (hi : cm_inj ad) (c I : Wo) (h : cmR c I)  : cm_C l D cs ad zt y_CM_steps ws_CM_steps rm_CM_steps [.ref (ad 0)] I (mk_pi (fun r J => r = c 0 7 ∧ cmR c J)) := by
  refine mk_meti (own := "CanonMaker") (Ts := wA) hi (Nat.le_refl _) (by decide) rfl (fun w h => List.mem_cons_of_mem _ h) rfl (Nat.le_of_ble_eq_true rfl) [(0, .ref (ad 0))] rfl ?_
  intro p_ e_ s_ m_ as_ bl_ me_ co_ Q_ X hret
  obtain ⟨⟨⟨hn, hN⟩, ⟨hlo, hsc, hbt, hru, hrd, hst⟩, ⟨hV, hV0⟩, ⟨hfc, hF⟩⟩, ⟨i12, iN⟩, ⟨⟨i50, i51, i52, i53, i54⟩, i07, i09⟩, iV, ⟨i010, iF⟩⟩ := id h
  refine mk_aloadn (nx := 1) X 0 d_CM_steps_0 rfl rfl ?_
  refine mk_get (nx := 4) (v := .int (zi (I 0 9))) X 0 (by decide) (sh_CM cs ad _) rfl in_CM 9 (by decide) wd_296 rfl rfl d_CM_steps_1 rfl ?_
  exact hret _ _ _ _ d_CM_steps_4 (by exact ⟨by omega, h⟩)

-- CanonMaker.shift(II)I
theorem d_CM_shift_0 : decode prog_1_method_21_code 0 = .ok (.iload_n 1, 1) := by decide +kernel
theorem d_CM_shift_1 : decode prog_1_method_21_code 1 = .ok (.ifCond .lt 11, 3) := by decide +kernel
theorem d_CM_shift_4 : decode prog_1_method_21_code 4 = .ok (.iload_n 1, 1) := by decide +kernel
theorem d_CM_shift_5 : decode prog_1_method_21_code 5 = .ok (.aload_n 0, 1) := by decide +kernel
theorem d_CM_shift_6 : decode prog_1_method_21_code 6 = .ok (.getfield 180, 3) := by decide +kernel
theorem d_CM_shift_9 : decode prog_1_method_21_code 9 = .ok (.if_icmp .lt 5, 3) := by decide +kernel
theorem d_CM_shift_12 : decode prog_1_method_21_code 12 = .ok (.iconst (-1), 1) := by decide +kernel
theorem d_CM_shift_13 : decode prog_1_method_21_code 13 = .ok (.ireturn, 1) := by decide +kernel
theorem d_CM_shift_14 : decode prog_1_method_21_code 14 = .ok (.iload_n 2, 1) := by decide +kernel
theorem d_CM_shift_15 : decode prog_1_method_21_code 15 = .ok (.lookupswitch 48 #[(0, 25), (1, 35)], 25) := by decide +kernel
theorem d_CM_shift_40 : decode prog_1_method_21_code 40 = .ok (.aload_n 0, 1) := by decide +kernel
theorem d_CM_shift_41 : decode prog_1_method_21_code 41 = .ok (.getfield 49, 3) := by decide +kernel
theorem d_CM_shift_44 : decode prog_1_method_21_code 44 = .ok (.iload_n 1, 1) := by decide +kernel
theorem d_CM_shift_45 : decode prog_1_method_21_code 45 = .ok (.iaload, 1) := by decide +kernel
theorem d_CM_shift_46 : decode prog_1_method_21_code 46 = .ok (.bipush 25, 2) := by decide +kernel
theorem d_CM_shift_48 : decode prog_1_method_21_code 48 = .ok (.idiv, 1) := by decide +kernel
theorem d_CM_shift_49 : decode prog_1_method_21_code 49 = .ok (.ireturn, 1) := by decide +kernel
theorem d_CM_shift_50 : decode prog_1_method_21_code 50 = .ok (.aload_n 0, 1) := by decide +kernel
theorem d_CM_shift_51 : decode prog_1_method_21_code 51 = .ok (.getfield 49, 3) := by decide +kernel
theorem d_CM_shift_54 : decode prog_1_method_21_code 54 = .ok (.iload_n 1, 1) := by decide +kernel
theorem d_CM_shift_55 : decode prog_1_method_21_code 55 = .ok (.iaload, 1) := by decide +kernel
theorem d_CM_shift_56 : decode prog_1_method_21_code 56 = .ok (.bipush 25, 2) := by decide +kernel
theorem d_CM_shift_58 : decode prog_1_method_21_code 58 = .ok (.irem, 1) := by decide +kernel
theorem d_CM_shift_59 : decode prog_1_method_21_code 59 = .ok (.bipush 12, 2) := by decide +kernel
theorem d_CM_shift_61 : decode prog_1_method_21_code 61 = .ok (.isub, 1) := by decide +kernel
theorem d_CM_shift_62 : decode prog_1_method_21_code 62 = .ok (.ireturn, 1) := by decide +kernel
theorem d_CM_shift_63 : decode prog_1_method_21_code 63 = .ok (.bipush (-2), 2) := by decide +kernel
theorem d_CM_shift_65 : decode prog_1_method_21_code 65 = .ok (.ireturn, 1) := by decide +kernel
abbrev rm_CM_shift : Room := { frames := 0, cells := 0, slots := 0, locals := 0 }
set_option maxHeartbeats 4000000 in
set_option maxRecDepth 100000 in
theorem c_CM_shift (l : Launch) (D : va_G) (cs : Nat → ClassId) (ad : Nat → Nat) (zt : Nat) (hi : cm_inj ad) (c I : Wo) (h : cmR c I) (k : Int) (h_k : -2147483648 ≤ k ∧ k < 2147483648) (w : Int) (h_w : -2147483648 ≤ w ∧ w < 2147483648) : cm_C l D cs ad zt y_CM_shift ws_CM_shift rm_CM_shift [.ref (ad 0), .int (zi k), .int (zi w)] I (mk_pi (fun r J => r = an_shift c k w ∧ cmR c J)) := by
  refine mk_meti (own := "CanonMaker") (Ts := wA) hi (Nat.le_refl _) (by decide) rfl (fun w h => List.mem_cons_of_mem _ h) rfl (Nat.le_of_ble_eq_true rfl) [(0, .ref (ad 0)), (1, .int (zi k)), (2, .int (zi w))] rfl ?_
  intro p_ e_ s_ m_ as_ bl_ me_ co_ Q_ X hret
  obtain ⟨⟨⟨hn, hN⟩, ⟨hlo, hsc, hbt, hru, hrd, hst⟩, ⟨hV, hV0⟩, ⟨hfc, hF⟩⟩, ⟨i12, iN⟩, ⟨⟨i50, i51, i52, i53, i54⟩, i07, i09⟩, iV, ⟨i010, iF⟩⟩ := id h
  refine mk_iloadn (nx := 1) X 1 d_CM_shift_0 rfl rfl ?_
  refine mk_if_lt (tgt := 12) (nx := 4) X d_CM_shift_1 (by omega) (by decide) rfl (fun c1 => ?_) (fun c1 => ?_)
  · skip
    refine mk_iconst (nx := 13) X d_CM_shift_12 rfl ?_
    exact hret _ _ _ _ d_CM_shift_13 (by exact ⟨by rw [an_shift, if_pos (by omega)], by exact h⟩)
  · skip
    refine mk_iloadn (nx := 5) X 1 d_CM_shift_4 rfl rfl ?_
    refine mk_aloadn (nx := 6) X 0 d_CM_shift_5 rfl rfl ?_
    refine mk_get (nx := 9) (v := .int (zi (I 0 10))) X 0 (by decide) (sh_CM cs ad _) rfl in_CM 10 (by decide) wd_297 rfl rfl d_CM_shift_6 rfl ?_
    refine mk_icmp_lt (tgt := 14) (nx := 12) X d_CM_shift_9 (by omega) (by omega) (by decide) rfl (fun c9 => ?_) (fun c9 => ?_)
    · skip
      refine mk_iloadn (nx := 15) X 2 d_CM_shift_14 rfl rfl ?_
      by_cases c15_0 : w = 0
      · refine mk_lookup (tgt := 40) (off := 25) X d_CM_shift_15 (by omega) ⟨by decide, by rw [c15_0]; try rfl⟩ (by decide) ?_
        refine mk_aloadn (nx := 41) X 0 d_CM_shift_40 rfl rfl ?_
        refine mk_get (nx := 44) (v := .ref (ad 43)) X 0 (by decide) (sh_CM cs ad _) rfl in_CM 6 (by decide) wd_293 rfl rfl d_CM_shift_41 rfl ?_
        refine mk_iloadn (nx := 45) X 1 d_CM_shift_44 rfl rfl ?_
        refine mk_iald (nx := 46) (j := k.toNat) X 43 0 (by decide) (sh_shiftsFound cs ad _) rfl (by omega) (by omega) (by decide) rfl d_CM_shift_45 rfl ?_
        refine mk_bipush (nx := 48) X d_CM_shift_46 (by decide) rfl ?_
        have hq := iF k.toNat (by omega)
        have hq2 := hF k.toNat (by omega)
        refine mk_idiv (nx := 49) X d_CM_shift_48 (by omega) (by omega) (by omega) rfl ?_
        exact hret _ _ _ _ d_CM_shift_49 (by exact ⟨by rw [an_shift, if_neg (by omega), if_pos (by omega), hq, Int.tdiv_eq_ediv_of_nonneg (by omega)]; omega, h⟩)
      · skip
        by_cases c15_1 : w = 1
        · refine mk_lookup (tgt := 50) (off := 35) X d_CM_shift_15 (by omega) ⟨by decide, by rw [c15_1]; try rfl⟩ (by decide) ?_
          refine mk_aloadn (nx := 51) X 0 d_CM_shift_50 rfl rfl ?_
          refine mk_get (nx := 54) (v := .ref (ad 43)) X 0 (by decide) (sh_CM cs ad _) rfl in_CM 6 (by decide) wd_293 rfl rfl d_CM_shift_51 rfl ?_
          refine mk_iloadn (nx := 55) X 1 d_CM_shift_54 rfl rfl ?_
          refine mk_iald (nx := 56) (j := k.toNat) X 43 0 (by decide) (sh_shiftsFound cs ad _) rfl (by omega) (by omega) (by decide) rfl d_CM_shift_55 rfl ?_
          refine mk_bipush (nx := 58) X d_CM_shift_56 (by decide) rfl ?_
          have hq := iF k.toNat (by omega)
          have hq2 := hF k.toNat (by omega)
          refine mk_irem (nx := 59) X d_CM_shift_58 (by omega) (by omega) (by omega) rfl ?_
          refine mk_bipush (nx := 61) X d_CM_shift_59 (by decide) rfl ?_
          refine mk_isub (nx := 62) X d_CM_shift_61 rfl ?_
          exact hret _ _ _ _ d_CM_shift_62 (by exact ⟨by rw [an_shift, if_neg (by omega), if_neg (by omega), if_pos (by omega), hq, Int.tmod_eq_emod_of_nonneg (by omega)]; omega, h⟩)
        · skip
          refine mk_lookup (tgt := 63) (off := 48) X d_CM_shift_15 (by omega) ⟨by decide, by simp only [Op.lookupswitch.offset_cons, Op.lookupswitch.offset_nil]; rw [if_neg (by omega), if_neg (by omega)]⟩ (by decide) ?_
          refine mk_bipush (nx := 65) X d_CM_shift_63 (by decide) rfl ?_
          exact hret _ _ _ _ d_CM_shift_65 (by exact ⟨by rw [an_shift, if_neg (by omega), if_neg (by omega), if_neg (by omega)], h⟩)
    · skip
      refine mk_iconst (nx := 13) X d_CM_shift_12 rfl ?_
      exact hret _ _ _ _ d_CM_shift_13 (by exact ⟨by rw [an_shift, if_pos (by omega)], by exact h⟩)
end
section
abbrev mo_inj (ad : Nat → Nat) : Prop := ∀ i j, i < 16 → j < 16 → ad i = ad j → i = j
def mo_sh (cs : Nat → ClassId) (ad : Nat → Nat) (k : Nat) (f : Nat → Int) : va_E := (([
  .inr (7, [.ref (ad 1), .ref (ad 2), .int (zi (f 2)), .ref (ad 3), .ref (ad 4), .ref (ad 5), .ref (ad 6), .ref (ad 7), .int (zi (f 8)), .int (zi (f 9)), .int (zi (f 10)), .int (zi (f 11)), .int (zi (f 12)), .int (zi (f 13)), .int (zi (f 14)), .ref (ad 8), .ref (ad 9), .ref (ad 10), .ref (ad 11), .int (zi (f 19)), .int (zi (f 20)), .int (zi (f 21)), .int (zi (f 22)), .int (zi (f 23)), .ref (ad 12), .ref (ad 13), .ref (ad 14), .int (zi (f 27)), .ref (ad 15)]),
  .inl (cs 0, 24, .inl (fun j => zi (f j))),
  .inl (cs 0, 24, .inl (fun j => zi (f j))),
  .inl (cs 1, 4, .inl (fun j => zi (f j))),
  .inl (cs 0, 4, .inl (fun j => zi (f j))),
  .inl (cs 0, 4, .inl (fun j => zi (f j))),
  .inl (cs 0, 4, .inl (fun j => zi (f j))),
  .inl (cs 0, 4, .inl (fun j => zi (f j))),
  .inl (cs 0, 5200, .inl (fun j => zi (f j))),
  .inl (cs 1, 5200, .inl (fun j => zi (f j))),
  .inl (cs 0, 5200, .inl (fun j => zi (f j))),
  .inl (cs 0, 96, .inl (fun j => zi (f j))),
  .inl (cs 0, 24, .inl (fun j => zi (f j))),
  .inl (cs 0, 2600, .inl (fun j => zi (f j))),
  .inl (cs 0, 2600, .inl (fun j => zi (f j))),
  .inl (cs 1, 4, .inl (fun j => zi (f j)))] : List va_E)).getD k (.inr (0, []))
theorem mh_Mo (cs : Nat → ClassId) (ad : Nat → Nat) (f : Nat → Int) : mo_sh cs ad 0 f = .inr (7, [.ref (ad 1), .ref (ad 2), .int (zi (f 2)), .ref (ad 3), .ref (ad 4), .ref (ad 5), .ref (ad 6), .ref (ad 7), .int (zi (f 8)), .int (zi (f 9)), .int (zi (f 10)), .int (zi (f 11)), .int (zi (f 12)), .int (zi (f 13)), .int (zi (f 14)), .ref (ad 8), .ref (ad 9), .ref (ad 10), .ref (ad 11), .int (zi (f 19)), .int (zi (f 20)), .int (zi (f 21)), .int (zi (f 22)), .int (zi (f 23)), .ref (ad 12), .ref (ad 13), .ref (ad 14), .int (zi (f 27)), .ref (ad 15)]) := rfl
theorem mh_pitches (cs : Nat → ClassId) (ad : Nat → Nat) (f : Nat → Int) : mo_sh cs ad 1 f = .inl (cs 0, 24, .inl (fun j => zi (f j))) := rfl
theorem mh_lengths (cs : Nat → ClassId) (ad : Nat → Nat) (f : Nat → Int) : mo_sh cs ad 2 f = .inl (cs 0, 24, .inl (fun j => zi (f j))) := rfl
theorem mh_on (cs : Nat → ClassId) (ad : Nat → Nat) (f : Nat → Int) : mo_sh cs ad 3 f = .inl (cs 1, 4, .inl (fun j => zi (f j))) := rfl
theorem mh_delays (cs : Nat → ClassId) (ad : Nat → Nat) (f : Nat → Int) : mo_sh cs ad 4 f = .inl (cs 0, 4, .inl (fun j => zi (f j))) := rfl
theorem mh_intervals (cs : Nat → ClassId) (ad : Nat → Nat) (f : Nat → Int) : mo_sh cs ad 5 f = .inl (cs 0, 4, .inl (fun j => zi (f j))) := rfl
theorem mh_modes (cs : Nat → ClassId) (ad : Nat → Nat) (f : Nat → Int) : mo_sh cs ad 6 f = .inl (cs 0, 4, .inl (fun j => zi (f j))) := rfl
theorem mh_factors (cs : Nat → ClassId) (ad : Nat → Nat) (f : Nat → Int) : mo_sh cs ad 7 f = .inl (cs 0, 4, .inl (fun j => zi (f j))) := rfl
theorem mh_pitchAt (cs : Nat → ClassId) (ad : Nat → Nat) (f : Nat → Int) : mo_sh cs ad 8 f = .inl (cs 0, 5200, .inl (fun j => zi (f j))) := rfl
theorem mh_struck (cs : Nat → ClassId) (ad : Nat → Nat) (f : Nat → Int) : mo_sh cs ad 9 f = .inl (cs 1, 5200, .inl (fun j => zi (f j))) := rfl
theorem mh_noteAt (cs : Nat → ClassId) (ad : Nat → Nat) (f : Nat → Int) : mo_sh cs ad 10 f = .inl (cs 0, 5200, .inl (fun j => zi (f j))) := rfl
theorem mh_line (cs : Nat → ClassId) (ad : Nat → Nat) (f : Nat → Int) : mo_sh cs ad 11 f = .inl (cs 0, 96, .inl (fun j => zi (f j))) := rfl
theorem mh_opens (cs : Nat → ClassId) (ad : Nat → Nat) (f : Nat → Int) : mo_sh cs ad 12 f = .inl (cs 0, 24, .inl (fun j => zi (f j))) := rfl
theorem mh_shiftDelays (cs : Nat → ClassId) (ad : Nat → Nat) (f : Nat → Int) : mo_sh cs ad 13 f = .inl (cs 0, 2600, .inl (fun j => zi (f j))) := rfl
theorem mh_shiftIntervals (cs : Nat → ClassId) (ad : Nat → Nat) (f : Nat → Int) : mo_sh cs ad 14 f = .inl (cs 0, 2600, .inl (fun j => zi (f j))) := rfl
theorem mh_were (cs : Nat → ClassId) (ad : Nat → Nat) (f : Nat → Int) : mo_sh cs ad 15 f = .inl (cs 1, 4, .inl (fun j => zi (f j))) := rfl
abbrev mo_tys (cs : Nat → ClassId) : List (ClassId × FieldType) := [(cs 0, .int), (cs 1, .boolean)]
abbrev mo_C (l : Launch) (D : va_G) (cs : Nat → ClassId) (ad : Nat → Nat) (y : MethodName) (ws : List Cond) (rm : Room) (As : List Value) (I : Wo) (P : Option Value → Wo → Prop) : Prop := mk_C l y ws rm D cmcl (mo_tys cs) (mo_sh cs ad) 16 16 ad [] As I P

-- CanonMakerModel.note(II)I
theorem d_Mo_note_0 : decode prog_9_method_2_code 0 = .ok (.iload_n 1, 1) := by decide +kernel
theorem d_Mo_note_1 : decode prog_9_method_2_code 1 = .ok (.bipush (-2), 2) := by decide +kernel
theorem d_Mo_note_3 : decode prog_9_method_2_code 3 = .ok (.if_icmp .lt 20, 3) := by decide +kernel
theorem d_Mo_note_6 : decode prog_9_method_2_code 6 = .ok (.iload_n 1, 1) := by decide +kernel
theorem d_Mo_note_7 : decode prog_9_method_2_code 7 = .ok (.bipush 127, 2) := by decide +kernel
theorem d_Mo_note_9 : decode prog_9_method_2_code 9 = .ok (.if_icmp .gt 14, 3) := by decide +kernel
theorem d_Mo_note_12 : decode prog_9_method_2_code 12 = .ok (.iload_n 2, 1) := by decide +kernel
theorem d_Mo_note_13 : decode prog_9_method_2_code 13 = .ok (.iconst 1, 1) := by decide +kernel
theorem d_Mo_note_14 : decode prog_9_method_2_code 14 = .ok (.if_icmp .lt 9, 3) := by decide +kernel
theorem d_Mo_note_17 : decode prog_9_method_2_code 17 = .ok (.iload_n 2, 1) := by decide +kernel
theorem d_Mo_note_18 : decode prog_9_method_2_code 18 = .ok (.bipush 16, 2) := by decide +kernel
theorem d_Mo_note_20 : decode prog_9_method_2_code 20 = .ok (.if_icmp .le 6, 3) := by decide +kernel
theorem d_Mo_note_23 : decode prog_9_method_2_code 23 = .ok (.bipush (-2), 2) := by decide +kernel
theorem d_Mo_note_25 : decode prog_9_method_2_code 25 = .ok (.ireturn, 1) := by decide +kernel
theorem d_Mo_note_26 : decode prog_9_method_2_code 26 = .ok (.aload_n 0, 1) := by decide +kernel
theorem d_Mo_note_27 : decode prog_9_method_2_code 27 = .ok (.getfield 66, 3) := by decide +kernel
theorem d_Mo_note_30 : decode prog_9_method_2_code 30 = .ok (.bipush 24, 2) := by decide +kernel
theorem d_Mo_note_32 : decode prog_9_method_2_code 32 = .ok (.if_icmp .ne 6, 3) := by decide +kernel
theorem d_Mo_note_35 : decode prog_9_method_2_code 35 = .ok (.bipush (-4), 2) := by decide +kernel
theorem d_Mo_note_37 : decode prog_9_method_2_code 37 = .ok (.ireturn, 1) := by decide +kernel
theorem d_Mo_note_38 : decode prog_9_method_2_code 38 = .ok (.aload_n 0, 1) := by decide +kernel
theorem d_Mo_note_39 : decode prog_9_method_2_code 39 = .ok (.getfield 7, 3) := by decide +kernel
theorem d_Mo_note_42 : decode prog_9_method_2_code 42 = .ok (.aload_n 0, 1) := by decide +kernel
theorem d_Mo_note_43 : decode prog_9_method_2_code 43 = .ok (.getfield 66, 3) := by decide +kernel
theorem d_Mo_note_46 : decode prog_9_method_2_code 46 = .ok (.iload_n 1, 1) := by decide +kernel
theorem d_Mo_note_47 : decode prog_9_method_2_code 47 = .ok (.iastore, 1) := by decide +kernel
theorem d_Mo_note_48 : decode prog_9_method_2_code 48 = .ok (.aload_n 0, 1) := by decide +kernel
theorem d_Mo_note_49 : decode prog_9_method_2_code 49 = .ok (.getfield 13, 3) := by decide +kernel
theorem d_Mo_note_52 : decode prog_9_method_2_code 52 = .ok (.aload_n 0, 1) := by decide +kernel
theorem d_Mo_note_53 : decode prog_9_method_2_code 53 = .ok (.getfield 66, 3) := by decide +kernel
theorem d_Mo_note_56 : decode prog_9_method_2_code 56 = .ok (.iload_n 2, 1) := by decide +kernel
theorem d_Mo_note_57 : decode prog_9_method_2_code 57 = .ok (.iastore, 1) := by decide +kernel
theorem d_Mo_note_58 : decode prog_9_method_2_code 58 = .ok (.aload_n 0, 1) := by decide +kernel
theorem d_Mo_note_59 : decode prog_9_method_2_code 59 = .ok (.dup, 1) := by decide +kernel
theorem d_Mo_note_60 : decode prog_9_method_2_code 60 = .ok (.getfield 66, 3) := by decide +kernel
theorem d_Mo_note_63 : decode prog_9_method_2_code 63 = .ok (.iconst 1, 1) := by decide +kernel
theorem d_Mo_note_64 : decode prog_9_method_2_code 64 = .ok (.iadd, 1) := by decide +kernel
theorem d_Mo_note_65 : decode prog_9_method_2_code 65 = .ok (.putfield 66, 3) := by decide +kernel
theorem d_Mo_note_68 : decode prog_9_method_2_code 68 = .ok (.aload_n 0, 1) := by decide +kernel
theorem d_Mo_note_69 : decode prog_9_method_2_code 69 = .ok (.getfield 66, 3) := by decide +kernel
theorem d_Mo_note_72 : decode prog_9_method_2_code 72 = .ok (.iconst 1, 1) := by decide +kernel
theorem d_Mo_note_73 : decode prog_9_method_2_code 73 = .ok (.isub, 1) := by decide +kernel
theorem d_Mo_note_74 : decode prog_9_method_2_code 74 = .ok (.ireturn, 1) := by decide +kernel
abbrev rm_Mo_note : Room := { frames := 0, cells := 0, slots := 0, locals := 0 }
set_option maxHeartbeats 4000000 in
set_option maxRecDepth 100000 in
theorem c_Mo_note (l : Launch) (D : va_G) (cs : Nat → ClassId) (ad : Nat → Nat) (hi : mo_inj ad) (c I : Wo) (h : moR c I) (a : Int) (h_a : -2147483648 ≤ a ∧ a < 2147483648) (b : Int) (h_b : -2147483648 ≤ b ∧ b < 2147483648) : mo_C l D cs ad y_Mo_note ws_Mo_note rm_Mo_note [.ref (ad 0), .int (zi a), .int (zi b)] I (mk_pi (fun r J => r = an_note c a b ∧ moR (nw_note c a b) J)) := by
  refine mk_meti (own := "CanonMakerModel") (Ts := wA) hi (Nat.le_refl _) (by decide) rfl (fun w h => List.mem_cons_of_mem _ h) rfl (Nat.le_of_ble_eq_true rfl) [(0, .ref (ad 0)), (1, .int (zi a)), (2, .int (zi b))] rfl ?_
  intro p_ e_ s_ m_ as_ bl_ me_ co_ Q_ X hret
  obtain ⟨⟨⟨hn, hN⟩, ⟨hlo, hsc, hbt, hru, hrd, hst⟩, ⟨hV, hV0⟩, ⟨hfc, hF⟩⟩, ⟨i12, iN⟩, ⟨⟨i50, i51, i52, i53, i54⟩, i07, i09⟩, iV, ⟨i010, iF⟩⟩ := id h
  refine mk_iloadn (nx := 1) X 1 d_Mo_note_0 rfl rfl ?_
  refine mk_bipush (nx := 3) X d_Mo_note_1 (by decide) rfl ?_
  refine mk_icmp_lt (tgt := 23) (nx := 6) X d_Mo_note_3 (by omega) (by omega) (by decide) rfl (fun c3 => ?_) (fun c3 => ?_)
  · skip
    refine mk_bipush (nx := 25) X d_Mo_note_23 (by decide) rfl ?_
    exact hret _ _ _ _ d_Mo_note_25 (by exact ⟨by rw [an_note, if_pos (by omega)], by rw [nw_note, if_pos (by omega)]; exact h⟩)
  · skip
    refine mk_iloadn (nx := 7) X 1 d_Mo_note_6 rfl rfl ?_
    refine mk_bipush (nx := 9) X d_Mo_note_7 (by decide) rfl ?_
    refine mk_icmp_gt (tgt := 23) (nx := 12) X d_Mo_note_9 (by omega) (by omega) (by decide) rfl (fun c9 => ?_) (fun c9 => ?_)
    · skip
      refine mk_bipush (nx := 25) X d_Mo_note_23 (by decide) rfl ?_
      exact hret _ _ _ _ d_Mo_note_25 (by exact ⟨by rw [an_note, if_pos (by omega)], by rw [nw_note, if_pos (by omega)]; exact h⟩)
    · skip
      refine mk_iloadn (nx := 13) X 2 d_Mo_note_12 rfl rfl ?_
      refine mk_iconst (nx := 14) X d_Mo_note_13 rfl ?_
      refine mk_icmp_lt (tgt := 23) (nx := 17) X d_Mo_note_14 (by omega) (by omega) (by decide) rfl (fun c14 => ?_) (fun c14 => ?_)
      · skip
        refine mk_bipush (nx := 25) X d_Mo_note_23 (by decide) rfl ?_
        exact hret _ _ _ _ d_Mo_note_25 (by exact ⟨by rw [an_note, if_pos (by omega)], by rw [nw_note, if_pos (by omega)]; exact h⟩)
      · skip
        refine mk_iloadn (nx := 18) X 2 d_Mo_note_17 rfl rfl ?_
        refine mk_bipush (nx := 20) X d_Mo_note_18 (by decide) rfl ?_
        refine mk_icmp_le (tgt := 26) (nx := 23) X d_Mo_note_20 (by omega) (by omega) (by decide) rfl (fun c20 => ?_) (fun c20 => ?_)
        · skip
          refine mk_aloadn (nx := 27) X 0 d_Mo_note_26 rfl rfl ?_
          refine mk_get (nx := 30) (v := .int (zi (I 0 2))) X 0 (by decide) (mh_Mo cs ad _) rfl in_Mo 2 (by decide) wd_597 rfl rfl d_Mo_note_27 rfl ?_
          refine mk_bipush (nx := 32) X d_Mo_note_30 (by decide) rfl ?_
          refine mk_icmp_ne (tgt := 38) (nx := 35) X d_Mo_note_32 (by omega) (by omega) (by decide) rfl (fun c32 => ?_) (fun c32 => ?_)
          · skip
            refine mk_aloadn (nx := 39) X 0 d_Mo_note_38 rfl rfl ?_
            refine mk_get (nx := 42) (v := .ref (ad 1)) X 0 (by decide) (mh_Mo cs ad _) rfl in_Mo 0 (by decide) wd_595 rfl rfl d_Mo_note_39 rfl ?_
            refine mk_aloadn (nx := 43) X 0 d_Mo_note_42 rfl rfl ?_
            refine mk_get (nx := 46) (v := .int (zi (I 0 2))) X 0 (by decide) (mh_Mo cs ad _) rfl in_Mo 2 (by decide) wd_597 rfl rfl d_Mo_note_43 rfl ?_
            refine mk_iloadn (nx := 47) X 1 d_Mo_note_46 rfl rfl ?_
            refine mk_iast (nx := 48) (j := (I 0 2).toNat) X 1 0 (by decide) (mh_pitches cs ad) rfl (by omega) (by omega) (by decide) rfl d_Mo_note_47 rfl ?_
            obtain ⟨J1, hJ1⟩ : ∃ z, z = up2 I 1 ((I 0 2).toNat) a := ⟨_, rfl⟩
            refine mk_same hJ1.symm ?_
            have hJ1s : J1 1 ((I 0 2).toNat) = a := hJ1 ▸ up2_ss I 1 ((I 0 2).toNat) a
            have hJ1o : ∀ a b, (a ≠ 1 ∨ b ≠ ((I 0 2).toNat)) → J1 a b = I a b := hJ1 ▸ up2_o I 1 ((I 0 2).toNat) a
            refine mk_aloadn (nx := 49) X 0 d_Mo_note_48 rfl rfl ?_
            refine mk_get (nx := 52) (v := .ref (ad 2)) X 0 (by decide) (mh_Mo cs ad _) rfl in_Mo 1 (by decide) wd_596 rfl rfl d_Mo_note_49 rfl ?_
            refine mk_aloadn (nx := 53) X 0 d_Mo_note_52 rfl rfl ?_
            refine mk_get (nx := 56) (v := .int (zi (J1 0 2))) X 0 (by decide) (mh_Mo cs ad _) rfl in_Mo 2 (by decide) wd_597 rfl rfl d_Mo_note_53 rfl ?_
            rw [show J1 0 2 = I 0 2 from hJ1o 0 2 (Or.inl (by decide))]
            refine mk_iloadn (nx := 57) X 2 d_Mo_note_56 rfl rfl ?_
            refine mk_iast (nx := 58) (j := (I 0 2).toNat) X 2 0 (by decide) (mh_lengths cs ad) rfl (by omega) (by omega) (by decide) rfl d_Mo_note_57 rfl ?_
            obtain ⟨J2, hJ2⟩ : ∃ z, z = up2 J1 2 ((I 0 2).toNat) b := ⟨_, rfl⟩
            refine mk_same hJ2.symm ?_
            have hJ2s : J2 2 ((I 0 2).toNat) = b := hJ2 ▸ up2_ss J1 2 ((I 0 2).toNat) b
            have hJ2o : ∀ a b, (a ≠ 2 ∨ b ≠ ((I 0 2).toNat)) → J2 a b = J1 a b := hJ2 ▸ up2_o J1 2 ((I 0 2).toNat) b
            refine mk_aloadn (nx := 59) X 0 d_Mo_note_58 rfl rfl ?_
            refine mk_dup (nx := 60) X d_Mo_note_59 rfl rfl ?_
            refine mk_get (nx := 63) (v := .int (zi (J2 0 2))) X 0 (by decide) (mh_Mo cs ad _) rfl in_Mo 2 (by decide) wd_597 rfl rfl d_Mo_note_60 rfl ?_
            rw [show J2 0 2 = J1 0 2 from hJ2o 0 2 (Or.inl (by decide))]
            rw [show J1 0 2 = I 0 2 from hJ1o 0 2 (Or.inl (by decide))]
            refine mk_iconst (nx := 64) X d_Mo_note_63 rfl ?_
            refine mk_iadd (nx := 65) X d_Mo_note_64 rfl ?_
            refine mk_putf (nx := 68) (ty := .int) X t_Mo t_Mo_ok n_Mo 0 (by decide) (mh_Mo cs ad _) rfl in_Mo 2 (by decide) wd_597 rfl rfl (by decide +kernel) rfl rfl (Nat.le_of_ble_eq_true rfl) ((mh_Mo cs ad _).trans rfl) d_Mo_note_65 rfl ?_
            obtain ⟨J3, hJ3⟩ : ∃ z, z = up2 J2 0 2 ((I 0 2) + 1) := ⟨_, rfl⟩
            refine mk_same hJ3.symm ?_
            have hJ3s : J3 0 2 = (I 0 2) + 1 := hJ3 ▸ up2_ss J2 0 2 ((I 0 2) + 1)
            have hJ3o : ∀ a b, (a ≠ 0 ∨ b ≠ 2) → J3 a b = J2 a b := hJ3 ▸ up2_o J2 0 2 ((I 0 2) + 1)
            refine mk_aloadn (nx := 69) X 0 d_Mo_note_68 rfl rfl ?_
            refine mk_get (nx := 72) (v := .int (zi (J3 0 2))) X 0 (by decide) (mh_Mo cs ad _) rfl in_Mo 2 (by decide) wd_597 rfl rfl d_Mo_note_69 rfl ?_
            rw [hJ3s]
            refine mk_iconst (nx := 73) X d_Mo_note_72 rfl ?_
            refine mk_isub (nx := 74) X d_Mo_note_73 rfl ?_
            exact hret _ _ _ _ d_Mo_note_74 (by exact ⟨by rw [an_note, if_neg (by omega), if_neg (by omega)]; omega, by rw [nw_note, if_neg (by omega), if_neg (by omega), hJ3, hJ2, hJ1]; rw [i12]; exact mo_s_note h (by omega) (by omega) (by omega) (by omega)⟩)
          · skip
            refine mk_bipush (nx := 37) X d_Mo_note_35 (by decide) rfl ?_
            exact hret _ _ _ _ d_Mo_note_37 (by exact ⟨by rw [an_note, if_neg (by omega), if_pos (by omega)], by rw [nw_note, if_neg (by omega), if_pos (by omega)]; exact h⟩)
        · skip
          refine mk_bipush (nx := 25) X d_Mo_note_23 (by decide) rfl ?_
          exact hret _ _ _ _ d_Mo_note_25 (by exact ⟨by rw [an_note, if_pos (by omega)], by rw [nw_note, if_pos (by omega)]; exact h⟩)

-- CanonMakerModel.pitch(II)I
theorem d_Mo_pitch_0 : decode prog_9_method_3_code 0 = .ok (.iload_n 1, 1) := by decide +kernel
theorem d_Mo_pitch_1 : decode prog_9_method_3_code 1 = .ok (.ifCond .lt 11, 3) := by decide +kernel
theorem d_Mo_pitch_4 : decode prog_9_method_3_code 4 = .ok (.iload_n 1, 1) := by decide +kernel
theorem d_Mo_pitch_5 : decode prog_9_method_3_code 5 = .ok (.aload_n 0, 1) := by decide +kernel
theorem d_Mo_pitch_6 : decode prog_9_method_3_code 6 = .ok (.getfield 66, 3) := by decide +kernel
theorem d_Mo_pitch_9 : decode prog_9_method_3_code 9 = .ok (.if_icmp .lt 5, 3) := by decide +kernel
theorem d_Mo_pitch_12 : decode prog_9_method_3_code 12 = .ok (.iconst (-1), 1) := by decide +kernel
theorem d_Mo_pitch_13 : decode prog_9_method_3_code 13 = .ok (.ireturn, 1) := by decide +kernel
theorem d_Mo_pitch_14 : decode prog_9_method_3_code 14 = .ok (.iload_n 2, 1) := by decide +kernel
theorem d_Mo_pitch_15 : decode prog_9_method_3_code 15 = .ok (.bipush (-2), 2) := by decide +kernel
theorem d_Mo_pitch_17 : decode prog_9_method_3_code 17 = .ok (.if_icmp .lt 9, 3) := by decide +kernel
theorem d_Mo_pitch_20 : decode prog_9_method_3_code 20 = .ok (.iload_n 2, 1) := by decide +kernel
theorem d_Mo_pitch_21 : decode prog_9_method_3_code 21 = .ok (.bipush 127, 2) := by decide +kernel
theorem d_Mo_pitch_23 : decode prog_9_method_3_code 23 = .ok (.if_icmp .le 6, 3) := by decide +kernel
theorem d_Mo_pitch_26 : decode prog_9_method_3_code 26 = .ok (.bipush (-2), 2) := by decide +kernel
theorem d_Mo_pitch_28 : decode prog_9_method_3_code 28 = .ok (.ireturn, 1) := by decide +kernel
theorem d_Mo_pitch_29 : decode prog_9_method_3_code 29 = .ok (.aload_n 0, 1) := by decide +kernel
theorem d_Mo_pitch_30 : decode prog_9_method_3_code 30 = .ok (.getfield 7, 3) := by decide +kernel
theorem d_Mo_pitch_33 : decode prog_9_method_3_code 33 = .ok (.iload_n 1, 1) := by decide +kernel
theorem d_Mo_pitch_34 : decode prog_9_method_3_code 34 = .ok (.iaload, 1) := by decide +kernel
theorem d_Mo_pitch_35 : decode prog_9_method_3_code 35 = .ok (.istore_n 3, 1) := by decide +kernel
theorem d_Mo_pitch_36 : decode prog_9_method_3_code 36 = .ok (.aload_n 0, 1) := by decide +kernel
theorem d_Mo_pitch_37 : decode prog_9_method_3_code 37 = .ok (.getfield 7, 3) := by decide +kernel
theorem d_Mo_pitch_40 : decode prog_9_method_3_code 40 = .ok (.iload_n 1, 1) := by decide +kernel
theorem d_Mo_pitch_41 : decode prog_9_method_3_code 41 = .ok (.iload_n 2, 1) := by decide +kernel
theorem d_Mo_pitch_42 : decode prog_9_method_3_code 42 = .ok (.iastore, 1) := by decide +kernel
theorem d_Mo_pitch_43 : decode prog_9_method_3_code 43 = .ok (.iload_n 3, 1) := by decide +kernel
theorem d_Mo_pitch_44 : decode prog_9_method_3_code 44 = .ok (.ireturn, 1) := by decide +kernel
abbrev rm_Mo_pitch : Room := { frames := 0, cells := 0, slots := 0, locals := 0 }
set_option maxHeartbeats 4000000 in
set_option maxRecDepth 100000 in
theorem c_Mo_pitch (l : Launch) (D : va_G) (cs : Nat → ClassId) (ad : Nat → Nat) (hi : mo_inj ad) (c I : Wo) (h : moR c I) (k : Int) (h_k : -2147483648 ≤ k ∧ k < 2147483648) (a : Int) (h_a : -2147483648 ≤ a ∧ a < 2147483648) : mo_C l D cs ad y_Mo_pitch ws_Mo_pitch rm_Mo_pitch [.ref (ad 0), .int (zi k), .int (zi a)] I (mk_pi (fun r J => r = an_pitch c k a ∧ moR (nw_pitch c k a) J)) := by
  refine mk_meti (own := "CanonMakerModel") (Ts := wA) hi (Nat.le_refl _) (by decide) rfl (fun w h => List.mem_cons_of_mem _ h) rfl (Nat.le_of_ble_eq_true rfl) [(0, .ref (ad 0)), (1, .int (zi k)), (2, .int (zi a))] rfl ?_
  intro p_ e_ s_ m_ as_ bl_ me_ co_ Q_ X hret
  obtain ⟨⟨⟨hn, hN⟩, ⟨hlo, hsc, hbt, hru, hrd, hst⟩, ⟨hV, hV0⟩, ⟨hfc, hF⟩⟩, ⟨i12, iN⟩, ⟨⟨i50, i51, i52, i53, i54⟩, i07, i09⟩, iV, ⟨i010, iF⟩⟩ := id h
  refine mk_iloadn (nx := 1) X 1 d_Mo_pitch_0 rfl rfl ?_
  refine mk_if_lt (tgt := 12) (nx := 4) X d_Mo_pitch_1 (by omega) (by decide) rfl (fun c1 => ?_) (fun c1 => ?_)
  · skip
    refine mk_iconst (nx := 13) X d_Mo_pitch_12 rfl ?_
    exact hret _ _ _ _ d_Mo_pitch_13 (by exact ⟨by rw [an_pitch, if_pos (by omega)], by rw [nw_pitch, if_pos (by omega)]; exact h⟩)
  · skip
    refine mk_iloadn (nx := 5) X 1 d_Mo_pitch_4 rfl rfl ?_
    refine mk_aloadn (nx := 6) X 0 d_Mo_pitch_5 rfl rfl ?_
    refine mk_get (nx := 9) (v := .int (zi (I 0 2))) X 0 (by decide) (mh_Mo cs ad _) rfl in_Mo 2 (by decide) wd_597 rfl rfl d_Mo_pitch_6 rfl ?_
    refine mk_icmp_lt (tgt := 14) (nx := 12) X d_Mo_pitch_9 (by omega) (by omega) (by decide) rfl (fun c9 => ?_) (fun c9 => ?_)
    · skip
      refine mk_iloadn (nx := 15) X 2 d_Mo_pitch_14 rfl rfl ?_
      refine mk_bipush (nx := 17) X d_Mo_pitch_15 (by decide) rfl ?_
      refine mk_icmp_lt (tgt := 26) (nx := 20) X d_Mo_pitch_17 (by omega) (by omega) (by decide) rfl (fun c17 => ?_) (fun c17 => ?_)
      · skip
        refine mk_bipush (nx := 28) X d_Mo_pitch_26 (by decide) rfl ?_
        exact hret _ _ _ _ d_Mo_pitch_28 (by exact ⟨by rw [an_pitch, if_neg (by omega), if_pos (by omega)], by rw [nw_pitch, if_neg (by omega), if_pos (by omega)]; exact h⟩)
      · skip
        refine mk_iloadn (nx := 21) X 2 d_Mo_pitch_20 rfl rfl ?_
        refine mk_bipush (nx := 23) X d_Mo_pitch_21 (by decide) rfl ?_
        refine mk_icmp_le (tgt := 29) (nx := 26) X d_Mo_pitch_23 (by omega) (by omega) (by decide) rfl (fun c23 => ?_) (fun c23 => ?_)
        · skip
          refine mk_aloadn (nx := 30) X 0 d_Mo_pitch_29 rfl rfl ?_
          refine mk_get (nx := 33) (v := .ref (ad 1)) X 0 (by decide) (mh_Mo cs ad _) rfl in_Mo 0 (by decide) wd_595 rfl rfl d_Mo_pitch_30 rfl ?_
          refine mk_iloadn (nx := 34) X 1 d_Mo_pitch_33 rfl rfl ?_
          refine mk_iald (nx := 35) (j := k.toNat) X 1 0 (by decide) (mh_pitches cs ad _) rfl (by omega) (by omega) (by decide) rfl d_Mo_pitch_34 rfl ?_
          refine mk_istoren (nx := 36) X [(3, .int (zi (I 1 k.toNat))), (0, .ref (ad 0)), (1, .int (zi k)), (2, .int (zi a))] d_Mo_pitch_35 (by decide) rfl rfl ?_
          refine mk_aloadn (nx := 37) X 1 d_Mo_pitch_36 rfl rfl ?_
          refine mk_get (nx := 40) (v := .ref (ad 1)) X 0 (by decide) (mh_Mo cs ad _) rfl in_Mo 0 (by decide) wd_595 rfl rfl d_Mo_pitch_37 rfl ?_
          refine mk_iloadn (nx := 41) X 2 d_Mo_pitch_40 rfl rfl ?_
          refine mk_iloadn (nx := 42) X 3 d_Mo_pitch_41 rfl rfl ?_
          refine mk_iast (nx := 43) (j := k.toNat) X 1 0 (by decide) (mh_pitches cs ad) rfl (by omega) (by omega) (by decide) rfl d_Mo_pitch_42 rfl ?_
          obtain ⟨J1, hJ1⟩ : ∃ z, z = up2 I 1 k.toNat a := ⟨_, rfl⟩
          refine mk_same hJ1.symm ?_
          have hJ1s : J1 1 k.toNat = a := hJ1 ▸ up2_ss I 1 k.toNat a
          have hJ1o : ∀ a b, (a ≠ 1 ∨ b ≠ k.toNat) → J1 a b = I a b := hJ1 ▸ up2_o I 1 k.toNat a
          refine mk_iloadn (nx := 44) X 0 d_Mo_pitch_43 rfl rfl ?_
          exact hret _ _ _ _ d_Mo_pitch_44 (by exact ⟨by rw [an_pitch, if_neg (by omega), if_neg (by omega)]; exact (iN k.toNat (by omega)).1, by rw [nw_pitch, if_neg (by omega), if_neg (by omega), hJ1]; exact mo_s_pitch h (by omega) (by omega)⟩)
        · skip
          refine mk_bipush (nx := 28) X d_Mo_pitch_26 (by decide) rfl ?_
          exact hret _ _ _ _ d_Mo_pitch_28 (by exact ⟨by rw [an_pitch, if_neg (by omega), if_pos (by omega)], by rw [nw_pitch, if_neg (by omega), if_pos (by omega)]; exact h⟩)
    · skip
      refine mk_iconst (nx := 13) X d_Mo_pitch_12 rfl ?_
      exact hret _ _ _ _ d_Mo_pitch_13 (by exact ⟨by rw [an_pitch, if_pos (by omega)], by rw [nw_pitch, if_pos (by omega)]; exact h⟩)

-- CanonMakerModel.told(II)I
theorem d_Mo_told_0 : decode prog_9_method_4_code 0 = .ok (.iload_n 1, 1) := by decide +kernel
theorem d_Mo_told_1 : decode prog_9_method_4_code 1 = .ok (.ifCond .lt 11, 3) := by decide +kernel
theorem d_Mo_told_4 : decode prog_9_method_4_code 4 = .ok (.iload_n 1, 1) := by decide +kernel
theorem d_Mo_told_5 : decode prog_9_method_4_code 5 = .ok (.aload_n 0, 1) := by decide +kernel
theorem d_Mo_told_6 : decode prog_9_method_4_code 6 = .ok (.getfield 66, 3) := by decide +kernel
theorem d_Mo_told_9 : decode prog_9_method_4_code 9 = .ok (.if_icmp .lt 7, 3) := by decide +kernel
theorem d_Mo_told_12 : decode prog_9_method_4_code 12 = .ok (.iconst (-1), 1) := by decide +kernel
theorem d_Mo_told_13 : decode prog_9_method_4_code 13 = .ok (.goto 32, 3) := by decide +kernel
theorem d_Mo_told_16 : decode prog_9_method_4_code 16 = .ok (.iload_n 2, 1) := by decide +kernel
theorem d_Mo_told_17 : decode prog_9_method_4_code 17 = .ok (.ifCond .ne 12, 3) := by decide +kernel
theorem d_Mo_told_20 : decode prog_9_method_4_code 20 = .ok (.aload_n 0, 1) := by decide +kernel
theorem d_Mo_told_21 : decode prog_9_method_4_code 21 = .ok (.getfield 7, 3) := by decide +kernel
theorem d_Mo_told_24 : decode prog_9_method_4_code 24 = .ok (.iload_n 1, 1) := by decide +kernel
theorem d_Mo_told_25 : decode prog_9_method_4_code 25 = .ok (.iaload, 1) := by decide +kernel
theorem d_Mo_told_26 : decode prog_9_method_4_code 26 = .ok (.goto 19, 3) := by decide +kernel
theorem d_Mo_told_29 : decode prog_9_method_4_code 29 = .ok (.iload_n 2, 1) := by decide +kernel
theorem d_Mo_told_30 : decode prog_9_method_4_code 30 = .ok (.iconst 1, 1) := by decide +kernel
theorem d_Mo_told_31 : decode prog_9_method_4_code 31 = .ok (.if_icmp .ne 12, 3) := by decide +kernel
theorem d_Mo_told_34 : decode prog_9_method_4_code 34 = .ok (.aload_n 0, 1) := by decide +kernel
theorem d_Mo_told_35 : decode prog_9_method_4_code 35 = .ok (.getfield 13, 3) := by decide +kernel
theorem d_Mo_told_38 : decode prog_9_method_4_code 38 = .ok (.iload_n 1, 1) := by decide +kernel
theorem d_Mo_told_39 : decode prog_9_method_4_code 39 = .ok (.iaload, 1) := by decide +kernel
theorem d_Mo_told_40 : decode prog_9_method_4_code 40 = .ok (.goto 5, 3) := by decide +kernel
theorem d_Mo_told_43 : decode prog_9_method_4_code 43 = .ok (.bipush (-2), 2) := by decide +kernel
theorem d_Mo_told_45 : decode prog_9_method_4_code 45 = .ok (.ireturn, 1) := by decide +kernel
abbrev rm_Mo_told : Room := { frames := 0, cells := 0, slots := 0, locals := 0 }
set_option maxHeartbeats 4000000 in
set_option maxRecDepth 100000 in
theorem c_Mo_told (l : Launch) (D : va_G) (cs : Nat → ClassId) (ad : Nat → Nat) (hi : mo_inj ad) (c I : Wo) (h : moR c I) (k : Int) (h_k : -2147483648 ≤ k ∧ k < 2147483648) (w : Int) (h_w : -2147483648 ≤ w ∧ w < 2147483648) : mo_C l D cs ad y_Mo_told ws_Mo_told rm_Mo_told [.ref (ad 0), .int (zi k), .int (zi w)] I (mk_pi (fun r J => r = an_told c k w ∧ moR c J)) := by
  refine mk_meti (own := "CanonMakerModel") (Ts := wA) hi (Nat.le_refl _) (by decide) rfl (fun w h => List.mem_cons_of_mem _ h) rfl (Nat.le_of_ble_eq_true rfl) [(0, .ref (ad 0)), (1, .int (zi k)), (2, .int (zi w))] rfl ?_
  intro p_ e_ s_ m_ as_ bl_ me_ co_ Q_ X hret
  obtain ⟨⟨⟨hn, hN⟩, ⟨hlo, hsc, hbt, hru, hrd, hst⟩, ⟨hV, hV0⟩, ⟨hfc, hF⟩⟩, ⟨i12, iN⟩, ⟨⟨i50, i51, i52, i53, i54⟩, i07, i09⟩, iV, ⟨i010, iF⟩⟩ := id h
  refine mk_iloadn (nx := 1) X 1 d_Mo_told_0 rfl rfl ?_
  refine mk_if_lt (tgt := 12) (nx := 4) X d_Mo_told_1 (by omega) (by decide) rfl (fun c1 => ?_) (fun c1 => ?_)
  · skip
    refine mk_iconst (nx := 13) X d_Mo_told_12 rfl ?_
    refine mk_goto (tgt := 45) X d_Mo_told_13 (by decide) ?_
    exact hret _ _ _ _ d_Mo_told_45 (by first | exact ⟨by rw [an_told, if_pos (by omega)], h⟩ | exact ⟨by rw [an_told, if_neg (by omega), if_pos (by omega)]; exact (iN k.toNat (by omega)).1, h⟩ | exact ⟨by rw [an_told, if_neg (by omega), if_neg (by omega), if_pos (by omega)]; exact (iN k.toNat (by omega)).2, h⟩ | exact ⟨by rw [an_told, if_neg (by omega), if_neg (by omega), if_neg (by omega)], h⟩)
  · skip
    refine mk_iloadn (nx := 5) X 1 d_Mo_told_4 rfl rfl ?_
    refine mk_aloadn (nx := 6) X 0 d_Mo_told_5 rfl rfl ?_
    refine mk_get (nx := 9) (v := .int (zi (I 0 2))) X 0 (by decide) (mh_Mo cs ad _) rfl in_Mo 2 (by decide) wd_597 rfl rfl d_Mo_told_6 rfl ?_
    refine mk_icmp_lt (tgt := 16) (nx := 12) X d_Mo_told_9 (by omega) (by omega) (by decide) rfl (fun c9 => ?_) (fun c9 => ?_)
    · skip
      refine mk_iloadn (nx := 17) X 2 d_Mo_told_16 rfl rfl ?_
      refine mk_if_ne (tgt := 29) (nx := 20) X d_Mo_told_17 (by omega) (by decide) rfl (fun c17 => ?_) (fun c17 => ?_)
      · skip
        refine mk_iloadn (nx := 30) X 2 d_Mo_told_29 rfl rfl ?_
        refine mk_iconst (nx := 31) X d_Mo_told_30 rfl ?_
        refine mk_icmp_ne (tgt := 43) (nx := 34) X d_Mo_told_31 (by omega) (by omega) (by decide) rfl (fun c31 => ?_) (fun c31 => ?_)
        · skip
          refine mk_bipush (nx := 45) X d_Mo_told_43 (by decide) rfl ?_
          exact hret _ _ _ _ d_Mo_told_45 (by first | exact ⟨by rw [an_told, if_pos (by omega)], h⟩ | exact ⟨by rw [an_told, if_neg (by omega), if_pos (by omega)]; exact (iN k.toNat (by omega)).1, h⟩ | exact ⟨by rw [an_told, if_neg (by omega), if_neg (by omega), if_pos (by omega)]; exact (iN k.toNat (by omega)).2, h⟩ | exact ⟨by rw [an_told, if_neg (by omega), if_neg (by omega), if_neg (by omega)], h⟩)
        · skip
          refine mk_aloadn (nx := 35) X 0 d_Mo_told_34 rfl rfl ?_
          refine mk_get (nx := 38) (v := .ref (ad 2)) X 0 (by decide) (mh_Mo cs ad _) rfl in_Mo 1 (by decide) wd_596 rfl rfl d_Mo_told_35 rfl ?_
          refine mk_iloadn (nx := 39) X 1 d_Mo_told_38 rfl rfl ?_
          refine mk_iald (nx := 40) (j := k.toNat) X 2 0 (by decide) (mh_lengths cs ad _) rfl (by omega) (by omega) (by decide) rfl d_Mo_told_39 rfl ?_
          refine mk_goto (tgt := 45) X d_Mo_told_40 (by decide) ?_
          exact hret _ _ _ _ d_Mo_told_45 (by first | exact ⟨by rw [an_told, if_pos (by omega)], h⟩ | exact ⟨by rw [an_told, if_neg (by omega), if_pos (by omega)]; exact (iN k.toNat (by omega)).1, h⟩ | exact ⟨by rw [an_told, if_neg (by omega), if_neg (by omega), if_pos (by omega)]; exact (iN k.toNat (by omega)).2, h⟩ | exact ⟨by rw [an_told, if_neg (by omega), if_neg (by omega), if_neg (by omega)], h⟩)
      · skip
        refine mk_aloadn (nx := 21) X 0 d_Mo_told_20 rfl rfl ?_
        refine mk_get (nx := 24) (v := .ref (ad 1)) X 0 (by decide) (mh_Mo cs ad _) rfl in_Mo 0 (by decide) wd_595 rfl rfl d_Mo_told_21 rfl ?_
        refine mk_iloadn (nx := 25) X 1 d_Mo_told_24 rfl rfl ?_
        refine mk_iald (nx := 26) (j := k.toNat) X 1 0 (by decide) (mh_pitches cs ad _) rfl (by omega) (by omega) (by decide) rfl d_Mo_told_25 rfl ?_
        refine mk_goto (tgt := 45) X d_Mo_told_26 (by decide) ?_
        exact hret _ _ _ _ d_Mo_told_45 (by first | exact ⟨by rw [an_told, if_pos (by omega)], h⟩ | exact ⟨by rw [an_told, if_neg (by omega), if_pos (by omega)]; exact (iN k.toNat (by omega)).1, h⟩ | exact ⟨by rw [an_told, if_neg (by omega), if_neg (by omega), if_pos (by omega)]; exact (iN k.toNat (by omega)).2, h⟩ | exact ⟨by rw [an_told, if_neg (by omega), if_neg (by omega), if_neg (by omega)], h⟩)
    · skip
      refine mk_iconst (nx := 13) X d_Mo_told_12 rfl ?_
      refine mk_goto (tgt := 45) X d_Mo_told_13 (by decide) ?_
      exact hret _ _ _ _ d_Mo_told_45 (by first | exact ⟨by rw [an_told, if_pos (by omega)], h⟩ | exact ⟨by rw [an_told, if_neg (by omega), if_pos (by omega)]; exact (iN k.toNat (by omega)).1, h⟩ | exact ⟨by rw [an_told, if_neg (by omega), if_neg (by omega), if_pos (by omega)]; exact (iN k.toNat (by omega)).2, h⟩ | exact ⟨by rw [an_told, if_neg (by omega), if_neg (by omega), if_neg (by omega)], h⟩)

-- CanonMakerModel.cut(I)I
theorem d_Mo_cut_0 : decode prog_9_method_5_code 0 = .ok (.iload_n 1, 1) := by decide +kernel
theorem d_Mo_cut_1 : decode prog_9_method_5_code 1 = .ok (.ifCond .lt 11, 3) := by decide +kernel
theorem d_Mo_cut_4 : decode prog_9_method_5_code 4 = .ok (.iload_n 1, 1) := by decide +kernel
theorem d_Mo_cut_5 : decode prog_9_method_5_code 5 = .ok (.aload_n 0, 1) := by decide +kernel
theorem d_Mo_cut_6 : decode prog_9_method_5_code 6 = .ok (.getfield 66, 3) := by decide +kernel
theorem d_Mo_cut_9 : decode prog_9_method_5_code 9 = .ok (.if_icmp .le 6, 3) := by decide +kernel
theorem d_Mo_cut_12 : decode prog_9_method_5_code 12 = .ok (.bipush (-2), 2) := by decide +kernel
theorem d_Mo_cut_14 : decode prog_9_method_5_code 14 = .ok (.ireturn, 1) := by decide +kernel
theorem d_Mo_cut_15 : decode prog_9_method_5_code 15 = .ok (.aload_n 0, 1) := by decide +kernel
theorem d_Mo_cut_16 : decode prog_9_method_5_code 16 = .ok (.getfield 66, 3) := by decide +kernel
theorem d_Mo_cut_19 : decode prog_9_method_5_code 19 = .ok (.istore_n 2, 1) := by decide +kernel
theorem d_Mo_cut_20 : decode prog_9_method_5_code 20 = .ok (.aload_n 0, 1) := by decide +kernel
theorem d_Mo_cut_21 : decode prog_9_method_5_code 21 = .ok (.iload_n 1, 1) := by decide +kernel
theorem d_Mo_cut_22 : decode prog_9_method_5_code 22 = .ok (.putfield 66, 3) := by decide +kernel
theorem d_Mo_cut_25 : decode prog_9_method_5_code 25 = .ok (.iload_n 2, 1) := by decide +kernel
theorem d_Mo_cut_26 : decode prog_9_method_5_code 26 = .ok (.ireturn, 1) := by decide +kernel
abbrev rm_Mo_cut : Room := { frames := 0, cells := 0, slots := 0, locals := 0 }
set_option maxHeartbeats 4000000 in
set_option maxRecDepth 100000 in
theorem c_Mo_cut (l : Launch) (D : va_G) (cs : Nat → ClassId) (ad : Nat → Nat) (hi : mo_inj ad) (c I : Wo) (h : moR c I) (n : Int) (h_n : -2147483648 ≤ n ∧ n < 2147483648) : mo_C l D cs ad y_Mo_cut ws_Mo_cut rm_Mo_cut [.ref (ad 0), .int (zi n)] I (mk_pi (fun r J => r = an_cut c n ∧ moR (nw_cut c n) J)) := by
  refine mk_meti (own := "CanonMakerModel") (Ts := wA) hi (Nat.le_refl _) (by decide) rfl (fun w h => List.mem_cons_of_mem _ h) rfl (Nat.le_of_ble_eq_true rfl) [(0, .ref (ad 0)), (1, .int (zi n))] rfl ?_
  intro p_ e_ s_ m_ as_ bl_ me_ co_ Q_ X hret
  obtain ⟨⟨⟨hn, hN⟩, ⟨hlo, hsc, hbt, hru, hrd, hst⟩, ⟨hV, hV0⟩, ⟨hfc, hF⟩⟩, ⟨i12, iN⟩, ⟨⟨i50, i51, i52, i53, i54⟩, i07, i09⟩, iV, ⟨i010, iF⟩⟩ := id h
  refine mk_iloadn (nx := 1) X 1 d_Mo_cut_0 rfl rfl ?_
  refine mk_if_lt (tgt := 12) (nx := 4) X d_Mo_cut_1 (by omega) (by decide) rfl (fun c1 => ?_) (fun c1 => ?_)
  · skip
    refine mk_bipush (nx := 14) X d_Mo_cut_12 (by decide) rfl ?_
    exact hret _ _ _ _ d_Mo_cut_14 (by exact ⟨by rw [an_cut, if_pos (by omega)], by rw [nw_cut, if_pos (by omega)]; exact h⟩)
  · skip
    refine mk_iloadn (nx := 5) X 1 d_Mo_cut_4 rfl rfl ?_
    refine mk_aloadn (nx := 6) X 0 d_Mo_cut_5 rfl rfl ?_
    refine mk_get (nx := 9) (v := .int (zi (I 0 2))) X 0 (by decide) (mh_Mo cs ad _) rfl in_Mo 2 (by decide) wd_597 rfl rfl d_Mo_cut_6 rfl ?_
    refine mk_icmp_le (tgt := 15) (nx := 12) X d_Mo_cut_9 (by omega) (by omega) (by decide) rfl (fun c9 => ?_) (fun c9 => ?_)
    · skip
      refine mk_aloadn (nx := 16) X 0 d_Mo_cut_15 rfl rfl ?_
      refine mk_get (nx := 19) (v := .int (zi (I 0 2))) X 0 (by decide) (mh_Mo cs ad _) rfl in_Mo 2 (by decide) wd_597 rfl rfl d_Mo_cut_16 rfl ?_
      refine mk_istoren (nx := 20) X [(2, .int (zi (I 0 2))), (0, .ref (ad 0)), (1, .int (zi n))] d_Mo_cut_19 (by decide) rfl rfl ?_
      refine mk_aloadn (nx := 21) X 1 d_Mo_cut_20 rfl rfl ?_
      refine mk_iloadn (nx := 22) X 2 d_Mo_cut_21 rfl rfl ?_
      refine mk_putf (nx := 25) (ty := .int) X t_Mo t_Mo_ok n_Mo 0 (by decide) (mh_Mo cs ad _) rfl in_Mo 2 (by decide) wd_597 rfl rfl (by decide +kernel) rfl rfl (Nat.le_of_ble_eq_true rfl) ((mh_Mo cs ad _).trans rfl) d_Mo_cut_22 rfl ?_
      obtain ⟨J1, hJ1⟩ : ∃ z, z = up2 I 0 2 n := ⟨_, rfl⟩
      refine mk_same hJ1.symm ?_
      have hJ1s : J1 0 2 = n := hJ1 ▸ up2_ss I 0 2 n
      have hJ1o : ∀ a b, (a ≠ 0 ∨ b ≠ 2) → J1 a b = I a b := hJ1 ▸ up2_o I 0 2 n
      refine mk_iloadn (nx := 26) X 0 d_Mo_cut_25 rfl rfl ?_
      exact hret _ _ _ _ d_Mo_cut_26 (by exact ⟨by rw [an_cut, if_neg (by omega)]; omega, by rw [nw_cut, if_neg (by omega), hJ1]; exact mo_s_cut h (by omega)⟩)
    · skip
      refine mk_bipush (nx := 14) X d_Mo_cut_12 (by decide) rfl ?_
      exact hret _ _ _ _ d_Mo_cut_14 (by exact ⟨by rw [an_cut, if_pos (by omega)], by rw [nw_cut, if_pos (by omega)]; exact h⟩)

-- CanonMakerModel.size()I
theorem d_Mo_size_0 : decode prog_9_method_6_code 0 = .ok (.iconst 0, 1) := by decide +kernel
theorem d_Mo_size_1 : decode prog_9_method_6_code 1 = .ok (.istore_n 1, 1) := by decide +kernel
theorem d_Mo_size_2 : decode prog_9_method_6_code 2 = .ok (.iconst 0, 1) := by decide +kernel
theorem d_Mo_size_3 : decode prog_9_method_6_code 3 = .ok (.istore_n 2, 1) := by decide +kernel
theorem d_Mo_size_4 : decode prog_9_method_6_code 4 = .ok (.iload_n 2, 1) := by decide +kernel
theorem d_Mo_size_5 : decode prog_9_method_6_code 5 = .ok (.aload_n 0, 1) := by decide +kernel
theorem d_Mo_size_6 : decode prog_9_method_6_code 6 = .ok (.getfield 66, 3) := by decide +kernel
theorem d_Mo_size_9 : decode prog_9_method_6_code 9 = .ok (.if_icmp .ge 18, 3) := by decide +kernel
theorem d_Mo_size_12 : decode prog_9_method_6_code 12 = .ok (.iload_n 1, 1) := by decide +kernel
theorem d_Mo_size_13 : decode prog_9_method_6_code 13 = .ok (.aload_n 0, 1) := by decide +kernel
theorem d_Mo_size_14 : decode prog_9_method_6_code 14 = .ok (.getfield 13, 3) := by decide +kernel
theorem d_Mo_size_17 : decode prog_9_method_6_code 17 = .ok (.iload_n 2, 1) := by decide +kernel
theorem d_Mo_size_18 : decode prog_9_method_6_code 18 = .ok (.iaload, 1) := by decide +kernel
theorem d_Mo_size_19 : decode prog_9_method_6_code 19 = .ok (.iadd, 1) := by decide +kernel
theorem d_Mo_size_20 : decode prog_9_method_6_code 20 = .ok (.istore_n 1, 1) := by decide +kernel
theorem d_Mo_size_21 : decode prog_9_method_6_code 21 = .ok (.iinc 2 1, 3) := by decide +kernel
theorem d_Mo_size_24 : decode prog_9_method_6_code 24 = .ok (.goto (-20), 3) := by decide +kernel
theorem d_Mo_size_27 : decode prog_9_method_6_code 27 = .ok (.iload_n 1, 1) := by decide +kernel
theorem d_Mo_size_28 : decode prog_9_method_6_code 28 = .ok (.ireturn, 1) := by decide +kernel
abbrev rm_Mo_size : Room := { frames := 0, cells := 0, slots := 0, locals := 0 }
set_option maxHeartbeats 4000000 in
set_option maxRecDepth 100000 in
theorem c_Mo_size (l : Launch) (D : va_G) (cs : Nat → ClassId) (ad : Nat → Nat) (hi : mo_inj ad) (c I : Wo) (h : moR c I) : mo_C l D cs ad y_Mo_size ws_Mo_size rm_Mo_size [.ref (ad 0)] I (mk_pi (fun r J => I = J ∧ r = an_size c)) := by
  refine mk_meti (own := "CanonMakerModel") (Ts := wA) hi (Nat.le_refl _) (by decide) rfl (fun w h => List.mem_cons_of_mem _ h) rfl (Nat.le_of_ble_eq_true rfl) [(0, .ref (ad 0))] rfl ?_
  intro p_ e_ s_ m_ as_ bl_ me_ co_ Q_ X hret
  obtain ⟨⟨⟨hn, hN⟩, ⟨hlo, hsc, hbt, hru, hrd, hst⟩, ⟨hV, hV0⟩, ⟨hfc, hF⟩⟩, ⟨i12, iN⟩, ⟨⟨i50, i51, i52, i53, i54⟩, i07, i09⟩, iV, ⟨i010, iF⟩⟩ := id h
  have L4 : ∀ nf : Nat, ∀ (k : Nat), ((k : Int) ≤ c 0 0) → 24 - k < nf → mk_A p_ l e_ rm_Mo_size s_ m_ as_ bl_ me_ co_ Q_ 3 D cmcl (mo_sh cs ad) 16 16 ad I [(0, .ref (ad 0)), (1, .int (zi (usum (c 2) k))), (2, .int (zi (k : Int)))] 4 [] := by
    intro nf
    induction nf with
    | zero => intro k hk hn; exact absurd hn (Nat.not_lt_zero _)
    | succ nf ih4 =>
      intro k hk hn4
      have hb := usum_b (f := c 2) (n := k) (fun j hj => (hN j (by omega)).2)
      refine mk_iloadn (nx := 5) X 2 d_Mo_size_4 rfl rfl ?_
      refine mk_aloadn (nx := 6) X 0 d_Mo_size_5 rfl rfl ?_
      refine mk_get (nx := 9) (v := .int (zi (I 0 2))) X 0 (by decide) (mh_Mo cs ad _) rfl in_Mo 2 (by decide) wd_597 rfl rfl d_Mo_size_6 rfl ?_
      refine mk_icmp_ge (tgt := 27) (nx := 12) X d_Mo_size_9 (by omega) (by omega) (by decide) rfl (fun c9 => ?_) (fun c9 => ?_)
      · skip
        refine mk_iloadn (nx := 28) X 1 d_Mo_size_27 rfl rfl ?_
        exact hret _ _ _ _ d_Mo_size_28 (by exact ⟨rfl, by rw [show k = (c 0 0).toNat by omega]; rfl⟩)
      · skip
        refine mk_iloadn (nx := 13) X 1 d_Mo_size_12 rfl rfl ?_
        refine mk_aloadn (nx := 14) X 0 d_Mo_size_13 rfl rfl ?_
        refine mk_get (nx := 17) (v := .ref (ad 2)) X 0 (by decide) (mh_Mo cs ad _) rfl in_Mo 1 (by decide) wd_596 rfl rfl d_Mo_size_14 rfl ?_
        refine mk_iloadn (nx := 18) X 2 d_Mo_size_17 rfl rfl ?_
        refine mk_iald (nx := 19) (j := k) X 2 0 (by decide) (mh_lengths cs ad _) rfl (by omega) (by omega) (by decide) rfl d_Mo_size_18 rfl ?_
        rw [show I 2 k = c 2 k from (iN k (by omega)).2]
        refine mk_iadd (nx := 20) X d_Mo_size_19 rfl ?_
        refine mk_istoren (nx := 21) X [(1, .int (zi ((usum (c 2) k) + (c 2 k)))), (0, .ref (ad 0)), (2, .int (zi (k : Int)))] d_Mo_size_20 (by decide) rfl rfl ?_
        refine mk_iinc (nx := 24) X 2 [(2, .int (zi ((k : Int) + 1))), (1, .int (zi ((usum (c 2) k) + (c 2 k)))), (0, .ref (ad 0))] d_Mo_size_21 rfl (by decide) rfl rfl ?_
        refine mk_goto (tgt := 4) X d_Mo_size_24 (by decide) ?_
        refine mk_lv [2, 1, 0] rfl ?_
        exact ih4 (k + 1) (by omega) (by omega)
  refine mk_iconst (nx := 1) X d_Mo_size_0 rfl ?_
  refine mk_istoren (nx := 2) X [(1, .int (zi 0)), (0, .ref (ad 0))] d_Mo_size_1 (by decide) rfl rfl ?_
  refine mk_iconst (nx := 3) X d_Mo_size_2 rfl ?_
  refine mk_istoren (nx := 4) X [(2, .int (zi 0)), (1, .int (zi 0)), (0, .ref (ad 0))] d_Mo_size_3 (by decide) rfl rfl ?_
  refine mk_lv [2, 1, 0] rfl ?_
  exact L4 _ 0 (by omega) (Nat.lt_succ_self _)

-- CanonMakerModel.voice(IIIII)I
theorem d_Mo_voice_0 : decode prog_9_method_7_code 0 = .ok (.iload_n 1, 1) := by decide +kernel
theorem d_Mo_voice_1 : decode prog_9_method_7_code 1 = .ok (.iconst 1, 1) := by decide +kernel
theorem d_Mo_voice_2 : decode prog_9_method_7_code 2 = .ok (.if_icmp .lt 8, 3) := by decide +kernel
theorem d_Mo_voice_5 : decode prog_9_method_7_code 5 = .ok (.iload_n 1, 1) := by decide +kernel
theorem d_Mo_voice_6 : decode prog_9_method_7_code 6 = .ok (.iconst 3, 1) := by decide +kernel
theorem d_Mo_voice_7 : decode prog_9_method_7_code 7 = .ok (.if_icmp .le 5, 3) := by decide +kernel
theorem d_Mo_voice_10 : decode prog_9_method_7_code 10 = .ok (.iconst (-1), 1) := by decide +kernel
theorem d_Mo_voice_11 : decode prog_9_method_7_code 11 = .ok (.ireturn, 1) := by decide +kernel
theorem d_Mo_voice_12 : decode prog_9_method_7_code 12 = .ok (.iload_n 2, 1) := by decide +kernel
theorem d_Mo_voice_13 : decode prog_9_method_7_code 13 = .ok (.ifCond .lt 44, 3) := by decide +kernel
theorem d_Mo_voice_16 : decode prog_9_method_7_code 16 = .ok (.iload_n 2, 1) := by decide +kernel
theorem d_Mo_voice_17 : decode prog_9_method_7_code 17 = .ok (.bipush 100, 2) := by decide +kernel
theorem d_Mo_voice_19 : decode prog_9_method_7_code 19 = .ok (.if_icmp .gt 38, 3) := by decide +kernel
theorem d_Mo_voice_22 : decode prog_9_method_7_code 22 = .ok (.iload_n 3, 1) := by decide +kernel
theorem d_Mo_voice_23 : decode prog_9_method_7_code 23 = .ok (.bipush (-24), 2) := by decide +kernel
theorem d_Mo_voice_25 : decode prog_9_method_7_code 25 = .ok (.if_icmp .lt 32, 3) := by decide +kernel
theorem d_Mo_voice_28 : decode prog_9_method_7_code 28 = .ok (.iload_n 3, 1) := by decide +kernel
theorem d_Mo_voice_29 : decode prog_9_method_7_code 29 = .ok (.bipush 24, 2) := by decide +kernel
theorem d_Mo_voice_31 : decode prog_9_method_7_code 31 = .ok (.if_icmp .gt 26, 3) := by decide +kernel
theorem d_Mo_voice_34 : decode prog_9_method_7_code 34 = .ok (.iload 4, 2) := by decide +kernel
theorem d_Mo_voice_36 : decode prog_9_method_7_code 36 = .ok (.ifCond .lt 21, 3) := by decide +kernel
theorem d_Mo_voice_39 : decode prog_9_method_7_code 39 = .ok (.iload 4, 2) := by decide +kernel
theorem d_Mo_voice_41 : decode prog_9_method_7_code 41 = .ok (.iconst 3, 1) := by decide +kernel
theorem d_Mo_voice_42 : decode prog_9_method_7_code 42 = .ok (.if_icmp .gt 15, 3) := by decide +kernel
theorem d_Mo_voice_45 : decode prog_9_method_7_code 45 = .ok (.iload 5, 2) := by decide +kernel
theorem d_Mo_voice_47 : decode prog_9_method_7_code 47 = .ok (.iconst 1, 1) := by decide +kernel
theorem d_Mo_voice_48 : decode prog_9_method_7_code 48 = .ok (.if_icmp .lt 9, 3) := by decide +kernel
theorem d_Mo_voice_51 : decode prog_9_method_7_code 51 = .ok (.iload 5, 2) := by decide +kernel
theorem d_Mo_voice_53 : decode prog_9_method_7_code 53 = .ok (.iconst 3, 1) := by decide +kernel
theorem d_Mo_voice_54 : decode prog_9_method_7_code 54 = .ok (.if_icmp .le 6, 3) := by decide +kernel
theorem d_Mo_voice_57 : decode prog_9_method_7_code 57 = .ok (.bipush (-2), 2) := by decide +kernel
theorem d_Mo_voice_59 : decode prog_9_method_7_code 59 = .ok (.ireturn, 1) := by decide +kernel
theorem d_Mo_voice_60 : decode prog_9_method_7_code 60 = .ok (.aload_n 0, 1) := by decide +kernel
theorem d_Mo_voice_61 : decode prog_9_method_7_code 61 = .ok (.getfield 16, 3) := by decide +kernel
theorem d_Mo_voice_64 : decode prog_9_method_7_code 64 = .ok (.iload_n 1, 1) := by decide +kernel
theorem d_Mo_voice_65 : decode prog_9_method_7_code 65 = .ok (.iconst 1, 1) := by decide +kernel
theorem d_Mo_voice_66 : decode prog_9_method_7_code 66 = .ok (.bastore, 1) := by decide +kernel
theorem d_Mo_voice_67 : decode prog_9_method_7_code 67 = .ok (.aload_n 0, 1) := by decide +kernel
theorem d_Mo_voice_68 : decode prog_9_method_7_code 68 = .ok (.getfield 20, 3) := by decide +kernel
theorem d_Mo_voice_71 : decode prog_9_method_7_code 71 = .ok (.iload_n 1, 1) := by decide +kernel
theorem d_Mo_voice_72 : decode prog_9_method_7_code 72 = .ok (.iload_n 2, 1) := by decide +kernel
theorem d_Mo_voice_73 : decode prog_9_method_7_code 73 = .ok (.iastore, 1) := by decide +kernel
theorem d_Mo_voice_74 : decode prog_9_method_7_code 74 = .ok (.aload_n 0, 1) := by decide +kernel
theorem d_Mo_voice_75 : decode prog_9_method_7_code 75 = .ok (.getfield 23, 3) := by decide +kernel
theorem d_Mo_voice_78 : decode prog_9_method_7_code 78 = .ok (.iload_n 1, 1) := by decide +kernel
theorem d_Mo_voice_79 : decode prog_9_method_7_code 79 = .ok (.iload_n 3, 1) := by decide +kernel
theorem d_Mo_voice_80 : decode prog_9_method_7_code 80 = .ok (.iastore, 1) := by decide +kernel
theorem d_Mo_voice_81 : decode prog_9_method_7_code 81 = .ok (.aload_n 0, 1) := by decide +kernel
theorem d_Mo_voice_82 : decode prog_9_method_7_code 82 = .ok (.getfield 26, 3) := by decide +kernel
theorem d_Mo_voice_85 : decode prog_9_method_7_code 85 = .ok (.iload_n 1, 1) := by decide +kernel
theorem d_Mo_voice_86 : decode prog_9_method_7_code 86 = .ok (.iload 4, 2) := by decide +kernel
theorem d_Mo_voice_88 : decode prog_9_method_7_code 88 = .ok (.iastore, 1) := by decide +kernel
theorem d_Mo_voice_89 : decode prog_9_method_7_code 89 = .ok (.aload_n 0, 1) := by decide +kernel
theorem d_Mo_voice_90 : decode prog_9_method_7_code 90 = .ok (.getfield 29, 3) := by decide +kernel
theorem d_Mo_voice_93 : decode prog_9_method_7_code 93 = .ok (.iload_n 1, 1) := by decide +kernel
theorem d_Mo_voice_94 : decode prog_9_method_7_code 94 = .ok (.iload 5, 2) := by decide +kernel
theorem d_Mo_voice_96 : decode prog_9_method_7_code 96 = .ok (.iastore, 1) := by decide +kernel
theorem d_Mo_voice_97 : decode prog_9_method_7_code 97 = .ok (.iconst 1, 1) := by decide +kernel
theorem d_Mo_voice_98 : decode prog_9_method_7_code 98 = .ok (.ireturn, 1) := by decide +kernel
abbrev rm_Mo_voice : Room := { frames := 0, cells := 0, slots := 0, locals := 0 }
set_option maxHeartbeats 4000000 in
set_option maxRecDepth 100000 in
theorem c_Mo_voice (l : Launch) (D : va_G) (cs : Nat → ClassId) (ad : Nat → Nat) (hi : mo_inj ad) (c I : Wo) (h : moR c I) (v : Int) (h_v : -2147483648 ≤ v ∧ v < 2147483648) (d : Int) (h_d : -2147483648 ≤ d ∧ d < 2147483648) (i : Int) (h_i : -2147483648 ≤ i ∧ i < 2147483648) (m : Int) (h_m : -2147483648 ≤ m ∧ m < 2147483648) (f : Int) (h_f : -2147483648 ≤ f ∧ f < 2147483648) : mo_C l D cs ad y_Mo_voice ws_Mo_voice rm_Mo_voice [.ref (ad 0), .int (zi v), .int (zi d), .int (zi i), .int (zi m), .int (zi f)] I (mk_pi (fun r J => r = an_voice v d i m f ∧ moR (nw_voice c v d i m f) J)) := by
  refine mk_meti (own := "CanonMakerModel") (Ts := wA) hi (Nat.le_refl _) (by decide) rfl (fun w h => List.mem_cons_of_mem _ h) rfl (Nat.le_of_ble_eq_true rfl) [(0, .ref (ad 0)), (1, .int (zi v)), (2, .int (zi d)), (3, .int (zi i)), (4, .int (zi m)), (5, .int (zi f))] rfl ?_
  intro p_ e_ s_ m_ as_ bl_ me_ co_ Q_ X hret
  obtain ⟨⟨⟨hn, hN⟩, ⟨hlo, hsc, hbt, hru, hrd, hst⟩, ⟨hV, hV0⟩, ⟨hfc, hF⟩⟩, ⟨i12, iN⟩, ⟨⟨i50, i51, i52, i53, i54⟩, i07, i09⟩, iV, ⟨i010, iF⟩⟩ := id h
  refine mk_iloadn (nx := 1) X 1 d_Mo_voice_0 rfl rfl ?_
  refine mk_iconst (nx := 2) X d_Mo_voice_1 rfl ?_
  refine mk_icmp_lt (tgt := 10) (nx := 5) X d_Mo_voice_2 (by omega) (by omega) (by decide) rfl (fun c2 => ?_) (fun c2 => ?_)
  · skip
    refine mk_iconst (nx := 11) X d_Mo_voice_10 rfl ?_
    exact hret _ _ _ _ d_Mo_voice_11 (by exact ⟨by rw [an_voice, if_pos (by omega)], by rw [nw_voice, if_pos (by omega)]; exact h⟩)
  · skip
    refine mk_iloadn (nx := 6) X 1 d_Mo_voice_5 rfl rfl ?_
    refine mk_iconst (nx := 7) X d_Mo_voice_6 rfl ?_
    refine mk_icmp_le (tgt := 12) (nx := 10) X d_Mo_voice_7 (by omega) (by omega) (by decide) rfl (fun c7 => ?_) (fun c7 => ?_)
    · skip
      refine mk_iloadn (nx := 13) X 2 d_Mo_voice_12 rfl rfl ?_
      refine mk_if_lt (tgt := 57) (nx := 16) X d_Mo_voice_13 (by omega) (by decide) rfl (fun c13 => ?_) (fun c13 => ?_)
      · skip
        refine mk_bipush (nx := 59) X d_Mo_voice_57 (by decide) rfl ?_
        exact hret _ _ _ _ d_Mo_voice_59 (by exact ⟨by rw [an_voice, if_neg (by omega), if_pos (by omega)], by rw [nw_voice, if_neg (by omega), if_pos (by omega)]; exact h⟩)
      · skip
        refine mk_iloadn (nx := 17) X 2 d_Mo_voice_16 rfl rfl ?_
        refine mk_bipush (nx := 19) X d_Mo_voice_17 (by decide) rfl ?_
        refine mk_icmp_gt (tgt := 57) (nx := 22) X d_Mo_voice_19 (by omega) (by omega) (by decide) rfl (fun c19 => ?_) (fun c19 => ?_)
        · skip
          refine mk_bipush (nx := 59) X d_Mo_voice_57 (by decide) rfl ?_
          exact hret _ _ _ _ d_Mo_voice_59 (by exact ⟨by rw [an_voice, if_neg (by omega), if_pos (by omega)], by rw [nw_voice, if_neg (by omega), if_pos (by omega)]; exact h⟩)
        · skip
          refine mk_iloadn (nx := 23) X 3 d_Mo_voice_22 rfl rfl ?_
          refine mk_bipush (nx := 25) X d_Mo_voice_23 (by decide) rfl ?_
          refine mk_icmp_lt (tgt := 57) (nx := 28) X d_Mo_voice_25 (by omega) (by omega) (by decide) rfl (fun c25 => ?_) (fun c25 => ?_)
          · skip
            refine mk_bipush (nx := 59) X d_Mo_voice_57 (by decide) rfl ?_
            exact hret _ _ _ _ d_Mo_voice_59 (by exact ⟨by rw [an_voice, if_neg (by omega), if_pos (by omega)], by rw [nw_voice, if_neg (by omega), if_pos (by omega)]; exact h⟩)
          · skip
            refine mk_iloadn (nx := 29) X 3 d_Mo_voice_28 rfl rfl ?_
            refine mk_bipush (nx := 31) X d_Mo_voice_29 (by decide) rfl ?_
            refine mk_icmp_gt (tgt := 57) (nx := 34) X d_Mo_voice_31 (by omega) (by omega) (by decide) rfl (fun c31 => ?_) (fun c31 => ?_)
            · skip
              refine mk_bipush (nx := 59) X d_Mo_voice_57 (by decide) rfl ?_
              exact hret _ _ _ _ d_Mo_voice_59 (by exact ⟨by rw [an_voice, if_neg (by omega), if_pos (by omega)], by rw [nw_voice, if_neg (by omega), if_pos (by omega)]; exact h⟩)
            · skip
              refine mk_iload (nx := 36) X 4 d_Mo_voice_34 rfl rfl ?_
              refine mk_if_lt (tgt := 57) (nx := 39) X d_Mo_voice_36 (by omega) (by decide) rfl (fun c36 => ?_) (fun c36 => ?_)
              · skip
                refine mk_bipush (nx := 59) X d_Mo_voice_57 (by decide) rfl ?_
                exact hret _ _ _ _ d_Mo_voice_59 (by exact ⟨by rw [an_voice, if_neg (by omega), if_pos (by omega)], by rw [nw_voice, if_neg (by omega), if_pos (by omega)]; exact h⟩)
              · skip
                refine mk_iload (nx := 41) X 4 d_Mo_voice_39 rfl rfl ?_
                refine mk_iconst (nx := 42) X d_Mo_voice_41 rfl ?_
                refine mk_icmp_gt (tgt := 57) (nx := 45) X d_Mo_voice_42 (by omega) (by omega) (by decide) rfl (fun c42 => ?_) (fun c42 => ?_)
                · skip
                  refine mk_bipush (nx := 59) X d_Mo_voice_57 (by decide) rfl ?_
                  exact hret _ _ _ _ d_Mo_voice_59 (by exact ⟨by rw [an_voice, if_neg (by omega), if_pos (by omega)], by rw [nw_voice, if_neg (by omega), if_pos (by omega)]; exact h⟩)
                · skip
                  refine mk_iload (nx := 47) X 5 d_Mo_voice_45 rfl rfl ?_
                  refine mk_iconst (nx := 48) X d_Mo_voice_47 rfl ?_
                  refine mk_icmp_lt (tgt := 57) (nx := 51) X d_Mo_voice_48 (by omega) (by omega) (by decide) rfl (fun c48 => ?_) (fun c48 => ?_)
                  · skip
                    refine mk_bipush (nx := 59) X d_Mo_voice_57 (by decide) rfl ?_
                    exact hret _ _ _ _ d_Mo_voice_59 (by exact ⟨by rw [an_voice, if_neg (by omega), if_pos (by omega)], by rw [nw_voice, if_neg (by omega), if_pos (by omega)]; exact h⟩)
                  · skip
                    refine mk_iload (nx := 53) X 5 d_Mo_voice_51 rfl rfl ?_
                    refine mk_iconst (nx := 54) X d_Mo_voice_53 rfl ?_
                    refine mk_icmp_le (tgt := 60) (nx := 57) X d_Mo_voice_54 (by omega) (by omega) (by decide) rfl (fun c54 => ?_) (fun c54 => ?_)
                    · skip
                      refine mk_aloadn (nx := 61) X 0 d_Mo_voice_60 rfl rfl ?_
                      refine mk_get (nx := 64) (v := .ref (ad 3)) X 0 (by decide) (mh_Mo cs ad _) rfl in_Mo 3 (by decide) wd_598 rfl rfl d_Mo_voice_61 rfl ?_
                      refine mk_iloadn (nx := 65) X 1 d_Mo_voice_64 rfl rfl ?_
                      refine mk_iconst (nx := 66) X d_Mo_voice_65 rfl ?_
                      refine mk_zast (nx := 67) (j := v.toNat) X 3 1 (by decide) (mh_on cs ad) rfl (by omega) (by omega) (by decide) (by omega) rfl d_Mo_voice_66 rfl ?_
                      obtain ⟨J1, hJ1⟩ : ∃ z, z = up2 I 3 v.toNat 1 := ⟨_, rfl⟩
                      refine mk_same hJ1.symm ?_
                      have hJ1s : J1 3 v.toNat = 1 := hJ1 ▸ up2_ss I 3 v.toNat 1
                      have hJ1o : ∀ a b, (a ≠ 3 ∨ b ≠ v.toNat) → J1 a b = I a b := hJ1 ▸ up2_o I 3 v.toNat 1
                      refine mk_aloadn (nx := 68) X 0 d_Mo_voice_67 rfl rfl ?_
                      refine mk_get (nx := 71) (v := .ref (ad 4)) X 0 (by decide) (mh_Mo cs ad _) rfl in_Mo 4 (by decide) wd_599 rfl rfl d_Mo_voice_68 rfl ?_
                      refine mk_iloadn (nx := 72) X 1 d_Mo_voice_71 rfl rfl ?_
                      refine mk_iloadn (nx := 73) X 2 d_Mo_voice_72 rfl rfl ?_
                      refine mk_iast (nx := 74) (j := v.toNat) X 4 0 (by decide) (mh_delays cs ad) rfl (by omega) (by omega) (by decide) rfl d_Mo_voice_73 rfl ?_
                      obtain ⟨J2, hJ2⟩ : ∃ z, z = up2 J1 4 v.toNat d := ⟨_, rfl⟩
                      refine mk_same hJ2.symm ?_
                      have hJ2s : J2 4 v.toNat = d := hJ2 ▸ up2_ss J1 4 v.toNat d
                      have hJ2o : ∀ a b, (a ≠ 4 ∨ b ≠ v.toNat) → J2 a b = J1 a b := hJ2 ▸ up2_o J1 4 v.toNat d
                      refine mk_aloadn (nx := 75) X 0 d_Mo_voice_74 rfl rfl ?_
                      refine mk_get (nx := 78) (v := .ref (ad 5)) X 0 (by decide) (mh_Mo cs ad _) rfl in_Mo 5 (by decide) wd_600 rfl rfl d_Mo_voice_75 rfl ?_
                      refine mk_iloadn (nx := 79) X 1 d_Mo_voice_78 rfl rfl ?_
                      refine mk_iloadn (nx := 80) X 3 d_Mo_voice_79 rfl rfl ?_
                      refine mk_iast (nx := 81) (j := v.toNat) X 5 0 (by decide) (mh_intervals cs ad) rfl (by omega) (by omega) (by decide) rfl d_Mo_voice_80 rfl ?_
                      obtain ⟨J3, hJ3⟩ : ∃ z, z = up2 J2 5 v.toNat i := ⟨_, rfl⟩
                      refine mk_same hJ3.symm ?_
                      have hJ3s : J3 5 v.toNat = i := hJ3 ▸ up2_ss J2 5 v.toNat i
                      have hJ3o : ∀ a b, (a ≠ 5 ∨ b ≠ v.toNat) → J3 a b = J2 a b := hJ3 ▸ up2_o J2 5 v.toNat i
                      refine mk_aloadn (nx := 82) X 0 d_Mo_voice_81 rfl rfl ?_
                      refine mk_get (nx := 85) (v := .ref (ad 6)) X 0 (by decide) (mh_Mo cs ad _) rfl in_Mo 6 (by decide) wd_601 rfl rfl d_Mo_voice_82 rfl ?_
                      refine mk_iloadn (nx := 86) X 1 d_Mo_voice_85 rfl rfl ?_
                      refine mk_iload (nx := 88) X 4 d_Mo_voice_86 rfl rfl ?_
                      refine mk_iast (nx := 89) (j := v.toNat) X 6 0 (by decide) (mh_modes cs ad) rfl (by omega) (by omega) (by decide) rfl d_Mo_voice_88 rfl ?_
                      obtain ⟨J4, hJ4⟩ : ∃ z, z = up2 J3 6 v.toNat m := ⟨_, rfl⟩
                      refine mk_same hJ4.symm ?_
                      have hJ4s : J4 6 v.toNat = m := hJ4 ▸ up2_ss J3 6 v.toNat m
                      have hJ4o : ∀ a b, (a ≠ 6 ∨ b ≠ v.toNat) → J4 a b = J3 a b := hJ4 ▸ up2_o J3 6 v.toNat m
                      refine mk_aloadn (nx := 90) X 0 d_Mo_voice_89 rfl rfl ?_
                      refine mk_get (nx := 93) (v := .ref (ad 7)) X 0 (by decide) (mh_Mo cs ad _) rfl in_Mo 7 (by decide) wd_602 rfl rfl d_Mo_voice_90 rfl ?_
                      refine mk_iloadn (nx := 94) X 1 d_Mo_voice_93 rfl rfl ?_
                      refine mk_iload (nx := 96) X 5 d_Mo_voice_94 rfl rfl ?_
                      refine mk_iast (nx := 97) (j := v.toNat) X 7 0 (by decide) (mh_factors cs ad) rfl (by omega) (by omega) (by decide) rfl d_Mo_voice_96 rfl ?_
                      obtain ⟨J5, hJ5⟩ : ∃ z, z = up2 J4 7 v.toNat f := ⟨_, rfl⟩
                      refine mk_same hJ5.symm ?_
                      have hJ5s : J5 7 v.toNat = f := hJ5 ▸ up2_ss J4 7 v.toNat f
                      have hJ5o : ∀ a b, (a ≠ 7 ∨ b ≠ v.toNat) → J5 a b = J4 a b := hJ5 ▸ up2_o J4 7 v.toNat f
                      refine mk_iconst (nx := 98) X d_Mo_voice_97 rfl ?_
                      exact hret _ _ _ _ d_Mo_voice_98 (by exact ⟨by rw [an_voice, if_neg (by omega), if_neg (by omega)]; try rfl, by rw [nw_voice, if_neg (by omega), if_neg (by omega), hJ5, hJ4, hJ3, hJ2, hJ1]; exact mo_s_voice h (by omega) (by omega) (by omega) (by omega) (by omega)⟩)
                    · skip
                      refine mk_bipush (nx := 59) X d_Mo_voice_57 (by decide) rfl ?_
                      exact hret _ _ _ _ d_Mo_voice_59 (by exact ⟨by rw [an_voice, if_neg (by omega), if_pos (by omega)], by rw [nw_voice, if_neg (by omega), if_pos (by omega)]; exact h⟩)
    · skip
      refine mk_iconst (nx := 11) X d_Mo_voice_10 rfl ?_
      exact hret _ _ _ _ d_Mo_voice_11 (by exact ⟨by rw [an_voice, if_pos (by omega)], by rw [nw_voice, if_pos (by omega)]; exact h⟩)

-- CanonMakerModel.off(I)I
theorem d_Mo_off_0 : decode prog_9_method_8_code 0 = .ok (.iload_n 1, 1) := by decide +kernel
theorem d_Mo_off_1 : decode prog_9_method_8_code 1 = .ok (.iconst 1, 1) := by decide +kernel
theorem d_Mo_off_2 : decode prog_9_method_8_code 2 = .ok (.if_icmp .lt 8, 3) := by decide +kernel
theorem d_Mo_off_5 : decode prog_9_method_8_code 5 = .ok (.iload_n 1, 1) := by decide +kernel
theorem d_Mo_off_6 : decode prog_9_method_8_code 6 = .ok (.iconst 3, 1) := by decide +kernel
theorem d_Mo_off_7 : decode prog_9_method_8_code 7 = .ok (.if_icmp .le 5, 3) := by decide +kernel
theorem d_Mo_off_10 : decode prog_9_method_8_code 10 = .ok (.iconst (-1), 1) := by decide +kernel
theorem d_Mo_off_11 : decode prog_9_method_8_code 11 = .ok (.ireturn, 1) := by decide +kernel
theorem d_Mo_off_12 : decode prog_9_method_8_code 12 = .ok (.aload_n 0, 1) := by decide +kernel
theorem d_Mo_off_13 : decode prog_9_method_8_code 13 = .ok (.getfield 16, 3) := by decide +kernel
theorem d_Mo_off_16 : decode prog_9_method_8_code 16 = .ok (.iload_n 1, 1) := by decide +kernel
theorem d_Mo_off_17 : decode prog_9_method_8_code 17 = .ok (.baload, 1) := by decide +kernel
theorem d_Mo_off_18 : decode prog_9_method_8_code 18 = .ok (.ifCond .eq 7, 3) := by decide +kernel
theorem d_Mo_off_21 : decode prog_9_method_8_code 21 = .ok (.iconst 1, 1) := by decide +kernel
theorem d_Mo_off_22 : decode prog_9_method_8_code 22 = .ok (.goto 4, 3) := by decide +kernel
theorem d_Mo_off_25 : decode prog_9_method_8_code 25 = .ok (.iconst 0, 1) := by decide +kernel
theorem d_Mo_off_26 : decode prog_9_method_8_code 26 = .ok (.istore_n 2, 1) := by decide +kernel
theorem d_Mo_off_27 : decode prog_9_method_8_code 27 = .ok (.aload_n 0, 1) := by decide +kernel
theorem d_Mo_off_28 : decode prog_9_method_8_code 28 = .ok (.getfield 16, 3) := by decide +kernel
theorem d_Mo_off_31 : decode prog_9_method_8_code 31 = .ok (.iload_n 1, 1) := by decide +kernel
theorem d_Mo_off_32 : decode prog_9_method_8_code 32 = .ok (.iconst 0, 1) := by decide +kernel
theorem d_Mo_off_33 : decode prog_9_method_8_code 33 = .ok (.bastore, 1) := by decide +kernel
theorem d_Mo_off_34 : decode prog_9_method_8_code 34 = .ok (.iload_n 2, 1) := by decide +kernel
theorem d_Mo_off_35 : decode prog_9_method_8_code 35 = .ok (.ireturn, 1) := by decide +kernel
abbrev rm_Mo_off : Room := { frames := 0, cells := 0, slots := 0, locals := 0 }
set_option maxHeartbeats 4000000 in
set_option maxRecDepth 100000 in
theorem c_Mo_off (l : Launch) (D : va_G) (cs : Nat → ClassId) (ad : Nat → Nat) (hi : mo_inj ad) (c I : Wo) (h : moR c I) (v : Int) (h_v : -2147483648 ≤ v ∧ v < 2147483648) : mo_C l D cs ad y_Mo_off ws_Mo_off rm_Mo_off [.ref (ad 0), .int (zi v)] I (mk_pi (fun r J => r = an_off c v ∧ moR (nw_off c v) J)) := by
  refine mk_meti (own := "CanonMakerModel") (Ts := wA) hi (Nat.le_refl _) (by decide) rfl (fun w h => List.mem_cons_of_mem _ h) rfl (Nat.le_of_ble_eq_true rfl) [(0, .ref (ad 0)), (1, .int (zi v))] rfl ?_
  intro p_ e_ s_ m_ as_ bl_ me_ co_ Q_ X hret
  obtain ⟨⟨⟨hn, hN⟩, ⟨hlo, hsc, hbt, hru, hrd, hst⟩, ⟨hV, hV0⟩, ⟨hfc, hF⟩⟩, ⟨i12, iN⟩, ⟨⟨i50, i51, i52, i53, i54⟩, i07, i09⟩, iV, ⟨i010, iF⟩⟩ := id h
  refine mk_iloadn (nx := 1) X 1 d_Mo_off_0 rfl rfl ?_
  refine mk_iconst (nx := 2) X d_Mo_off_1 rfl ?_
  refine mk_icmp_lt (tgt := 10) (nx := 5) X d_Mo_off_2 (by omega) (by omega) (by decide) rfl (fun c2 => ?_) (fun c2 => ?_)
  · skip
    refine mk_iconst (nx := 11) X d_Mo_off_10 rfl ?_
    exact hret _ _ _ _ d_Mo_off_11 (by exact ⟨by rw [an_off, if_pos (by omega)], by rw [nw_off, if_pos (by omega)]; exact h⟩)
  · skip
    refine mk_iloadn (nx := 6) X 1 d_Mo_off_5 rfl rfl ?_
    refine mk_iconst (nx := 7) X d_Mo_off_6 rfl ?_
    refine mk_icmp_le (tgt := 12) (nx := 10) X d_Mo_off_7 (by omega) (by omega) (by decide) rfl (fun c7 => ?_) (fun c7 => ?_)
    · skip
      have hv4 := iV v.toNat (by omega)
      have hv5 := hV v.toNat (by omega)
      refine mk_aloadn (nx := 13) X 0 d_Mo_off_12 rfl rfl ?_
      refine mk_get (nx := 16) (v := .ref (ad 3)) X 0 (by decide) (mh_Mo cs ad _) rfl in_Mo 3 (by decide) wd_598 rfl rfl d_Mo_off_13 rfl ?_
      refine mk_iloadn (nx := 17) X 1 d_Mo_off_16 rfl rfl ?_
      refine mk_zald (nx := 18) (j := v.toNat) X 3 1 (by decide) (mh_on cs ad _) rfl (by omega) (by omega) (by decide) rfl d_Mo_off_17 rfl ?_
      refine mk_if_eq (tgt := 25) (nx := 21) X d_Mo_off_18 (by omega) (by decide) rfl (fun c18 => ?_) (fun c18 => ?_)
      · skip
        refine mk_iconst (nx := 26) X d_Mo_off_25 rfl ?_
        refine mk_istoren (nx := 27) X [(2, .int (zi 0)), (0, .ref (ad 0)), (1, .int (zi v))] d_Mo_off_26 (by decide) rfl rfl ?_
        refine mk_aloadn (nx := 28) X 1 d_Mo_off_27 rfl rfl ?_
        refine mk_get (nx := 31) (v := .ref (ad 3)) X 0 (by decide) (mh_Mo cs ad _) rfl in_Mo 3 (by decide) wd_598 rfl rfl d_Mo_off_28 rfl ?_
        refine mk_iloadn (nx := 32) X 2 d_Mo_off_31 rfl rfl ?_
        refine mk_iconst (nx := 33) X d_Mo_off_32 rfl ?_
        refine mk_zast (nx := 34) (j := v.toNat) X 3 1 (by decide) (mh_on cs ad) rfl (by omega) (by omega) (by decide) (by omega) rfl d_Mo_off_33 rfl ?_
        obtain ⟨J1, hJ1⟩ : ∃ z, z = up2 I 3 v.toNat 0 := ⟨_, rfl⟩
        refine mk_same hJ1.symm ?_
        have hJ1s : J1 3 v.toNat = 0 := hJ1 ▸ up2_ss I 3 v.toNat 0
        have hJ1o : ∀ a b, (a ≠ 3 ∨ b ≠ v.toNat) → J1 a b = I a b := hJ1 ▸ up2_o I 3 v.toNat 0
        refine mk_iloadn (nx := 35) X 0 d_Mo_off_34 rfl rfl ?_
        exact hret _ _ _ _ d_Mo_off_35 (by exact ⟨by rw [an_off, if_neg (by omega)]; omega, by rw [nw_off, if_neg (by omega), hJ1]; exact mo_s_off h (by omega)⟩)
      · skip
        refine mk_iconst (nx := 22) X d_Mo_off_21 rfl ?_
        refine mk_goto (tgt := 26) X d_Mo_off_22 (by decide) ?_
        refine mk_istoren (nx := 27) X [(2, .int (zi 1)), (0, .ref (ad 0)), (1, .int (zi v))] d_Mo_off_26 (by decide) rfl rfl ?_
        refine mk_aloadn (nx := 28) X 1 d_Mo_off_27 rfl rfl ?_
        refine mk_get (nx := 31) (v := .ref (ad 3)) X 0 (by decide) (mh_Mo cs ad _) rfl in_Mo 3 (by decide) wd_598 rfl rfl d_Mo_off_28 rfl ?_
        refine mk_iloadn (nx := 32) X 2 d_Mo_off_31 rfl rfl ?_
        refine mk_iconst (nx := 33) X d_Mo_off_32 rfl ?_
        refine mk_zast (nx := 34) (j := v.toNat) X 3 1 (by decide) (mh_on cs ad) rfl (by omega) (by omega) (by decide) (by omega) rfl d_Mo_off_33 rfl ?_
        obtain ⟨J2, hJ2⟩ : ∃ z, z = up2 I 3 v.toNat 0 := ⟨_, rfl⟩
        refine mk_same hJ2.symm ?_
        have hJ2s : J2 3 v.toNat = 0 := hJ2 ▸ up2_ss I 3 v.toNat 0
        have hJ2o : ∀ a b, (a ≠ 3 ∨ b ≠ v.toNat) → J2 a b = I a b := hJ2 ▸ up2_o I 3 v.toNat 0
        refine mk_iloadn (nx := 35) X 0 d_Mo_off_34 rfl rfl ?_
        exact hret _ _ _ _ d_Mo_off_35 (by exact ⟨by rw [an_off, if_neg (by omega)]; omega, by rw [nw_off, if_neg (by omega), hJ2]; exact mo_s_off h (by omega)⟩)
    · skip
      refine mk_iconst (nx := 11) X d_Mo_off_10 rfl ?_
      exact hret _ _ _ _ d_Mo_off_11 (by exact ⟨by rw [an_off, if_pos (by omega)], by rw [nw_off, if_pos (by omega)]; exact h⟩)

-- CanonMakerModel.span(II)I
theorem d_Mo_span_0 : decode prog_9_method_9_code 0 = .ok (.iload_n 1, 1) := by decide +kernel
theorem d_Mo_span_1 : decode prog_9_method_9_code 1 = .ok (.ifCond .lt 14, 3) := by decide +kernel
theorem d_Mo_span_4 : decode prog_9_method_9_code 4 = .ok (.iload_n 2, 1) := by decide +kernel
theorem d_Mo_span_5 : decode prog_9_method_9_code 5 = .ok (.bipush 127, 2) := by decide +kernel
theorem d_Mo_span_7 : decode prog_9_method_9_code 7 = .ok (.if_icmp .gt 8, 3) := by decide +kernel
theorem d_Mo_span_10 : decode prog_9_method_9_code 10 = .ok (.iload_n 1, 1) := by decide +kernel
theorem d_Mo_span_11 : decode prog_9_method_9_code 11 = .ok (.iload_n 2, 1) := by decide +kernel
theorem d_Mo_span_12 : decode prog_9_method_9_code 12 = .ok (.if_icmp .le 6, 3) := by decide +kernel
theorem d_Mo_span_15 : decode prog_9_method_9_code 15 = .ok (.bipush (-2), 2) := by decide +kernel
theorem d_Mo_span_17 : decode prog_9_method_9_code 17 = .ok (.ireturn, 1) := by decide +kernel
theorem d_Mo_span_18 : decode prog_9_method_9_code 18 = .ok (.aload_n 0, 1) := by decide +kernel
theorem d_Mo_span_19 : decode prog_9_method_9_code 19 = .ok (.iload_n 1, 1) := by decide +kernel
theorem d_Mo_span_20 : decode prog_9_method_9_code 20 = .ok (.putfield 69, 3) := by decide +kernel
theorem d_Mo_span_23 : decode prog_9_method_9_code 23 = .ok (.aload_n 0, 1) := by decide +kernel
theorem d_Mo_span_24 : decode prog_9_method_9_code 24 = .ok (.iload_n 2, 1) := by decide +kernel
theorem d_Mo_span_25 : decode prog_9_method_9_code 25 = .ok (.putfield 32, 3) := by decide +kernel
theorem d_Mo_span_28 : decode prog_9_method_9_code 28 = .ok (.iconst 1, 1) := by decide +kernel
theorem d_Mo_span_29 : decode prog_9_method_9_code 29 = .ok (.ireturn, 1) := by decide +kernel
abbrev rm_Mo_span : Room := { frames := 0, cells := 0, slots := 0, locals := 0 }
set_option maxHeartbeats 4000000 in
set_option maxRecDepth 100000 in
theorem c_Mo_span (l : Launch) (D : va_G) (cs : Nat → ClassId) (ad : Nat → Nat) (hi : mo_inj ad) (c I : Wo) (h : moR c I) (a : Int) (h_a : -2147483648 ≤ a ∧ a < 2147483648) (b : Int) (h_b : -2147483648 ≤ b ∧ b < 2147483648) : mo_C l D cs ad y_Mo_span ws_Mo_span rm_Mo_span [.ref (ad 0), .int (zi a), .int (zi b)] I (mk_pi (fun r J => r = an_span a b ∧ moR (nw_span c a b) J)) := by
  refine mk_meti (own := "CanonMakerModel") (Ts := wA) hi (Nat.le_refl _) (by decide) rfl (fun w h => List.mem_cons_of_mem _ h) rfl (Nat.le_of_ble_eq_true rfl) [(0, .ref (ad 0)), (1, .int (zi a)), (2, .int (zi b))] rfl ?_
  intro p_ e_ s_ m_ as_ bl_ me_ co_ Q_ X hret
  obtain ⟨⟨⟨hn, hN⟩, ⟨hlo, hsc, hbt, hru, hrd, hst⟩, ⟨hV, hV0⟩, ⟨hfc, hF⟩⟩, ⟨i12, iN⟩, ⟨⟨i50, i51, i52, i53, i54⟩, i07, i09⟩, iV, ⟨i010, iF⟩⟩ := id h
  refine mk_iloadn (nx := 1) X 1 d_Mo_span_0 rfl rfl ?_
  refine mk_if_lt (tgt := 15) (nx := 4) X d_Mo_span_1 (by omega) (by decide) rfl (fun c1 => ?_) (fun c1 => ?_)
  · skip
    refine mk_bipush (nx := 17) X d_Mo_span_15 (by decide) rfl ?_
    exact hret _ _ _ _ d_Mo_span_17 (by exact ⟨by rw [an_span, if_pos (by omega)], by rw [nw_span, if_pos (by omega)]; exact h⟩)
  · skip
    refine mk_iloadn (nx := 5) X 2 d_Mo_span_4 rfl rfl ?_
    refine mk_bipush (nx := 7) X d_Mo_span_5 (by decide) rfl ?_
    refine mk_icmp_gt (tgt := 15) (nx := 10) X d_Mo_span_7 (by omega) (by omega) (by decide) rfl (fun c7 => ?_) (fun c7 => ?_)
    · skip
      refine mk_bipush (nx := 17) X d_Mo_span_15 (by decide) rfl ?_
      exact hret _ _ _ _ d_Mo_span_17 (by exact ⟨by rw [an_span, if_pos (by omega)], by rw [nw_span, if_pos (by omega)]; exact h⟩)
    · skip
      refine mk_iloadn (nx := 11) X 1 d_Mo_span_10 rfl rfl ?_
      refine mk_iloadn (nx := 12) X 2 d_Mo_span_11 rfl rfl ?_
      refine mk_icmp_le (tgt := 18) (nx := 15) X d_Mo_span_12 (by omega) (by omega) (by decide) rfl (fun c12 => ?_) (fun c12 => ?_)
      · skip
        refine mk_aloadn (nx := 19) X 0 d_Mo_span_18 rfl rfl ?_
        refine mk_iloadn (nx := 20) X 1 d_Mo_span_19 rfl rfl ?_
        refine mk_putf (nx := 23) (ty := .int) X t_Mo t_Mo_ok n_Mo 0 (by decide) (mh_Mo cs ad _) rfl in_Mo 8 (by decide) wd_603 rfl rfl (by decide +kernel) rfl rfl (Nat.le_of_ble_eq_true rfl) ((mh_Mo cs ad _).trans rfl) d_Mo_span_20 rfl ?_
        obtain ⟨J1, hJ1⟩ : ∃ z, z = up2 I 0 8 a := ⟨_, rfl⟩
        refine mk_same hJ1.symm ?_
        have hJ1s : J1 0 8 = a := hJ1 ▸ up2_ss I 0 8 a
        have hJ1o : ∀ a b, (a ≠ 0 ∨ b ≠ 8) → J1 a b = I a b := hJ1 ▸ up2_o I 0 8 a
        refine mk_aloadn (nx := 24) X 0 d_Mo_span_23 rfl rfl ?_
        refine mk_iloadn (nx := 25) X 2 d_Mo_span_24 rfl rfl ?_
        refine mk_putf (nx := 28) (ty := .int) X t_Mo t_Mo_ok n_Mo 0 (by decide) (mh_Mo cs ad _) rfl in_Mo 9 (by decide) wd_604 rfl rfl (by decide +kernel) rfl rfl (Nat.le_of_ble_eq_true rfl) ((mh_Mo cs ad _).trans rfl) d_Mo_span_25 rfl ?_
        obtain ⟨J2, hJ2⟩ : ∃ z, z = up2 J1 0 9 b := ⟨_, rfl⟩
        refine mk_same hJ2.symm ?_
        have hJ2s : J2 0 9 = b := hJ2 ▸ up2_ss J1 0 9 b
        have hJ2o : ∀ a b, (a ≠ 0 ∨ b ≠ 9) → J2 a b = J1 a b := hJ2 ▸ up2_o J1 0 9 b
        refine mk_iconst (nx := 29) X d_Mo_span_28 rfl ?_
        exact hret _ _ _ _ d_Mo_span_29 (by exact ⟨by rw [an_span, if_neg (by omega)]; try rfl, by rw [nw_span, if_neg (by omega), hJ2, hJ1]; exact mo_s_span h (by omega)⟩)
      · skip
        refine mk_bipush (nx := 17) X d_Mo_span_15 (by decide) rfl ?_
        exact hret _ _ _ _ d_Mo_span_17 (by exact ⟨by rw [an_span, if_pos (by omega)], by rw [nw_span, if_pos (by omega)]; exact h⟩)

-- CanonMakerModel.scale(I)I
theorem d_Mo_scale_0 : decode prog_9_method_10_code 0 = .ok (.iload_n 1, 1) := by decide +kernel
theorem d_Mo_scale_1 : decode prog_9_method_10_code 1 = .ok (.ifCond .lt 10, 3) := by decide +kernel
theorem d_Mo_scale_4 : decode prog_9_method_10_code 4 = .ok (.iload_n 1, 1) := by decide +kernel
theorem d_Mo_scale_5 : decode prog_9_method_10_code 5 = .ok (.sipush 4095, 3) := by decide +kernel
theorem d_Mo_scale_8 : decode prog_9_method_10_code 8 = .ok (.if_icmp .le 6, 3) := by decide +kernel
theorem d_Mo_scale_11 : decode prog_9_method_10_code 11 = .ok (.bipush (-2), 2) := by decide +kernel
theorem d_Mo_scale_13 : decode prog_9_method_10_code 13 = .ok (.ireturn, 1) := by decide +kernel
theorem d_Mo_scale_14 : decode prog_9_method_10_code 14 = .ok (.aload_n 0, 1) := by decide +kernel
theorem d_Mo_scale_15 : decode prog_9_method_10_code 15 = .ok (.getfield 36, 3) := by decide +kernel
theorem d_Mo_scale_18 : decode prog_9_method_10_code 18 = .ok (.istore_n 2, 1) := by decide +kernel
theorem d_Mo_scale_19 : decode prog_9_method_10_code 19 = .ok (.aload_n 0, 1) := by decide +kernel
theorem d_Mo_scale_20 : decode prog_9_method_10_code 20 = .ok (.iload_n 1, 1) := by decide +kernel
theorem d_Mo_scale_21 : decode prog_9_method_10_code 21 = .ok (.putfield 36, 3) := by decide +kernel
theorem d_Mo_scale_24 : decode prog_9_method_10_code 24 = .ok (.iload_n 2, 1) := by decide +kernel
theorem d_Mo_scale_25 : decode prog_9_method_10_code 25 = .ok (.ireturn, 1) := by decide +kernel
abbrev rm_Mo_scale : Room := { frames := 0, cells := 0, slots := 0, locals := 0 }
set_option maxHeartbeats 4000000 in
set_option maxRecDepth 100000 in
theorem c_Mo_scale (l : Launch) (D : va_G) (cs : Nat → ClassId) (ad : Nat → Nat) (hi : mo_inj ad) (c I : Wo) (h : moR c I) (a : Int) (h_a : -2147483648 ≤ a ∧ a < 2147483648) : mo_C l D cs ad y_Mo_scale ws_Mo_scale rm_Mo_scale [.ref (ad 0), .int (zi a)] I (mk_pi (fun r J => r = an_scale c a ∧ moR (nw_scale c a) J)) := by
  refine mk_meti (own := "CanonMakerModel") (Ts := wA) hi (Nat.le_refl _) (by decide) rfl (fun w h => List.mem_cons_of_mem _ h) rfl (Nat.le_of_ble_eq_true rfl) [(0, .ref (ad 0)), (1, .int (zi a))] rfl ?_
  intro p_ e_ s_ m_ as_ bl_ me_ co_ Q_ X hret
  obtain ⟨⟨⟨hn, hN⟩, ⟨hlo, hsc, hbt, hru, hrd, hst⟩, ⟨hV, hV0⟩, ⟨hfc, hF⟩⟩, ⟨i12, iN⟩, ⟨⟨i50, i51, i52, i53, i54⟩, i07, i09⟩, iV, ⟨i010, iF⟩⟩ := id h
  refine mk_iloadn (nx := 1) X 1 d_Mo_scale_0 rfl rfl ?_
  refine mk_if_lt (tgt := 11) (nx := 4) X d_Mo_scale_1 (by omega) (by decide) rfl (fun c1 => ?_) (fun c1 => ?_)
  · skip
    refine mk_bipush (nx := 13) X d_Mo_scale_11 (by decide) rfl ?_
    exact hret _ _ _ _ d_Mo_scale_13 (by exact ⟨by rw [an_scale, if_pos (by omega)], by rw [nw_scale, if_pos (by omega)]; exact h⟩)
  · skip
    refine mk_iloadn (nx := 5) X 1 d_Mo_scale_4 rfl rfl ?_
    refine mk_sipush (nx := 8) X d_Mo_scale_5 (by decide) rfl ?_
    refine mk_icmp_le (tgt := 14) (nx := 11) X d_Mo_scale_8 (by omega) (by omega) (by decide) rfl (fun c8 => ?_) (fun c8 => ?_)
    · skip
      refine mk_aloadn (nx := 15) X 0 d_Mo_scale_14 rfl rfl ?_
      refine mk_get (nx := 18) (v := .int (zi (I 0 10))) X 0 (by decide) (mh_Mo cs ad _) rfl in_Mo 10 (by decide) wd_605 rfl rfl d_Mo_scale_15 rfl ?_
      refine mk_istoren (nx := 19) X [(2, .int (zi (I 0 10))), (0, .ref (ad 0)), (1, .int (zi a))] d_Mo_scale_18 (by decide) rfl rfl ?_
      refine mk_aloadn (nx := 20) X 1 d_Mo_scale_19 rfl rfl ?_
      refine mk_iloadn (nx := 21) X 2 d_Mo_scale_20 rfl rfl ?_
      refine mk_putf (nx := 24) (ty := .int) X t_Mo t_Mo_ok n_Mo 0 (by decide) (mh_Mo cs ad _) rfl in_Mo 10 (by decide) wd_605 rfl rfl (by decide +kernel) rfl rfl (Nat.le_of_ble_eq_true rfl) ((mh_Mo cs ad _).trans rfl) d_Mo_scale_21 rfl ?_
      obtain ⟨J1, hJ1⟩ : ∃ z, z = up2 I 0 10 a := ⟨_, rfl⟩
      refine mk_same hJ1.symm ?_
      have hJ1s : J1 0 10 = a := hJ1 ▸ up2_ss I 0 10 a
      have hJ1o : ∀ a b, (a ≠ 0 ∨ b ≠ 10) → J1 a b = I a b := hJ1 ▸ up2_o I 0 10 a
      refine mk_iloadn (nx := 25) X 0 d_Mo_scale_24 rfl rfl ?_
      exact hret _ _ _ _ d_Mo_scale_25 (by exact ⟨by rw [an_scale, if_neg (by omega)]; omega, by rw [nw_scale, if_neg (by omega), hJ1]; exact mo_s_scale h (by omega)⟩)
    · skip
      refine mk_bipush (nx := 13) X d_Mo_scale_11 (by decide) rfl ?_
      exact hret _ _ _ _ d_Mo_scale_13 (by exact ⟨by rw [an_scale, if_pos (by omega)], by rw [nw_scale, if_pos (by omega)]; exact h⟩)

-- CanonMakerModel.beat(I)I
theorem d_Mo_beat_0 : decode prog_9_method_11_code 0 = .ok (.iload_n 1, 1) := by decide +kernel
theorem d_Mo_beat_1 : decode prog_9_method_11_code 1 = .ok (.iconst 1, 1) := by decide +kernel
theorem d_Mo_beat_2 : decode prog_9_method_11_code 2 = .ok (.if_icmp .lt 9, 3) := by decide +kernel
theorem d_Mo_beat_5 : decode prog_9_method_11_code 5 = .ok (.iload_n 1, 1) := by decide +kernel
theorem d_Mo_beat_6 : decode prog_9_method_11_code 6 = .ok (.bipush 64, 2) := by decide +kernel
theorem d_Mo_beat_8 : decode prog_9_method_11_code 8 = .ok (.if_icmp .le 6, 3) := by decide +kernel
theorem d_Mo_beat_11 : decode prog_9_method_11_code 11 = .ok (.bipush (-2), 2) := by decide +kernel
theorem d_Mo_beat_13 : decode prog_9_method_11_code 13 = .ok (.ireturn, 1) := by decide +kernel
theorem d_Mo_beat_14 : decode prog_9_method_11_code 14 = .ok (.aload_n 0, 1) := by decide +kernel
theorem d_Mo_beat_15 : decode prog_9_method_11_code 15 = .ok (.getfield 39, 3) := by decide +kernel
theorem d_Mo_beat_18 : decode prog_9_method_11_code 18 = .ok (.istore_n 2, 1) := by decide +kernel
theorem d_Mo_beat_19 : decode prog_9_method_11_code 19 = .ok (.aload_n 0, 1) := by decide +kernel
theorem d_Mo_beat_20 : decode prog_9_method_11_code 20 = .ok (.iload_n 1, 1) := by decide +kernel
theorem d_Mo_beat_21 : decode prog_9_method_11_code 21 = .ok (.putfield 39, 3) := by decide +kernel
theorem d_Mo_beat_24 : decode prog_9_method_11_code 24 = .ok (.iload_n 2, 1) := by decide +kernel
theorem d_Mo_beat_25 : decode prog_9_method_11_code 25 = .ok (.ireturn, 1) := by decide +kernel
abbrev rm_Mo_beat : Room := { frames := 0, cells := 0, slots := 0, locals := 0 }
set_option maxHeartbeats 4000000 in
set_option maxRecDepth 100000 in
theorem c_Mo_beat (l : Launch) (D : va_G) (cs : Nat → ClassId) (ad : Nat → Nat) (hi : mo_inj ad) (c I : Wo) (h : moR c I) (a : Int) (h_a : -2147483648 ≤ a ∧ a < 2147483648) : mo_C l D cs ad y_Mo_beat ws_Mo_beat rm_Mo_beat [.ref (ad 0), .int (zi a)] I (mk_pi (fun r J => r = an_beat c a ∧ moR (nw_beat c a) J)) := by
  refine mk_meti (own := "CanonMakerModel") (Ts := wA) hi (Nat.le_refl _) (by decide) rfl (fun w h => List.mem_cons_of_mem _ h) rfl (Nat.le_of_ble_eq_true rfl) [(0, .ref (ad 0)), (1, .int (zi a))] rfl ?_
  intro p_ e_ s_ m_ as_ bl_ me_ co_ Q_ X hret
  obtain ⟨⟨⟨hn, hN⟩, ⟨hlo, hsc, hbt, hru, hrd, hst⟩, ⟨hV, hV0⟩, ⟨hfc, hF⟩⟩, ⟨i12, iN⟩, ⟨⟨i50, i51, i52, i53, i54⟩, i07, i09⟩, iV, ⟨i010, iF⟩⟩ := id h
  refine mk_iloadn (nx := 1) X 1 d_Mo_beat_0 rfl rfl ?_
  refine mk_iconst (nx := 2) X d_Mo_beat_1 rfl ?_
  refine mk_icmp_lt (tgt := 11) (nx := 5) X d_Mo_beat_2 (by omega) (by omega) (by decide) rfl (fun c2 => ?_) (fun c2 => ?_)
  · skip
    refine mk_bipush (nx := 13) X d_Mo_beat_11 (by decide) rfl ?_
    exact hret _ _ _ _ d_Mo_beat_13 (by exact ⟨by rw [an_beat, if_pos (by omega)], by rw [nw_beat, if_pos (by omega)]; exact h⟩)
  · skip
    refine mk_iloadn (nx := 6) X 1 d_Mo_beat_5 rfl rfl ?_
    refine mk_bipush (nx := 8) X d_Mo_beat_6 (by decide) rfl ?_
    refine mk_icmp_le (tgt := 14) (nx := 11) X d_Mo_beat_8 (by omega) (by omega) (by decide) rfl (fun c8 => ?_) (fun c8 => ?_)
    · skip
      refine mk_aloadn (nx := 15) X 0 d_Mo_beat_14 rfl rfl ?_
      refine mk_get (nx := 18) (v := .int (zi (I 0 11))) X 0 (by decide) (mh_Mo cs ad _) rfl in_Mo 11 (by decide) wd_606 rfl rfl d_Mo_beat_15 rfl ?_
      refine mk_istoren (nx := 19) X [(2, .int (zi (I 0 11))), (0, .ref (ad 0)), (1, .int (zi a))] d_Mo_beat_18 (by decide) rfl rfl ?_
      refine mk_aloadn (nx := 20) X 1 d_Mo_beat_19 rfl rfl ?_
      refine mk_iloadn (nx := 21) X 2 d_Mo_beat_20 rfl rfl ?_
      refine mk_putf (nx := 24) (ty := .int) X t_Mo t_Mo_ok n_Mo 0 (by decide) (mh_Mo cs ad _) rfl in_Mo 11 (by decide) wd_606 rfl rfl (by decide +kernel) rfl rfl (Nat.le_of_ble_eq_true rfl) ((mh_Mo cs ad _).trans rfl) d_Mo_beat_21 rfl ?_
      obtain ⟨J1, hJ1⟩ : ∃ z, z = up2 I 0 11 a := ⟨_, rfl⟩
      refine mk_same hJ1.symm ?_
      have hJ1s : J1 0 11 = a := hJ1 ▸ up2_ss I 0 11 a
      have hJ1o : ∀ a b, (a ≠ 0 ∨ b ≠ 11) → J1 a b = I a b := hJ1 ▸ up2_o I 0 11 a
      refine mk_iloadn (nx := 25) X 0 d_Mo_beat_24 rfl rfl ?_
      exact hret _ _ _ _ d_Mo_beat_25 (by exact ⟨by rw [an_beat, if_neg (by omega)]; omega, by rw [nw_beat, if_neg (by omega), hJ1]; exact mo_s_beat h (by omega)⟩)
    · skip
      refine mk_bipush (nx := 13) X d_Mo_beat_11 (by decide) rfl ?_
      exact hret _ _ _ _ d_Mo_beat_13 (by exact ⟨by rw [an_beat, if_pos (by omega)], by rw [nw_beat, if_pos (by omega)]; exact h⟩)

-- CanonMakerModel.rules(I)I
theorem d_Mo_rules_0 : decode prog_9_method_13_code 0 = .ok (.iload_n 1, 1) := by decide +kernel
theorem d_Mo_rules_1 : decode prog_9_method_13_code 1 = .ok (.ifCond .lt 10, 3) := by decide +kernel
theorem d_Mo_rules_4 : decode prog_9_method_13_code 4 = .ok (.iload_n 1, 1) := by decide +kernel
theorem d_Mo_rules_5 : decode prog_9_method_13_code 5 = .ok (.sipush 255, 3) := by decide +kernel
theorem d_Mo_rules_8 : decode prog_9_method_13_code 8 = .ok (.if_icmp .le 6, 3) := by decide +kernel
theorem d_Mo_rules_11 : decode prog_9_method_13_code 11 = .ok (.bipush (-2), 2) := by decide +kernel
theorem d_Mo_rules_13 : decode prog_9_method_13_code 13 = .ok (.ireturn, 1) := by decide +kernel
theorem d_Mo_rules_14 : decode prog_9_method_13_code 14 = .ok (.aload_n 0, 1) := by decide +kernel
theorem d_Mo_rules_15 : decode prog_9_method_13_code 15 = .ok (.getfield 75, 3) := by decide +kernel
theorem d_Mo_rules_18 : decode prog_9_method_13_code 18 = .ok (.istore_n 2, 1) := by decide +kernel
theorem d_Mo_rules_19 : decode prog_9_method_13_code 19 = .ok (.aload_n 0, 1) := by decide +kernel
theorem d_Mo_rules_20 : decode prog_9_method_13_code 20 = .ok (.iload_n 1, 1) := by decide +kernel
theorem d_Mo_rules_21 : decode prog_9_method_13_code 21 = .ok (.putfield 75, 3) := by decide +kernel
theorem d_Mo_rules_24 : decode prog_9_method_13_code 24 = .ok (.iload_n 2, 1) := by decide +kernel
theorem d_Mo_rules_25 : decode prog_9_method_13_code 25 = .ok (.ireturn, 1) := by decide +kernel
abbrev rm_Mo_rules : Room := { frames := 0, cells := 0, slots := 0, locals := 0 }
set_option maxHeartbeats 4000000 in
set_option maxRecDepth 100000 in
theorem c_Mo_rules (l : Launch) (D : va_G) (cs : Nat → ClassId) (ad : Nat → Nat) (hi : mo_inj ad) (c I : Wo) (h : moR c I) (a : Int) (h_a : -2147483648 ≤ a ∧ a < 2147483648) : mo_C l D cs ad y_Mo_rules ws_Mo_rules rm_Mo_rules [.ref (ad 0), .int (zi a)] I (mk_pi (fun r J => r = an_rules c a ∧ moR (nw_rules c a) J)) := by
  refine mk_meti (own := "CanonMakerModel") (Ts := wA) hi (Nat.le_refl _) (by decide) rfl (fun w h => List.mem_cons_of_mem _ h) rfl (Nat.le_of_ble_eq_true rfl) [(0, .ref (ad 0)), (1, .int (zi a))] rfl ?_
  intro p_ e_ s_ m_ as_ bl_ me_ co_ Q_ X hret
  obtain ⟨⟨⟨hn, hN⟩, ⟨hlo, hsc, hbt, hru, hrd, hst⟩, ⟨hV, hV0⟩, ⟨hfc, hF⟩⟩, ⟨i12, iN⟩, ⟨⟨i50, i51, i52, i53, i54⟩, i07, i09⟩, iV, ⟨i010, iF⟩⟩ := id h
  refine mk_iloadn (nx := 1) X 1 d_Mo_rules_0 rfl rfl ?_
  refine mk_if_lt (tgt := 11) (nx := 4) X d_Mo_rules_1 (by omega) (by decide) rfl (fun c1 => ?_) (fun c1 => ?_)
  · skip
    refine mk_bipush (nx := 13) X d_Mo_rules_11 (by decide) rfl ?_
    exact hret _ _ _ _ d_Mo_rules_13 (by exact ⟨by rw [an_rules, if_pos (by omega)], by rw [nw_rules, if_pos (by omega)]; exact h⟩)
  · skip
    refine mk_iloadn (nx := 5) X 1 d_Mo_rules_4 rfl rfl ?_
    refine mk_sipush (nx := 8) X d_Mo_rules_5 (by decide) rfl ?_
    refine mk_icmp_le (tgt := 14) (nx := 11) X d_Mo_rules_8 (by omega) (by omega) (by decide) rfl (fun c8 => ?_) (fun c8 => ?_)
    · skip
      refine mk_aloadn (nx := 15) X 0 d_Mo_rules_14 rfl rfl ?_
      refine mk_get (nx := 18) (v := .int (zi (I 0 13))) X 0 (by decide) (mh_Mo cs ad _) rfl in_Mo 13 (by decide) wd_608 rfl rfl d_Mo_rules_15 rfl ?_
      refine mk_istoren (nx := 19) X [(2, .int (zi (I 0 13))), (0, .ref (ad 0)), (1, .int (zi a))] d_Mo_rules_18 (by decide) rfl rfl ?_
      refine mk_aloadn (nx := 20) X 1 d_Mo_rules_19 rfl rfl ?_
      refine mk_iloadn (nx := 21) X 2 d_Mo_rules_20 rfl rfl ?_
      refine mk_putf (nx := 24) (ty := .int) X t_Mo t_Mo_ok n_Mo 0 (by decide) (mh_Mo cs ad _) rfl in_Mo 13 (by decide) wd_608 rfl rfl (by decide +kernel) rfl rfl (Nat.le_of_ble_eq_true rfl) ((mh_Mo cs ad _).trans rfl) d_Mo_rules_21 rfl ?_
      obtain ⟨J1, hJ1⟩ : ∃ z, z = up2 I 0 13 a := ⟨_, rfl⟩
      refine mk_same hJ1.symm ?_
      have hJ1s : J1 0 13 = a := hJ1 ▸ up2_ss I 0 13 a
      have hJ1o : ∀ a b, (a ≠ 0 ∨ b ≠ 13) → J1 a b = I a b := hJ1 ▸ up2_o I 0 13 a
      refine mk_iloadn (nx := 25) X 0 d_Mo_rules_24 rfl rfl ?_
      exact hret _ _ _ _ d_Mo_rules_25 (by exact ⟨by rw [an_rules, if_neg (by omega)]; omega, by rw [nw_rules, if_neg (by omega), hJ1]; exact mo_s_rules h (by omega)⟩)
    · skip
      refine mk_bipush (nx := 13) X d_Mo_rules_11 (by decide) rfl ?_
      exact hret _ _ _ _ d_Mo_rules_13 (by exact ⟨by rw [an_rules, if_pos (by omega)], by rw [nw_rules, if_pos (by omega)]; exact h⟩)

-- CanonMakerModel.round(I)I
theorem d_Mo_round_0 : decode prog_9_method_12_code 0 = .ok (.iload_n 1, 1) := by decide +kernel
theorem d_Mo_round_1 : decode prog_9_method_12_code 1 = .ok (.ifCond .lt 10, 3) := by decide +kernel
theorem d_Mo_round_4 : decode prog_9_method_12_code 4 = .ok (.iload_n 1, 1) := by decide +kernel
theorem d_Mo_round_5 : decode prog_9_method_12_code 5 = .ok (.sipush 400, 3) := by decide +kernel
theorem d_Mo_round_8 : decode prog_9_method_12_code 8 = .ok (.if_icmp .le 6, 3) := by decide +kernel
theorem d_Mo_round_11 : decode prog_9_method_12_code 11 = .ok (.bipush (-2), 2) := by decide +kernel
theorem d_Mo_round_13 : decode prog_9_method_12_code 13 = .ok (.ireturn, 1) := by decide +kernel
theorem d_Mo_round_14 : decode prog_9_method_12_code 14 = .ok (.aload_n 0, 1) := by decide +kernel
theorem d_Mo_round_15 : decode prog_9_method_12_code 15 = .ok (.getfield 72, 3) := by decide +kernel
theorem d_Mo_round_18 : decode prog_9_method_12_code 18 = .ok (.istore_n 2, 1) := by decide +kernel
theorem d_Mo_round_19 : decode prog_9_method_12_code 19 = .ok (.aload_n 0, 1) := by decide +kernel
theorem d_Mo_round_20 : decode prog_9_method_12_code 20 = .ok (.iload_n 1, 1) := by decide +kernel
theorem d_Mo_round_21 : decode prog_9_method_12_code 21 = .ok (.putfield 72, 3) := by decide +kernel
theorem d_Mo_round_24 : decode prog_9_method_12_code 24 = .ok (.iload_n 2, 1) := by decide +kernel
theorem d_Mo_round_25 : decode prog_9_method_12_code 25 = .ok (.ireturn, 1) := by decide +kernel
abbrev rm_Mo_round : Room := { frames := 0, cells := 0, slots := 0, locals := 0 }
set_option maxHeartbeats 4000000 in
set_option maxRecDepth 100000 in
theorem c_Mo_round (l : Launch) (D : va_G) (cs : Nat → ClassId) (ad : Nat → Nat) (hi : mo_inj ad) (c I : Wo) (h : moR c I) (a : Int) (h_a : -2147483648 ≤ a ∧ a < 2147483648) : mo_C l D cs ad y_Mo_round ws_Mo_round rm_Mo_round [.ref (ad 0), .int (zi a)] I (mk_pi (fun r J => r = an_round c a ∧ moR (nw_round c a) J)) := by
  refine mk_meti (own := "CanonMakerModel") (Ts := wA) hi (Nat.le_refl _) (by decide) rfl (fun w h => List.mem_cons_of_mem _ h) rfl (Nat.le_of_ble_eq_true rfl) [(0, .ref (ad 0)), (1, .int (zi a))] rfl ?_
  intro p_ e_ s_ m_ as_ bl_ me_ co_ Q_ X hret
  obtain ⟨⟨⟨hn, hN⟩, ⟨hlo, hsc, hbt, hru, hrd, hst⟩, ⟨hV, hV0⟩, ⟨hfc, hF⟩⟩, ⟨i12, iN⟩, ⟨⟨i50, i51, i52, i53, i54⟩, i07, i09⟩, iV, ⟨i010, iF⟩⟩ := id h
  refine mk_iloadn (nx := 1) X 1 d_Mo_round_0 rfl rfl ?_
  refine mk_if_lt (tgt := 11) (nx := 4) X d_Mo_round_1 (by omega) (by decide) rfl (fun c1 => ?_) (fun c1 => ?_)
  · skip
    refine mk_bipush (nx := 13) X d_Mo_round_11 (by decide) rfl ?_
    exact hret _ _ _ _ d_Mo_round_13 (by exact ⟨by rw [an_round, if_pos (by omega)], by rw [nw_round, if_pos (by omega)]; exact h⟩)
  · skip
    refine mk_iloadn (nx := 5) X 1 d_Mo_round_4 rfl rfl ?_
    refine mk_sipush (nx := 8) X d_Mo_round_5 (by decide) rfl ?_
    refine mk_icmp_le (tgt := 14) (nx := 11) X d_Mo_round_8 (by omega) (by omega) (by decide) rfl (fun c8 => ?_) (fun c8 => ?_)
    · skip
      refine mk_aloadn (nx := 15) X 0 d_Mo_round_14 rfl rfl ?_
      refine mk_get (nx := 18) (v := .int (zi (I 0 12))) X 0 (by decide) (mh_Mo cs ad _) rfl in_Mo 12 (by decide) wd_607 rfl rfl d_Mo_round_15 rfl ?_
      refine mk_istoren (nx := 19) X [(2, .int (zi (I 0 12))), (0, .ref (ad 0)), (1, .int (zi a))] d_Mo_round_18 (by decide) rfl rfl ?_
      refine mk_aloadn (nx := 20) X 1 d_Mo_round_19 rfl rfl ?_
      refine mk_iloadn (nx := 21) X 2 d_Mo_round_20 rfl rfl ?_
      refine mk_putf (nx := 24) (ty := .int) X t_Mo t_Mo_ok n_Mo 0 (by decide) (mh_Mo cs ad _) rfl in_Mo 12 (by decide) wd_607 rfl rfl (by decide +kernel) rfl rfl (Nat.le_of_ble_eq_true rfl) ((mh_Mo cs ad _).trans rfl) d_Mo_round_21 rfl ?_
      obtain ⟨J1, hJ1⟩ : ∃ z, z = up2 I 0 12 a := ⟨_, rfl⟩
      refine mk_same hJ1.symm ?_
      have hJ1s : J1 0 12 = a := hJ1 ▸ up2_ss I 0 12 a
      have hJ1o : ∀ a b, (a ≠ 0 ∨ b ≠ 12) → J1 a b = I a b := hJ1 ▸ up2_o I 0 12 a
      refine mk_iloadn (nx := 25) X 0 d_Mo_round_24 rfl rfl ?_
      exact hret _ _ _ _ d_Mo_round_25 (by exact ⟨by rw [an_round, if_neg (by omega)]; omega, by rw [nw_round, if_neg (by omega), hJ1]; exact mo_s_round h (by omega)⟩)
    · skip
      refine mk_bipush (nx := 13) X d_Mo_round_11 (by decide) rfl ?_
      exact hret _ _ _ _ d_Mo_round_13 (by exact ⟨by rw [an_round, if_pos (by omega)], by rw [nw_round, if_pos (by omega)]; exact h⟩)

-- CanonMakerModel.steps()I
theorem d_Mo_steps_0 : decode prog_9_method_35_code 0 = .ok (.aload_n 0, 1) := by decide +kernel
theorem d_Mo_steps_1 : decode prog_9_method_35_code 1 = .ok (.getfield 150, 3) := by decide +kernel
theorem d_Mo_steps_4 : decode prog_9_method_35_code 4 = .ok (.ireturn, 1) := by decide +kernel
abbrev rm_Mo_steps : Room := { frames := 0, cells := 0, slots := 0, locals := 0 }
set_option maxHeartbeats 4000000 in
set_option maxRecDepth 100000 in
theorem c_Mo_steps (l : Launch) (D : va_G) (cs : Nat → ClassId) (ad : Nat → Nat) (hi : mo_inj ad) (c I : Wo) (h : moR c I)  : mo_C l D cs ad y_Mo_steps ws_Mo_steps rm_Mo_steps [.ref (ad 0)] I (mk_pi (fun r J => r = c 0 7 ∧ moR c J)) := by
  refine mk_meti (own := "CanonMakerModel") (Ts := wA) hi (Nat.le_refl _) (by decide) rfl (fun w h => List.mem_cons_of_mem _ h) rfl (Nat.le_of_ble_eq_true rfl) [(0, .ref (ad 0))] rfl ?_
  intro p_ e_ s_ m_ as_ bl_ me_ co_ Q_ X hret
  obtain ⟨⟨⟨hn, hN⟩, ⟨hlo, hsc, hbt, hru, hrd, hst⟩, ⟨hV, hV0⟩, ⟨hfc, hF⟩⟩, ⟨i12, iN⟩, ⟨⟨i50, i51, i52, i53, i54⟩, i07, i09⟩, iV, ⟨i010, iF⟩⟩ := id h
  refine mk_aloadn (nx := 1) X 0 d_Mo_steps_0 rfl rfl ?_
  refine mk_get (nx := 4) (v := .int (zi (I 0 14))) X 0 (by decide) (mh_Mo cs ad _) rfl in_Mo 14 (by decide) wd_609 rfl rfl d_Mo_steps_1 rfl ?_
  exact hret _ _ _ _ d_Mo_steps_4 (by exact ⟨by omega, h⟩)

-- CanonMakerModel.shift(II)I
theorem d_Mo_shift_0 : decode prog_9_method_37_code 0 = .ok (.iload_n 1, 1) := by decide +kernel
theorem d_Mo_shift_1 : decode prog_9_method_37_code 1 = .ok (.ifCond .lt 11, 3) := by decide +kernel
theorem d_Mo_shift_4 : decode prog_9_method_37_code 4 = .ok (.iload_n 1, 1) := by decide +kernel
theorem d_Mo_shift_5 : decode prog_9_method_37_code 5 = .ok (.aload_n 0, 1) := by decide +kernel
theorem d_Mo_shift_6 : decode prog_9_method_37_code 6 = .ok (.getfield 156, 3) := by decide +kernel
theorem d_Mo_shift_9 : decode prog_9_method_37_code 9 = .ok (.if_icmp .lt 7, 3) := by decide +kernel
theorem d_Mo_shift_12 : decode prog_9_method_37_code 12 = .ok (.iconst (-1), 1) := by decide +kernel
theorem d_Mo_shift_13 : decode prog_9_method_37_code 13 = .ok (.goto 32, 3) := by decide +kernel
theorem d_Mo_shift_16 : decode prog_9_method_37_code 16 = .ok (.iload_n 2, 1) := by decide +kernel
theorem d_Mo_shift_17 : decode prog_9_method_37_code 17 = .ok (.ifCond .ne 12, 3) := by decide +kernel
theorem d_Mo_shift_20 : decode prog_9_method_37_code 20 = .ok (.aload_n 0, 1) := by decide +kernel
theorem d_Mo_shift_21 : decode prog_9_method_37_code 21 = .ok (.getfield 57, 3) := by decide +kernel
theorem d_Mo_shift_24 : decode prog_9_method_37_code 24 = .ok (.iload_n 1, 1) := by decide +kernel
theorem d_Mo_shift_25 : decode prog_9_method_37_code 25 = .ok (.iaload, 1) := by decide +kernel
theorem d_Mo_shift_26 : decode prog_9_method_37_code 26 = .ok (.goto 19, 3) := by decide +kernel
theorem d_Mo_shift_29 : decode prog_9_method_37_code 29 = .ok (.iload_n 2, 1) := by decide +kernel
theorem d_Mo_shift_30 : decode prog_9_method_37_code 30 = .ok (.iconst 1, 1) := by decide +kernel
theorem d_Mo_shift_31 : decode prog_9_method_37_code 31 = .ok (.if_icmp .ne 12, 3) := by decide +kernel
theorem d_Mo_shift_34 : decode prog_9_method_37_code 34 = .ok (.aload_n 0, 1) := by decide +kernel
theorem d_Mo_shift_35 : decode prog_9_method_37_code 35 = .ok (.getfield 60, 3) := by decide +kernel
theorem d_Mo_shift_38 : decode prog_9_method_37_code 38 = .ok (.iload_n 1, 1) := by decide +kernel
theorem d_Mo_shift_39 : decode prog_9_method_37_code 39 = .ok (.iaload, 1) := by decide +kernel
theorem d_Mo_shift_40 : decode prog_9_method_37_code 40 = .ok (.goto 5, 3) := by decide +kernel
theorem d_Mo_shift_43 : decode prog_9_method_37_code 43 = .ok (.bipush (-2), 2) := by decide +kernel
theorem d_Mo_shift_45 : decode prog_9_method_37_code 45 = .ok (.ireturn, 1) := by decide +kernel
abbrev rm_Mo_shift : Room := { frames := 0, cells := 0, slots := 0, locals := 0 }
set_option maxHeartbeats 4000000 in
set_option maxRecDepth 100000 in
theorem c_Mo_shift (l : Launch) (D : va_G) (cs : Nat → ClassId) (ad : Nat → Nat) (hi : mo_inj ad) (c I : Wo) (h : moR c I) (k : Int) (h_k : -2147483648 ≤ k ∧ k < 2147483648) (w : Int) (h_w : -2147483648 ≤ w ∧ w < 2147483648) : mo_C l D cs ad y_Mo_shift ws_Mo_shift rm_Mo_shift [.ref (ad 0), .int (zi k), .int (zi w)] I (mk_pi (fun r J => r = an_shift c k w ∧ moR c J)) := by
  refine mk_meti (own := "CanonMakerModel") (Ts := wA) hi (Nat.le_refl _) (by decide) rfl (fun w h => List.mem_cons_of_mem _ h) rfl (Nat.le_of_ble_eq_true rfl) [(0, .ref (ad 0)), (1, .int (zi k)), (2, .int (zi w))] rfl ?_
  intro p_ e_ s_ m_ as_ bl_ me_ co_ Q_ X hret
  obtain ⟨⟨⟨hn, hN⟩, ⟨hlo, hsc, hbt, hru, hrd, hst⟩, ⟨hV, hV0⟩, ⟨hfc, hF⟩⟩, ⟨i12, iN⟩, ⟨⟨i50, i51, i52, i53, i54⟩, i07, i09⟩, iV, ⟨i010, iF⟩⟩ := id h
  refine mk_iloadn (nx := 1) X 1 d_Mo_shift_0 rfl rfl ?_
  refine mk_if_lt (tgt := 12) (nx := 4) X d_Mo_shift_1 (by omega) (by decide) rfl (fun c1 => ?_) (fun c1 => ?_)
  · skip
    refine mk_iconst (nx := 13) X d_Mo_shift_12 rfl ?_
    refine mk_goto (tgt := 45) X d_Mo_shift_13 (by decide) ?_
    exact hret _ _ _ _ d_Mo_shift_45 (by first | exact ⟨by rw [an_shift, if_pos (by omega)], h⟩ | exact ⟨by rw [an_shift, if_neg (by omega), if_pos (by omega)]; exact (iF k.toNat (by omega)).1, h⟩ | exact ⟨by rw [an_shift, if_neg (by omega), if_neg (by omega), if_pos (by omega)]; exact (iF k.toNat (by omega)).2, h⟩ | exact ⟨by rw [an_shift, if_neg (by omega), if_neg (by omega), if_neg (by omega)], h⟩)
  · skip
    refine mk_iloadn (nx := 5) X 1 d_Mo_shift_4 rfl rfl ?_
    refine mk_aloadn (nx := 6) X 0 d_Mo_shift_5 rfl rfl ?_
    refine mk_get (nx := 9) (v := .int (zi (I 0 27))) X 0 (by decide) (mh_Mo cs ad _) rfl in_Mo 27 (by decide) wd_622 rfl rfl d_Mo_shift_6 rfl ?_
    refine mk_icmp_lt (tgt := 16) (nx := 12) X d_Mo_shift_9 (by omega) (by omega) (by decide) rfl (fun c9 => ?_) (fun c9 => ?_)
    · skip
      refine mk_iloadn (nx := 17) X 2 d_Mo_shift_16 rfl rfl ?_
      refine mk_if_ne (tgt := 29) (nx := 20) X d_Mo_shift_17 (by omega) (by decide) rfl (fun c17 => ?_) (fun c17 => ?_)
      · skip
        refine mk_iloadn (nx := 30) X 2 d_Mo_shift_29 rfl rfl ?_
        refine mk_iconst (nx := 31) X d_Mo_shift_30 rfl ?_
        refine mk_icmp_ne (tgt := 43) (nx := 34) X d_Mo_shift_31 (by omega) (by omega) (by decide) rfl (fun c31 => ?_) (fun c31 => ?_)
        · skip
          refine mk_bipush (nx := 45) X d_Mo_shift_43 (by decide) rfl ?_
          exact hret _ _ _ _ d_Mo_shift_45 (by first | exact ⟨by rw [an_shift, if_pos (by omega)], h⟩ | exact ⟨by rw [an_shift, if_neg (by omega), if_pos (by omega)]; exact (iF k.toNat (by omega)).1, h⟩ | exact ⟨by rw [an_shift, if_neg (by omega), if_neg (by omega), if_pos (by omega)]; exact (iF k.toNat (by omega)).2, h⟩ | exact ⟨by rw [an_shift, if_neg (by omega), if_neg (by omega), if_neg (by omega)], h⟩)
        · skip
          refine mk_aloadn (nx := 35) X 0 d_Mo_shift_34 rfl rfl ?_
          refine mk_get (nx := 38) (v := .ref (ad 14)) X 0 (by decide) (mh_Mo cs ad _) rfl in_Mo 26 (by decide) wd_621 rfl rfl d_Mo_shift_35 rfl ?_
          refine mk_iloadn (nx := 39) X 1 d_Mo_shift_38 rfl rfl ?_
          refine mk_iald (nx := 40) (j := k.toNat) X 14 0 (by decide) (mh_shiftIntervals cs ad _) rfl (by omega) (by omega) (by decide) rfl d_Mo_shift_39 rfl ?_
          refine mk_goto (tgt := 45) X d_Mo_shift_40 (by decide) ?_
          exact hret _ _ _ _ d_Mo_shift_45 (by first | exact ⟨by rw [an_shift, if_pos (by omega)], h⟩ | exact ⟨by rw [an_shift, if_neg (by omega), if_pos (by omega)]; exact (iF k.toNat (by omega)).1, h⟩ | exact ⟨by rw [an_shift, if_neg (by omega), if_neg (by omega), if_pos (by omega)]; exact (iF k.toNat (by omega)).2, h⟩ | exact ⟨by rw [an_shift, if_neg (by omega), if_neg (by omega), if_neg (by omega)], h⟩)
      · skip
        refine mk_aloadn (nx := 21) X 0 d_Mo_shift_20 rfl rfl ?_
        refine mk_get (nx := 24) (v := .ref (ad 13)) X 0 (by decide) (mh_Mo cs ad _) rfl in_Mo 25 (by decide) wd_620 rfl rfl d_Mo_shift_21 rfl ?_
        refine mk_iloadn (nx := 25) X 1 d_Mo_shift_24 rfl rfl ?_
        refine mk_iald (nx := 26) (j := k.toNat) X 13 0 (by decide) (mh_shiftDelays cs ad _) rfl (by omega) (by omega) (by decide) rfl d_Mo_shift_25 rfl ?_
        refine mk_goto (tgt := 45) X d_Mo_shift_26 (by decide) ?_
        exact hret _ _ _ _ d_Mo_shift_45 (by first | exact ⟨by rw [an_shift, if_pos (by omega)], h⟩ | exact ⟨by rw [an_shift, if_neg (by omega), if_pos (by omega)]; exact (iF k.toNat (by omega)).1, h⟩ | exact ⟨by rw [an_shift, if_neg (by omega), if_neg (by omega), if_pos (by omega)]; exact (iF k.toNat (by omega)).2, h⟩ | exact ⟨by rw [an_shift, if_neg (by omega), if_neg (by omega), if_neg (by omega)], h⟩)
    · skip
      refine mk_iconst (nx := 13) X d_Mo_shift_12 rfl ?_
      refine mk_goto (tgt := 45) X d_Mo_shift_13 (by decide) ?_
      exact hret _ _ _ _ d_Mo_shift_45 (by first | exact ⟨by rw [an_shift, if_pos (by omega)], h⟩ | exact ⟨by rw [an_shift, if_neg (by omega), if_pos (by omega)]; exact (iF k.toNat (by omega)).1, h⟩ | exact ⟨by rw [an_shift, if_neg (by omega), if_neg (by omega), if_pos (by omega)]; exact (iF k.toNat (by omega)).2, h⟩ | exact ⟨by rw [an_shift, if_neg (by omega), if_neg (by omega), if_neg (by omega)], h⟩)

-- CanonMakerModel.lineSize(I)I
theorem d_Mo_lineSize_0 : decode prog_9_method_14_code 0 = .ok (.aload_n 0, 1) := by decide +kernel
theorem d_Mo_lineSize_1 : decode prog_9_method_14_code 1 = .ok (.invokevirtual 78, 3) := by decide +kernel
theorem d_Mo_lineSize_4 : decode prog_9_method_14_code 4 = .ok (.aload_n 0, 1) := by decide +kernel
theorem d_Mo_lineSize_5 : decode prog_9_method_14_code 5 = .ok (.getfield 29, 3) := by decide +kernel
theorem d_Mo_lineSize_8 : decode prog_9_method_14_code 8 = .ok (.iload_n 1, 1) := by decide +kernel
theorem d_Mo_lineSize_9 : decode prog_9_method_14_code 9 = .ok (.iaload, 1) := by decide +kernel
theorem d_Mo_lineSize_10 : decode prog_9_method_14_code 10 = .ok (.imul, 1) := by decide +kernel
theorem d_Mo_lineSize_11 : decode prog_9_method_14_code 11 = .ok (.ireturn, 1) := by decide +kernel
abbrev rm_Mo_lineSize : Room := { frames := 1, cells := 0, slots := 0, locals := 22 }
set_option maxHeartbeats 4000000 in
set_option maxRecDepth 100000 in
theorem c_Mo_lineSize (l : Launch) (D : va_G) (cs : Nat → ClassId) (ad : Nat → Nat) (hi : mo_inj ad) (c I : Wo) (h : moR c I) (v : Nat) (hv : v < 4) : mo_C l D cs ad y_Mo_lineSize ws_Mo_lineSize rm_Mo_lineSize [.ref (ad 0), .int (zi (v : Int))] I (mk_pi (fun r J => I = J ∧ r = an_size c * c (3 + v) 4)) := by
  refine mk_meti (own := "CanonMakerModel") (Ts := wA) hi (Nat.le_refl _) (by decide) rfl (fun w h => List.mem_cons_of_mem _ h) rfl (Nat.le_of_ble_eq_true rfl) [(0, .ref (ad 0)), (1, .int (zi (v : Int)))] rfl ?_
  intro p_ e_ s_ m_ as_ bl_ me_ co_ Q_ X hret
  obtain ⟨⟨⟨hn, hN⟩, ⟨hlo, hsc, hbt, hru, hrd, hst⟩, ⟨hV, hV0⟩, ⟨hfc, hF⟩⟩, ⟨i12, iN⟩, ⟨⟨i50, i51, i52, i53, i54⟩, i07, i09⟩, iV, ⟨i010, iF⟩⟩ := id h
  have hv4 := iV v hv
  refine mk_aloadn (nx := 1) X 0 d_Mo_lineSize_0 rfl rfl ?_
  refine mk_callVi (nx := 4) (n := 0) (As := []) (rest := []) X 0 (by decide) (mh_Mo cs ad _) rfl (c_Mo_size l D cs ad hi c I h) (g_Mo_size wd_743) rfl ⟨rfl, rfl⟩ (by decide +kernel) ⟨by decide, by decide⟩ rfl (Nat.le_of_ble_eq_true rfl) rfl d_Mo_lineSize_1 rfl ?_
  intro r1 J1 hJ1
  obtain ⟨rfl, rfl⟩ := hJ1
  refine mk_aloadn (nx := 5) X 0 d_Mo_lineSize_4 rfl rfl ?_
  refine mk_get (nx := 8) (v := .ref (ad 7)) X 0 (by decide) (mh_Mo cs ad _) rfl in_Mo 7 (by decide) wd_602 rfl rfl d_Mo_lineSize_5 rfl ?_
  refine mk_iloadn (nx := 9) X 1 d_Mo_lineSize_8 rfl rfl ?_
  refine mk_iald (nx := 10) (j := v) X 7 0 (by decide) (mh_factors cs ad _) rfl (by omega) (by omega) (by decide) rfl d_Mo_lineSize_9 rfl ?_
  refine mk_imul (nx := 11) X d_Mo_lineSize_10 rfl ?_
  exact hret _ _ _ _ d_Mo_lineSize_11 (by exact ⟨rfl, by rw [hv4.2.2.2.2]⟩)

-- CanonMakerModel.endOf()I
theorem d_Mo_endOf_0 : decode prog_9_method_17_code 0 = .ok (.iconst 0, 1) := by decide +kernel
theorem d_Mo_endOf_1 : decode prog_9_method_17_code 1 = .ok (.istore_n 1, 1) := by decide +kernel
theorem d_Mo_endOf_2 : decode prog_9_method_17_code 2 = .ok (.iconst 0, 1) := by decide +kernel
theorem d_Mo_endOf_3 : decode prog_9_method_17_code 3 = .ok (.istore_n 2, 1) := by decide +kernel
theorem d_Mo_endOf_4 : decode prog_9_method_17_code 4 = .ok (.iload_n 2, 1) := by decide +kernel
theorem d_Mo_endOf_5 : decode prog_9_method_17_code 5 = .ok (.iconst 4, 1) := by decide +kernel
theorem d_Mo_endOf_6 : decode prog_9_method_17_code 6 = .ok (.if_icmp .ge 42, 3) := by decide +kernel
theorem d_Mo_endOf_9 : decode prog_9_method_17_code 9 = .ok (.aload_n 0, 1) := by decide +kernel
theorem d_Mo_endOf_10 : decode prog_9_method_17_code 10 = .ok (.getfield 20, 3) := by decide +kernel
theorem d_Mo_endOf_13 : decode prog_9_method_17_code 13 = .ok (.iload_n 2, 1) := by decide +kernel
theorem d_Mo_endOf_14 : decode prog_9_method_17_code 14 = .ok (.iaload, 1) := by decide +kernel
theorem d_Mo_endOf_15 : decode prog_9_method_17_code 15 = .ok (.aload_n 0, 1) := by decide +kernel
theorem d_Mo_endOf_16 : decode prog_9_method_17_code 16 = .ok (.iload_n 2, 1) := by decide +kernel
theorem d_Mo_endOf_17 : decode prog_9_method_17_code 17 = .ok (.invokevirtual 89, 3) := by decide +kernel
theorem d_Mo_endOf_20 : decode prog_9_method_17_code 20 = .ok (.iadd, 1) := by decide +kernel
theorem d_Mo_endOf_21 : decode prog_9_method_17_code 21 = .ok (.istore_n 3, 1) := by decide +kernel
theorem d_Mo_endOf_22 : decode prog_9_method_17_code 22 = .ok (.aload_n 0, 1) := by decide +kernel
theorem d_Mo_endOf_23 : decode prog_9_method_17_code 23 = .ok (.getfield 16, 3) := by decide +kernel
theorem d_Mo_endOf_26 : decode prog_9_method_17_code 26 = .ok (.iload_n 2, 1) := by decide +kernel
theorem d_Mo_endOf_27 : decode prog_9_method_17_code 27 = .ok (.baload, 1) := by decide +kernel
theorem d_Mo_endOf_28 : decode prog_9_method_17_code 28 = .ok (.ifCond .eq 12, 3) := by decide +kernel
theorem d_Mo_endOf_31 : decode prog_9_method_17_code 31 = .ok (.iload_n 3, 1) := by decide +kernel
theorem d_Mo_endOf_32 : decode prog_9_method_17_code 32 = .ok (.iload_n 1, 1) := by decide +kernel
theorem d_Mo_endOf_33 : decode prog_9_method_17_code 33 = .ok (.if_icmp .le 7, 3) := by decide +kernel
theorem d_Mo_endOf_36 : decode prog_9_method_17_code 36 = .ok (.iload_n 3, 1) := by decide +kernel
theorem d_Mo_endOf_37 : decode prog_9_method_17_code 37 = .ok (.goto 4, 3) := by decide +kernel
theorem d_Mo_endOf_40 : decode prog_9_method_17_code 40 = .ok (.iload_n 1, 1) := by decide +kernel
theorem d_Mo_endOf_41 : decode prog_9_method_17_code 41 = .ok (.istore_n 1, 1) := by decide +kernel
theorem d_Mo_endOf_42 : decode prog_9_method_17_code 42 = .ok (.iinc 2 1, 3) := by decide +kernel
theorem d_Mo_endOf_45 : decode prog_9_method_17_code 45 = .ok (.goto (-41), 3) := by decide +kernel
theorem d_Mo_endOf_48 : decode prog_9_method_17_code 48 = .ok (.aload_n 0, 1) := by decide +kernel
theorem d_Mo_endOf_49 : decode prog_9_method_17_code 49 = .ok (.getfield 72, 3) := by decide +kernel
theorem d_Mo_endOf_52 : decode prog_9_method_17_code 52 = .ok (.ifCond .le 10, 3) := by decide +kernel
theorem d_Mo_endOf_55 : decode prog_9_method_17_code 55 = .ok (.aload_n 0, 1) := by decide +kernel
theorem d_Mo_endOf_56 : decode prog_9_method_17_code 56 = .ok (.getfield 72, 3) := by decide +kernel
theorem d_Mo_endOf_59 : decode prog_9_method_17_code 59 = .ok (.goto 4, 3) := by decide +kernel
theorem d_Mo_endOf_62 : decode prog_9_method_17_code 62 = .ok (.iload_n 1, 1) := by decide +kernel
theorem d_Mo_endOf_63 : decode prog_9_method_17_code 63 = .ok (.ireturn, 1) := by decide +kernel
abbrev rm_Mo_endOf : Room := { frames := 2, cells := 0, slots := 0, locals := 43 }
set_option maxHeartbeats 4000000 in
set_option maxRecDepth 100000 in
theorem c_Mo_endOf (l : Launch) (D : va_G) (cs : Nat → ClassId) (ad : Nat → Nat) (hi : mo_inj ad) (c I : Wo) (h : moR c I) : mo_C l D cs ad y_Mo_endOf ws_Mo_endOf rm_Mo_endOf [.ref (ad 0)] I (mk_pi (fun r J => I = J ∧ r = an_end c)) := by
  refine mk_meti (own := "CanonMakerModel") (Ts := wA) hi (Nat.le_refl _) (by decide) rfl (fun w h => List.mem_cons_of_mem _ h) rfl (Nat.le_of_ble_eq_true rfl) [(0, .ref (ad 0))] rfl ?_
  intro p_ e_ s_ m_ as_ bl_ me_ co_ Q_ X hret
  obtain ⟨⟨⟨hn, hN⟩, ⟨hlo, hsc, hbt, hru, hrd, hst⟩, ⟨hV, hV0⟩, ⟨hfc, hF⟩⟩, ⟨i12, iN⟩, ⟨⟨i50, i51, i52, i53, i54⟩, i07, i09⟩, iV, ⟨i010, iF⟩⟩ := id h
  have L4 : ∀ nf : Nat, ∀ (v : Nat) (x : Int), (v ≤ 4) → (x = eo c v) → 4 - v < nf → mk_A p_ l e_ rm_Mo_endOf s_ m_ as_ bl_ me_ co_ Q_ 4 D cmcl (mo_sh cs ad) 16 16 ad I [(0, .ref (ad 0)), (1, .int (zi x)), (2, .int (zi (v : Int)))] 4 [] := by
    intro nf
    induction nf with
    | zero => intro v x hv hx hn; exact absurd hn (Nat.not_lt_zero _)
    | succ nf ih4 =>
      intro v x hv hx hn4
      have hb := eo_b h.1.1 h.1.2.2.1 v hv
      refine mk_iloadn (nx := 5) X 2 d_Mo_endOf_4 rfl rfl ?_
      refine mk_iconst (nx := 6) X d_Mo_endOf_5 rfl ?_
      refine mk_icmp_ge (tgt := 48) (nx := 9) X d_Mo_endOf_6 (by omega) (by omega) (by decide) rfl (fun c6 => ?_) (fun c6 => ?_)
      · skip
        refine mk_aloadn (nx := 49) X 0 d_Mo_endOf_48 rfl rfl ?_
        refine mk_get (nx := 52) (v := .int (zi (I 0 12))) X 0 (by decide) (mh_Mo cs ad _) rfl in_Mo 12 (by decide) wd_607 rfl rfl d_Mo_endOf_49 rfl ?_
        refine mk_if_le (tgt := 62) (nx := 55) X d_Mo_endOf_52 (by omega) (by decide) rfl (fun c52 => ?_) (fun c52 => ?_)
        · skip
          refine mk_iloadn (nx := 63) X 1 d_Mo_endOf_62 rfl rfl ?_
          exact hret _ _ _ _ d_Mo_endOf_63 (by first | exact ⟨rfl, by rw [an_end, if_pos (by omega)]; omega⟩ | exact ⟨rfl, by rw [an_end, if_neg (by omega), hx, show v = 4 by omega]⟩)
        · skip
          refine mk_aloadn (nx := 56) X 0 d_Mo_endOf_55 rfl rfl ?_
          refine mk_get (nx := 59) (v := .int (zi (I 0 12))) X 0 (by decide) (mh_Mo cs ad _) rfl in_Mo 12 (by decide) wd_607 rfl rfl d_Mo_endOf_56 rfl ?_
          refine mk_goto (tgt := 63) X d_Mo_endOf_59 (by decide) ?_
          exact hret _ _ _ _ d_Mo_endOf_63 (by first | exact ⟨rfl, by rw [an_end, if_pos (by omega)]; omega⟩ | exact ⟨rfl, by rw [an_end, if_neg (by omega), hx, show v = 4 by omega]⟩)
      · skip
        have hv4 := iV v (by omega)
        have hv5 := hV v (by omega)
        have hsz := an_size_b h.1.1
        have hm := mul_rng hsz hv5.2.2.2.2
        refine mk_aloadn (nx := 10) X 0 d_Mo_endOf_9 rfl rfl ?_
        refine mk_get (nx := 13) (v := .ref (ad 4)) X 0 (by decide) (mh_Mo cs ad _) rfl in_Mo 4 (by decide) wd_599 rfl rfl d_Mo_endOf_10 rfl ?_
        refine mk_iloadn (nx := 14) X 2 d_Mo_endOf_13 rfl rfl ?_
        refine mk_iald (nx := 15) (j := v) X 4 0 (by decide) (mh_delays cs ad _) rfl (by omega) (by omega) (by decide) rfl d_Mo_endOf_14 rfl ?_
        refine mk_aloadn (nx := 16) X 0 d_Mo_endOf_15 rfl rfl ?_
        refine mk_iloadn (nx := 17) X 2 d_Mo_endOf_16 rfl rfl ?_
        refine mk_callVi (nx := 20) (n := 1) (As := [.int (zi (v : Int))]) (rest := [.int (zi (I 4 v))]) X 0 (by decide) (mh_Mo cs ad _) rfl (c_Mo_lineSize l D cs ad hi c I h v (by omega)) (g_Mo_lineSize wd_739) rfl ⟨rfl, rfl⟩ (by decide +kernel) ⟨by decide, by decide⟩ rfl (Nat.le_of_ble_eq_true rfl) rfl d_Mo_endOf_17 rfl ?_
        intro r17 J1 hJ1
        obtain ⟨rfl, rfl⟩ := hJ1
        refine mk_iadd (nx := 21) X d_Mo_endOf_20 rfl ?_
        refine mk_istoren (nx := 22) X [(3, .int (zi ((I 4 v) + (an_size c * c (3 + v) 4)))), (0, .ref (ad 0)), (1, .int (zi x)), (2, .int (zi (v : Int)))] d_Mo_endOf_21 (by decide) rfl rfl ?_
        refine mk_aloadn (nx := 23) X 1 d_Mo_endOf_22 rfl rfl ?_
        refine mk_get (nx := 26) (v := .ref (ad 3)) X 0 (by decide) (mh_Mo cs ad _) rfl in_Mo 3 (by decide) wd_598 rfl rfl d_Mo_endOf_23 rfl ?_
        refine mk_iloadn (nx := 27) X 3 d_Mo_endOf_26 rfl rfl ?_
        refine mk_zald (nx := 28) (j := v) X 3 1 (by decide) (mh_on cs ad _) rfl (by omega) (by omega) (by decide) rfl d_Mo_endOf_27 rfl ?_
        refine mk_if_eq (tgt := 40) (nx := 31) X d_Mo_endOf_28 (by omega) (by decide) rfl (fun c28 => ?_) (fun c28 => ?_)
        · skip
          refine mk_iloadn (nx := 41) X 2 d_Mo_endOf_40 rfl rfl ?_
          refine mk_istoren (nx := 42) X [(1, .int (zi x)), (3, .int (zi ((I 4 v) + (an_size c * c (3 + v) 4)))), (0, .ref (ad 0)), (2, .int (zi (v : Int)))] d_Mo_endOf_41 (by decide) rfl rfl ?_
          refine mk_iinc (nx := 45) X 3 [(2, .int (zi ((v : Int) + 1))), (1, .int (zi x)), (3, .int (zi ((I 4 v) + (an_size c * c (3 + v) 4)))), (0, .ref (ad 0))] d_Mo_endOf_42 rfl (by decide) rfl rfl ?_
          refine mk_goto (tgt := 4) X d_Mo_endOf_45 (by decide) ?_
          refine mk_lv [3, 1, 0] rfl ?_
          exact ih4 (v + 1) x (by omega) (by first | rfl | (rw [eo, if_pos (by omega)]; omega) | (rw [eo]; split <;> omega)) (by omega)
        · skip
          refine mk_iloadn (nx := 32) X 0 d_Mo_endOf_31 rfl rfl ?_
          refine mk_iloadn (nx := 33) X 2 d_Mo_endOf_32 rfl rfl ?_
          refine mk_icmp_le (tgt := 40) (nx := 36) X d_Mo_endOf_33 (by omega) (by omega) (by decide) rfl (fun c33 => ?_) (fun c33 => ?_)
          · skip
            refine mk_iloadn (nx := 41) X 2 d_Mo_endOf_40 rfl rfl ?_
            refine mk_istoren (nx := 42) X [(1, .int (zi x)), (3, .int (zi ((I 4 v) + (an_size c * c (3 + v) 4)))), (0, .ref (ad 0)), (2, .int (zi (v : Int)))] d_Mo_endOf_41 (by decide) rfl rfl ?_
            refine mk_iinc (nx := 45) X 3 [(2, .int (zi ((v : Int) + 1))), (1, .int (zi x)), (3, .int (zi ((I 4 v) + (an_size c * c (3 + v) 4)))), (0, .ref (ad 0))] d_Mo_endOf_42 rfl (by decide) rfl rfl ?_
            refine mk_goto (tgt := 4) X d_Mo_endOf_45 (by decide) ?_
            refine mk_lv [3, 1, 0] rfl ?_
            exact ih4 (v + 1) x (by omega) (by first | rfl | (rw [eo, if_pos (by omega)]; omega) | (rw [eo]; split <;> omega)) (by omega)
          · skip
            refine mk_iloadn (nx := 37) X 0 d_Mo_endOf_36 rfl rfl ?_
            refine mk_goto (tgt := 41) X d_Mo_endOf_37 (by decide) ?_
            refine mk_istoren (nx := 42) X [(1, .int (zi ((I 4 v) + (an_size c * c (3 + v) 4)))), (3, .int (zi ((I 4 v) + (an_size c * c (3 + v) 4)))), (0, .ref (ad 0)), (2, .int (zi (v : Int)))] d_Mo_endOf_41 (by decide) rfl rfl ?_
            refine mk_iinc (nx := 45) X 3 [(2, .int (zi ((v : Int) + 1))), (1, .int (zi ((I 4 v) + (an_size c * c (3 + v) 4)))), (3, .int (zi ((I 4 v) + (an_size c * c (3 + v) 4)))), (0, .ref (ad 0))] d_Mo_endOf_42 rfl (by decide) rfl rfl ?_
            refine mk_goto (tgt := 4) X d_Mo_endOf_45 (by decide) ?_
            refine mk_lv [3, 1, 0] rfl ?_
            exact ih4 (v + 1) ((I 4 v) + (an_size c * c (3 + v) 4)) (by omega) (by first | rfl | (rw [eo, if_pos (by omega)]; omega) | (rw [eo]; split <;> omega)) (by omega)
  refine mk_iconst (nx := 1) X d_Mo_endOf_0 rfl ?_
  refine mk_istoren (nx := 2) X [(1, .int (zi 0)), (0, .ref (ad 0))] d_Mo_endOf_1 (by decide) rfl rfl ?_
  refine mk_iconst (nx := 3) X d_Mo_endOf_2 rfl ?_
  refine mk_istoren (nx := 4) X [(2, .int (zi 0)), (1, .int (zi 0)), (0, .ref (ad 0))] d_Mo_endOf_3 (by decide) rfl rfl ?_
  refine mk_lv [2, 1, 0] rfl ?_
  exact L4 _ 0 0 (by omega) (by first | rfl | (rw [eo, if_pos (by omega)]; omega) | (rw [eo]; split <;> omega)) (Nat.lt_succ_self _)

-- CanonMakerModel.end()I
theorem d_Mo_end_0 : decode prog_9_method_19_code 0 = .ok (.aload_n 0, 1) := by decide +kernel
theorem d_Mo_end_1 : decode prog_9_method_19_code 1 = .ok (.invokevirtual 93, 3) := by decide +kernel
theorem d_Mo_end_4 : decode prog_9_method_19_code 4 = .ok (.ireturn, 1) := by decide +kernel
abbrev rm_Mo_end : Room := { frames := 3, cells := 0, slots := 0, locals := 66 }
set_option maxHeartbeats 4000000 in
set_option maxRecDepth 100000 in
theorem c_Mo_end (l : Launch) (D : va_G) (cs : Nat → ClassId) (ad : Nat → Nat) (hi : mo_inj ad) (c I : Wo) (h : moR c I)  : mo_C l D cs ad y_Mo_end ws_Mo_end rm_Mo_end [.ref (ad 0)] I (mk_pi (fun r J => r = an_end c ∧ moR c J)) := by
  refine mk_meti (own := "CanonMakerModel") (Ts := wA) hi (Nat.le_refl _) (by decide) rfl (fun w h => List.mem_cons_of_mem _ h) rfl (Nat.le_of_ble_eq_true rfl) [(0, .ref (ad 0))] rfl ?_
  intro p_ e_ s_ m_ as_ bl_ me_ co_ Q_ X hret
  obtain ⟨⟨⟨hn, hN⟩, ⟨hlo, hsc, hbt, hru, hrd, hst⟩, ⟨hV, hV0⟩, ⟨hfc, hF⟩⟩, ⟨i12, iN⟩, ⟨⟨i50, i51, i52, i53, i54⟩, i07, i09⟩, iV, ⟨i010, iF⟩⟩ := id h
  refine mk_aloadn (nx := 1) X 0 d_Mo_end_0 rfl rfl ?_
  refine mk_callVi (nx := 4) (n := 0) (As := []) (rest := []) X 0 (by decide) (mh_Mo cs ad _) rfl (c_Mo_endOf l D cs ad hi c I h) (g_Mo_endOf wd_735) rfl ⟨rfl, rfl⟩ (by decide +kernel) ⟨by decide, by decide⟩ rfl (Nat.le_of_ble_eq_true rfl) rfl d_Mo_end_1 rfl ?_
  intro r1 J1 hJ1
  obtain ⟨rfl, rfl⟩ := hJ1
  exact hret _ _ _ _ d_Mo_end_4 (by exact ⟨rfl, h⟩)

-- CanonMakerModel.isLong()Z
theorem d_Mo_isLong_0 : decode prog_9_method_21_code 0 = .ok (.iconst 0, 1) := by decide +kernel
theorem d_Mo_isLong_1 : decode prog_9_method_21_code 1 = .ok (.istore_n 1, 1) := by decide +kernel
theorem d_Mo_isLong_2 : decode prog_9_method_21_code 2 = .ok (.iload_n 1, 1) := by decide +kernel
theorem d_Mo_isLong_3 : decode prog_9_method_21_code 3 = .ok (.iconst 4, 1) := by decide +kernel
theorem d_Mo_isLong_4 : decode prog_9_method_21_code 4 = .ok (.if_icmp .ge 39, 3) := by decide +kernel
theorem d_Mo_isLong_7 : decode prog_9_method_21_code 7 = .ok (.aload_n 0, 1) := by decide +kernel
theorem d_Mo_isLong_8 : decode prog_9_method_21_code 8 = .ok (.getfield 16, 3) := by decide +kernel
theorem d_Mo_isLong_11 : decode prog_9_method_21_code 11 = .ok (.iload_n 1, 1) := by decide +kernel
theorem d_Mo_isLong_12 : decode prog_9_method_21_code 12 = .ok (.baload, 1) := by decide +kernel
theorem d_Mo_isLong_13 : decode prog_9_method_21_code 13 = .ok (.ifCond .eq 24, 3) := by decide +kernel
theorem d_Mo_isLong_16 : decode prog_9_method_21_code 16 = .ok (.aload_n 0, 1) := by decide +kernel
theorem d_Mo_isLong_17 : decode prog_9_method_21_code 17 = .ok (.getfield 72, 3) := by decide +kernel
theorem d_Mo_isLong_20 : decode prog_9_method_21_code 20 = .ok (.ifCond .le 17, 3) := by decide +kernel
theorem d_Mo_isLong_23 : decode prog_9_method_21_code 23 = .ok (.aload_n 0, 1) := by decide +kernel
theorem d_Mo_isLong_24 : decode prog_9_method_21_code 24 = .ok (.iload_n 1, 1) := by decide +kernel
theorem d_Mo_isLong_25 : decode prog_9_method_21_code 25 = .ok (.invokevirtual 89, 3) := by decide +kernel
theorem d_Mo_isLong_28 : decode prog_9_method_21_code 28 = .ok (.aload_n 0, 1) := by decide +kernel
theorem d_Mo_isLong_29 : decode prog_9_method_21_code 29 = .ok (.getfield 72, 3) := by decide +kernel
theorem d_Mo_isLong_32 : decode prog_9_method_21_code 32 = .ok (.if_icmp .le 5, 3) := by decide +kernel
theorem d_Mo_isLong_35 : decode prog_9_method_21_code 35 = .ok (.iconst 1, 1) := by decide +kernel
theorem d_Mo_isLong_36 : decode prog_9_method_21_code 36 = .ok (.ireturn, 1) := by decide +kernel
theorem d_Mo_isLong_37 : decode prog_9_method_21_code 37 = .ok (.iinc 1 1, 3) := by decide +kernel
theorem d_Mo_isLong_40 : decode prog_9_method_21_code 40 = .ok (.goto (-38), 3) := by decide +kernel
theorem d_Mo_isLong_43 : decode prog_9_method_21_code 43 = .ok (.iconst 0, 1) := by decide +kernel
theorem d_Mo_isLong_44 : decode prog_9_method_21_code 44 = .ok (.ireturn, 1) := by decide +kernel
abbrev rm_Mo_isLong : Room := { frames := 2, cells := 0, slots := 0, locals := 43 }
set_option maxHeartbeats 4000000 in
set_option maxRecDepth 100000 in
theorem c_Mo_isLong (l : Launch) (D : va_G) (cs : Nat → ClassId) (ad : Nat → Nat) (hi : mo_inj ad) (c I : Wo) (h : moR c I) : mo_C l D cs ad y_Mo_isLong ws_Mo_isLong rm_Mo_isLong [.ref (ad 0)] I (mk_pi (fun r J => I = J ∧ ((r = 1 ∧ ∃ v, v < 4 ∧ tl c v) ∨ (r = 0 ∧ ∀ v, v < 4 → ¬ tl c v)))) := by
  refine mk_metz (own := "CanonMakerModel") (Ts := wA) hi (Nat.le_refl _) (by decide) rfl (fun w h => List.mem_cons_of_mem _ h) rfl (Nat.le_of_ble_eq_true rfl) [(0, .ref (ad 0))] rfl ?_
  intro p_ e_ s_ m_ as_ bl_ me_ co_ Q_ X hret
  obtain ⟨⟨⟨hn, hN⟩, ⟨hlo, hsc, hbt, hru, hrd, hst⟩, ⟨hV, hV0⟩, ⟨hfc, hF⟩⟩, ⟨i12, iN⟩, ⟨⟨i50, i51, i52, i53, i54⟩, i07, i09⟩, iV, ⟨i010, iF⟩⟩ := id h
  have L2 : ∀ nf : Nat, ∀ (v : Nat), (v ≤ 4) → (∀ u, u < v → ¬ tl c u) → 4 - v < nf → mk_A p_ l e_ rm_Mo_isLong s_ m_ as_ bl_ me_ co_ Q_ 2 D cmcl (mo_sh cs ad) 16 16 ad I [(0, .ref (ad 0)), (1, .int (zi (v : Int)))] 2 [] := by
    intro nf
    induction nf with
    | zero => intro v hv hb hn; exact absurd hn (Nat.not_lt_zero _)
    | succ nf ih2 =>
      intro v hv hb hn2
      refine mk_iloadn (nx := 3) X 1 d_Mo_isLong_2 rfl rfl ?_
      refine mk_iconst (nx := 4) X d_Mo_isLong_3 rfl ?_
      refine mk_icmp_ge (tgt := 43) (nx := 7) X d_Mo_isLong_4 (by omega) (by omega) (by decide) rfl (fun c4 => ?_) (fun c4 => ?_)
      · skip
        refine mk_iconst (nx := 44) X d_Mo_isLong_43 rfl ?_
        exact hret _ _ _ _ d_Mo_isLong_44 (by omega) (by exact ⟨rfl, Or.inr ⟨rfl, fun u hu => hb u (by omega)⟩⟩)
      · skip
        have hv4 := iV v (by omega)
        have hv5 := hV v (by omega)
        have hsz := an_size_b h.1.1
        have hm := mul_rng hsz hv5.2.2.2.2
        refine mk_aloadn (nx := 8) X 0 d_Mo_isLong_7 rfl rfl ?_
        refine mk_get (nx := 11) (v := .ref (ad 3)) X 0 (by decide) (mh_Mo cs ad _) rfl in_Mo 3 (by decide) wd_598 rfl rfl d_Mo_isLong_8 rfl ?_
        refine mk_iloadn (nx := 12) X 1 d_Mo_isLong_11 rfl rfl ?_
        refine mk_zald (nx := 13) (j := v) X 3 1 (by decide) (mh_on cs ad _) rfl (by omega) (by omega) (by decide) rfl d_Mo_isLong_12 rfl ?_
        refine mk_if_eq (tgt := 37) (nx := 16) X d_Mo_isLong_13 (by omega) (by decide) rfl (fun c13 => ?_) (fun c13 => ?_)
        · skip
          refine mk_iinc (nx := 40) X 1 [(1, .int (zi ((v : Int) + 1))), (0, .ref (ad 0))] d_Mo_isLong_37 rfl (by decide) rfl rfl ?_
          refine mk_goto (tgt := 2) X d_Mo_isLong_40 (by decide) ?_
          refine mk_lv [1, 0] rfl ?_
          exact ih2 (v + 1) (by omega) (by first | exact lt_0 | exact lt_s hb (by unfold tl; omega)) (by omega)
        · skip
          refine mk_aloadn (nx := 17) X 0 d_Mo_isLong_16 rfl rfl ?_
          refine mk_get (nx := 20) (v := .int (zi (I 0 12))) X 0 (by decide) (mh_Mo cs ad _) rfl in_Mo 12 (by decide) wd_607 rfl rfl d_Mo_isLong_17 rfl ?_
          refine mk_if_le (tgt := 37) (nx := 23) X d_Mo_isLong_20 (by omega) (by decide) rfl (fun c20 => ?_) (fun c20 => ?_)
          · skip
            refine mk_iinc (nx := 40) X 1 [(1, .int (zi ((v : Int) + 1))), (0, .ref (ad 0))] d_Mo_isLong_37 rfl (by decide) rfl rfl ?_
            refine mk_goto (tgt := 2) X d_Mo_isLong_40 (by decide) ?_
            refine mk_lv [1, 0] rfl ?_
            exact ih2 (v + 1) (by omega) (by first | exact lt_0 | exact lt_s hb (by unfold tl; omega)) (by omega)
          · skip
            refine mk_aloadn (nx := 24) X 0 d_Mo_isLong_23 rfl rfl ?_
            refine mk_iloadn (nx := 25) X 1 d_Mo_isLong_24 rfl rfl ?_
            refine mk_callVi (nx := 28) (n := 1) (As := [.int (zi (v : Int))]) (rest := []) X 0 (by decide) (mh_Mo cs ad _) rfl (c_Mo_lineSize l D cs ad hi c I h v (by omega)) (g_Mo_lineSize wd_739) rfl ⟨rfl, rfl⟩ (by decide +kernel) ⟨by decide, by decide⟩ rfl (Nat.le_of_ble_eq_true rfl) rfl d_Mo_isLong_25 rfl ?_
            intro r25 J1 hJ1
            obtain ⟨rfl, rfl⟩ := hJ1
            refine mk_aloadn (nx := 29) X 0 d_Mo_isLong_28 rfl rfl ?_
            refine mk_get (nx := 32) (v := .int (zi (I 0 12))) X 0 (by decide) (mh_Mo cs ad _) rfl in_Mo 12 (by decide) wd_607 rfl rfl d_Mo_isLong_29 rfl ?_
            refine mk_icmp_le (tgt := 37) (nx := 35) X d_Mo_isLong_32 (by omega) (by omega) (by decide) rfl (fun c32 => ?_) (fun c32 => ?_)
            · skip
              refine mk_iinc (nx := 40) X 1 [(1, .int (zi ((v : Int) + 1))), (0, .ref (ad 0))] d_Mo_isLong_37 rfl (by decide) rfl rfl ?_
              refine mk_goto (tgt := 2) X d_Mo_isLong_40 (by decide) ?_
              refine mk_lv [1, 0] rfl ?_
              exact ih2 (v + 1) (by omega) (by first | exact lt_0 | exact lt_s hb (by unfold tl; omega)) (by omega)
            · skip
              refine mk_iconst (nx := 36) X d_Mo_isLong_35 rfl ?_
              exact hret _ _ _ _ d_Mo_isLong_36 (by omega) (by exact ⟨rfl, Or.inl ⟨rfl, v, by omega, by unfold tl; omega⟩⟩)
  refine mk_iconst (nx := 1) X d_Mo_isLong_0 rfl ?_
  refine mk_istoren (nx := 2) X [(1, .int (zi 0)), (0, .ref (ad 0))] d_Mo_isLong_1 (by decide) rfl rfl ?_
  refine mk_lv [1, 0] rfl ?_
  exact L2 _ 0 (by omega) (by first | exact lt_0 | exact lt_s hb (by unfold tl; omega)) (Nat.lt_succ_self _)
end
section
-- CanonMaker.countTimes()I
theorem d_CM_countTimes_0 : decode prog_1_method_24_code 0 = .ok (.aload_n 0, 1) := by decide +kernel
theorem d_CM_countTimes_1 : decode prog_1_method_24_code 1 = .ok (.getfield 105, 3) := by decide +kernel
theorem d_CM_countTimes_4 : decode prog_1_method_24_code 4 = .ok (.ifCond .le 8, 3) := by decide +kernel
theorem d_CM_countTimes_7 : decode prog_1_method_24_code 7 = .ok (.aload_n 0, 1) := by decide +kernel
theorem d_CM_countTimes_8 : decode prog_1_method_24_code 8 = .ok (.getfield 105, 3) := by decide +kernel
theorem d_CM_countTimes_11 : decode prog_1_method_24_code 11 = .ok (.ireturn, 1) := by decide +kernel
theorem d_CM_countTimes_12 : decode prog_1_method_24_code 12 = .ok (.aload_n 0, 1) := by decide +kernel
theorem d_CM_countTimes_13 : decode prog_1_method_24_code 13 = .ok (.getfield 12, 3) := by decide +kernel
theorem d_CM_countTimes_16 : decode prog_1_method_24_code 16 = .ok (.invokevirtual 74, 3) := by decide +kernel
theorem d_CM_countTimes_19 : decode prog_1_method_24_code 19 = .ok (.istore_n 1, 1) := by decide +kernel
theorem d_CM_countTimes_20 : decode prog_1_method_24_code 20 = .ok (.iconst 0, 1) := by decide +kernel
theorem d_CM_countTimes_21 : decode prog_1_method_24_code 21 = .ok (.istore_n 2, 1) := by decide +kernel
theorem d_CM_countTimes_22 : decode prog_1_method_24_code 22 = .ok (.iconst 0, 1) := by decide +kernel
theorem d_CM_countTimes_23 : decode prog_1_method_24_code 23 = .ok (.istore_n 3, 1) := by decide +kernel
theorem d_CM_countTimes_24 : decode prog_1_method_24_code 24 = .ok (.iload_n 3, 1) := by decide +kernel
theorem d_CM_countTimes_25 : decode prog_1_method_24_code 25 = .ok (.iconst 4, 1) := by decide +kernel
theorem d_CM_countTimes_26 : decode prog_1_method_24_code 26 = .ok (.if_icmp .ge 47, 3) := by decide +kernel
theorem d_CM_countTimes_29 : decode prog_1_method_24_code 29 = .ok (.aload_n 0, 1) := by decide +kernel
theorem d_CM_countTimes_30 : decode prog_1_method_24_code 30 = .ok (.getfield 18, 3) := by decide +kernel
theorem d_CM_countTimes_33 : decode prog_1_method_24_code 33 = .ok (.iload_n 3, 1) := by decide +kernel
theorem d_CM_countTimes_34 : decode prog_1_method_24_code 34 = .ok (.aaload, 1) := by decide +kernel
theorem d_CM_countTimes_35 : decode prog_1_method_24_code 35 = .ok (.getfield 53, 3) := by decide +kernel
theorem d_CM_countTimes_38 : decode prog_1_method_24_code 38 = .ok (.ifCond .eq 29, 3) := by decide +kernel
theorem d_CM_countTimes_41 : decode prog_1_method_24_code 41 = .ok (.iload_n 2, 1) := by decide +kernel
theorem d_CM_countTimes_42 : decode prog_1_method_24_code 42 = .ok (.aload_n 0, 1) := by decide +kernel
theorem d_CM_countTimes_43 : decode prog_1_method_24_code 43 = .ok (.getfield 18, 3) := by decide +kernel
theorem d_CM_countTimes_46 : decode prog_1_method_24_code 46 = .ok (.iload_n 3, 1) := by decide +kernel
theorem d_CM_countTimes_47 : decode prog_1_method_24_code 47 = .ok (.aaload, 1) := by decide +kernel
theorem d_CM_countTimes_48 : decode prog_1_method_24_code 48 = .ok (.getfield 81, 3) := by decide +kernel
theorem d_CM_countTimes_51 : decode prog_1_method_24_code 51 = .ok (.iload_n 1, 1) := by decide +kernel
theorem d_CM_countTimes_52 : decode prog_1_method_24_code 52 = .ok (.aload_n 0, 1) := by decide +kernel
theorem d_CM_countTimes_53 : decode prog_1_method_24_code 53 = .ok (.getfield 18, 3) := by decide +kernel
theorem d_CM_countTimes_56 : decode prog_1_method_24_code 56 = .ok (.iload_n 3, 1) := by decide +kernel
theorem d_CM_countTimes_57 : decode prog_1_method_24_code 57 = .ok (.aaload, 1) := by decide +kernel
theorem d_CM_countTimes_58 : decode prog_1_method_24_code 58 = .ok (.getfield 90, 3) := by decide +kernel
theorem d_CM_countTimes_61 : decode prog_1_method_24_code 61 = .ok (.imul, 1) := by decide +kernel
theorem d_CM_countTimes_62 : decode prog_1_method_24_code 62 = .ok (.iadd, 1) := by decide +kernel
theorem d_CM_countTimes_63 : decode prog_1_method_24_code 63 = .ok (.invokestatic 192, 3) := by decide +kernel
theorem d_CM_countTimes_66 : decode prog_1_method_24_code 66 = .ok (.istore_n 2, 1) := by decide +kernel
theorem d_CM_countTimes_67 : decode prog_1_method_24_code 67 = .ok (.iinc 3 1, 3) := by decide +kernel
theorem d_CM_countTimes_70 : decode prog_1_method_24_code 70 = .ok (.goto (-46), 3) := by decide +kernel
theorem d_CM_countTimes_73 : decode prog_1_method_24_code 73 = .ok (.iload_n 2, 1) := by decide +kernel
theorem d_CM_countTimes_74 : decode prog_1_method_24_code 74 = .ok (.ireturn, 1) := by decide +kernel
abbrev rm_CM_countTimes : Room := { frames := 1, cells := 0, slots := 0, locals := 22 }
set_option maxHeartbeats 4000000 in
set_option maxRecDepth 100000 in
theorem c_CM_countTimes (l : Launch) (D : va_G) (cs : Nat → ClassId) (ad : Nat → Nat) (zt : Nat) (hi : cm_inj ad) (c I : Wo) (h : cmR c I) : cm_C l D cs ad zt y_CM_countTimes ws_CM_countTimes rm_CM_countTimes [.ref (ad 0)] I (mk_pi (fun r J => I = J ∧ r = an_end c)) := by
  refine mk_meti (own := "CanonMaker") (Ts := wA) hi (Nat.le_refl _) (by decide) rfl (fun w h => List.mem_cons_of_mem _ h) rfl (Nat.le_of_ble_eq_true rfl) [(0, .ref (ad 0))] rfl ?_
  intro p_ e_ s_ m_ as_ bl_ me_ co_ Q_ X hret
  obtain ⟨⟨⟨hn, hN⟩, ⟨hlo, hsc, hbt, hru, hrd, hst⟩, ⟨hV, hV0⟩, ⟨hfc, hF⟩⟩, ⟨i12, iN⟩, ⟨⟨i50, i51, i52, i53, i54⟩, i07, i09⟩, iV, ⟨i010, iF⟩⟩ := id h
  have L24 : ∀ nf : Nat, ∀ (v : Nat) (x : Int), (v ≤ 4) → (x = eo c v) → (¬ 0 < c 0 6) → 4 - v < nf → mk_A p_ l e_ rm_CM_countTimes s_ m_ as_ bl_ me_ co_ Q_ 4 D cmcl (cm_sh cs ad) 48 48 ad I [(0, .ref (ad 0)), (1, .int (zi (an_size c))), (2, .int (zi x)), (3, .int (zi (v : Int)))] 24 [] := by
    intro nf
    induction nf with
    | zero => intro v x hv hx hr0 hn; exact absurd hn (Nat.not_lt_zero _)
    | succ nf ih24 =>
      intro v x hv hx hr0 hn24
      have hb := eo_b h.1.1 h.1.2.2.1 v hv
      refine mk_iloadn (nx := 25) X 3 d_CM_countTimes_24 rfl rfl ?_
      refine mk_iconst (nx := 26) X d_CM_countTimes_25 rfl ?_
      refine mk_icmp_ge (tgt := 73) (nx := 29) X d_CM_countTimes_26 (by omega) (by omega) (by decide) rfl (fun c26 => ?_) (fun c26 => ?_)
      · skip
        refine mk_iloadn (nx := 74) X 2 d_CM_countTimes_73 rfl rfl ?_
        exact hret _ _ _ _ d_CM_countTimes_74 (by exact ⟨rfl, by rw [an_end, if_neg (by omega), hx, show v = 4 by omega]⟩)
      · skip
        have hv4 := iV v (by omega)
        have hv5 := hV v (by omega)
        have hsz := an_size_b h.1.1
        have hm := mul_rng hsz hv5.2.2.2.2
        refine mk_aloadn (nx := 30) X 0 d_CM_countTimes_29 rfl rfl ?_
        refine mk_get (nx := 33) (v := .ref (ad 4)) X 0 (by decide) (sh_CM cs ad _) rfl in_CM 1 (by decide) wd_288 rfl rfl d_CM_countTimes_30 rfl ?_
        refine mk_iloadn (nx := 34) X 3 d_CM_countTimes_33 rfl rfl ?_
        refine mk_aald (nx := 35) (j := v) X 4 2 (by decide) (sh_voices cs ad _) rfl (by omega) (by omega) (by decide) rfl rfl d_CM_countTimes_34 rfl ?_
        refine mk_get (nx := 38) (v := .int (zi (I (44 + v) 0))) X (44 + v) (by omega) (sh_Voice cs ad (show v < 4 by omega) _) rfl in_Voice 0 (by decide) wd_265 rfl rfl d_CM_countTimes_35 rfl ?_
        refine mk_if_eq (tgt := 67) (nx := 41) X d_CM_countTimes_38 (by omega) (by decide) rfl (fun c38 => ?_) (fun c38 => ?_)
        · skip
          refine mk_iinc (nx := 70) X 3 [(3, .int (zi ((v : Int) + 1))), (0, .ref (ad 0)), (1, .int (zi (an_size c))), (2, .int (zi x))] d_CM_countTimes_67 rfl (by decide) rfl rfl ?_
          refine mk_goto (tgt := 24) X d_CM_countTimes_70 (by decide) ?_
          refine mk_lv [1, 2, 3, 0] rfl ?_
          exact ih24 (v + 1) x (by omega) (by first | rfl | (rw [eo, if_pos (by omega)]; omega) | (rw [eo, if_neg (by omega)]; omega)) (by omega) (by omega)
        · skip
          refine mk_iloadn (nx := 42) X 2 d_CM_countTimes_41 rfl rfl ?_
          refine mk_aloadn (nx := 43) X 0 d_CM_countTimes_42 rfl rfl ?_
          refine mk_get (nx := 46) (v := .ref (ad 4)) X 0 (by decide) (sh_CM cs ad _) rfl in_CM 1 (by decide) wd_288 rfl rfl d_CM_countTimes_43 rfl ?_
          refine mk_iloadn (nx := 47) X 3 d_CM_countTimes_46 rfl rfl ?_
          refine mk_aald (nx := 48) (j := v) X 4 2 (by decide) (sh_voices cs ad _) rfl (by omega) (by omega) (by decide) rfl rfl d_CM_countTimes_47 rfl ?_
          refine mk_get (nx := 51) (v := .int (zi (I (44 + v) 1))) X (44 + v) (by omega) (sh_Voice cs ad (show v < 4 by omega) _) rfl in_Voice 1 (by decide) wd_268 rfl rfl d_CM_countTimes_48 rfl ?_
          rw [show I (44 + v) 1 = c (3 + v) 1 from hv4.2.1]
          refine mk_iloadn (nx := 52) X 1 d_CM_countTimes_51 rfl rfl ?_
          refine mk_aloadn (nx := 53) X 0 d_CM_countTimes_52 rfl rfl ?_
          refine mk_get (nx := 56) (v := .ref (ad 4)) X 0 (by decide) (sh_CM cs ad _) rfl in_CM 1 (by decide) wd_288 rfl rfl d_CM_countTimes_53 rfl ?_
          refine mk_iloadn (nx := 57) X 3 d_CM_countTimes_56 rfl rfl ?_
          refine mk_aald (nx := 58) (j := v) X 4 2 (by decide) (sh_voices cs ad _) rfl (by omega) (by omega) (by decide) rfl rfl d_CM_countTimes_57 rfl ?_
          refine mk_get (nx := 61) (v := .int (zi (I (44 + v) 4))) X (44 + v) (by omega) (sh_Voice cs ad (show v < 4 by omega) _) rfl in_Voice 4 (by decide) wd_275 rfl rfl d_CM_countTimes_58 rfl ?_
          rw [show I (44 + v) 4 = c (3 + v) 4 from hv4.2.2.2.2]
          refine mk_imul (nx := 62) X d_CM_countTimes_61 rfl ?_
          refine mk_iadd (nx := 63) X d_CM_countTimes_62 rfl ?_
          refine mk_mmax (nx := 66) X wd_391 wd_392 wd_48 wd_393 (by decide) (by decide) (by omega) (by omega) d_CM_countTimes_63 rfl ?_
          refine mk_istoren (nx := 67) X [(2, .int (zi (max x ((c (3 + v) 1) + ((an_size c) * (c (3 + v) 4)))))), (0, .ref (ad 0)), (1, .int (zi (an_size c))), (3, .int (zi (v : Int)))] d_CM_countTimes_66 (by decide) rfl rfl ?_
          refine mk_iinc (nx := 70) X 3 [(3, .int (zi ((v : Int) + 1))), (2, .int (zi (max x ((c (3 + v) 1) + ((an_size c) * (c (3 + v) 4)))))), (0, .ref (ad 0)), (1, .int (zi (an_size c)))] d_CM_countTimes_67 rfl (by decide) rfl rfl ?_
          refine mk_goto (tgt := 24) X d_CM_countTimes_70 (by decide) ?_
          refine mk_lv [2, 3, 1, 0] rfl ?_
          exact ih24 (v + 1) (max x ((c (3 + v) 1) + ((an_size c) * (c (3 + v) 4)))) (by omega) (by first | rfl | (rw [eo, if_pos (by omega)]; omega) | (rw [eo, if_neg (by omega)]; omega)) (by omega) (by omega)
  refine mk_aloadn (nx := 1) X 0 d_CM_countTimes_0 rfl rfl ?_
  refine mk_get (nx := 4) (v := .int (zi (I 0 7))) X 0 (by decide) (sh_CM cs ad _) rfl in_CM 7 (by decide) wd_294 rfl rfl d_CM_countTimes_1 rfl ?_
  refine mk_if_le (tgt := 12) (nx := 7) X d_CM_countTimes_4 (by omega) (by decide) rfl (fun c4 => ?_) (fun c4 => ?_)
  · skip
    refine mk_aloadn (nx := 13) X 0 d_CM_countTimes_12 rfl rfl ?_
    refine mk_get (nx := 16) (v := .ref (ad 1)) X 0 (by decide) (sh_CM cs ad _) rfl in_CM 0 (by decide) wd_287 rfl rfl d_CM_countTimes_13 rfl ?_
    refine mk_callVi (nx := 19) (n := 0) (As := []) (rest := []) X 1 (by decide) (sh_Subject cs ad _) rfl (c_Subject_units l D cs ad zt hi c I h.1.1 h.2.1) (g_Subject_units wd_348) rfl ⟨rfl, rfl⟩ (by decide +kernel) ⟨by decide, by decide⟩ rfl (Nat.le_of_ble_eq_true rfl) rfl d_CM_countTimes_16 rfl ?_
    intro r16 J1 hJ1
    obtain ⟨rfl, rfl⟩ := hJ1
    refine mk_istoren (nx := 20) X [(1, .int (zi (an_size c))), (0, .ref (ad 0))] d_CM_countTimes_19 (by decide) rfl rfl ?_
    refine mk_iconst (nx := 21) X d_CM_countTimes_20 rfl ?_
    refine mk_istoren (nx := 22) X [(2, .int (zi 0)), (1, .int (zi (an_size c))), (0, .ref (ad 0))] d_CM_countTimes_21 (by decide) rfl rfl ?_
    refine mk_iconst (nx := 23) X d_CM_countTimes_22 rfl ?_
    refine mk_istoren (nx := 24) X [(3, .int (zi 0)), (2, .int (zi 0)), (1, .int (zi (an_size c))), (0, .ref (ad 0))] d_CM_countTimes_23 (by decide) rfl rfl ?_
    refine mk_lv [3, 2, 1, 0] rfl ?_
    exact L24 _ 0 0 (by omega) (by first | rfl | (rw [eo, if_pos (by omega)]; omega) | (rw [eo, if_neg (by omega)]; omega)) (by omega) (Nat.lt_succ_self _)
  · skip
    refine mk_aloadn (nx := 8) X 0 d_CM_countTimes_7 rfl rfl ?_
    refine mk_get (nx := 11) (v := .int (zi (I 0 7))) X 0 (by decide) (sh_CM cs ad _) rfl in_CM 7 (by decide) wd_294 rfl rfl d_CM_countTimes_8 rfl ?_
    exact hret _ _ _ _ d_CM_countTimes_11 (by exact ⟨rfl, by rw [an_end, if_pos (by omega)]; omega⟩)

-- CanonMaker.end()I
theorem d_CM_end_0 : decode prog_1_method_14_code 0 = .ok (.aload_n 0, 1) := by decide +kernel
theorem d_CM_end_1 : decode prog_1_method_14_code 1 = .ok (.invokevirtual 111, 3) := by decide +kernel
theorem d_CM_end_4 : decode prog_1_method_14_code 4 = .ok (.ireturn, 1) := by decide +kernel
abbrev rm_CM_end : Room := { frames := 2, cells := 0, slots := 0, locals := 45 }
set_option maxHeartbeats 4000000 in
set_option maxRecDepth 100000 in
theorem c_CM_end (l : Launch) (D : va_G) (cs : Nat → ClassId) (ad : Nat → Nat) (zt : Nat) (hi : cm_inj ad) (c I : Wo) (h : cmR c I)  : cm_C l D cs ad zt y_CM_end ws_CM_end rm_CM_end [.ref (ad 0)] I (mk_pi (fun r J => r = an_end c ∧ cmR c J)) := by
  refine mk_meti (own := "CanonMaker") (Ts := wA) hi (Nat.le_refl _) (by decide) rfl (fun w h => List.mem_cons_of_mem _ h) rfl (Nat.le_of_ble_eq_true rfl) [(0, .ref (ad 0))] rfl ?_
  intro p_ e_ s_ m_ as_ bl_ me_ co_ Q_ X hret
  obtain ⟨⟨⟨hn, hN⟩, ⟨hlo, hsc, hbt, hru, hrd, hst⟩, ⟨hV, hV0⟩, ⟨hfc, hF⟩⟩, ⟨i12, iN⟩, ⟨⟨i50, i51, i52, i53, i54⟩, i07, i09⟩, iV, ⟨i010, iF⟩⟩ := id h
  refine mk_aloadn (nx := 1) X 0 d_CM_end_0 rfl rfl ?_
  refine mk_callVi (nx := 4) (n := 0) (As := []) (rest := []) X 0 (by decide) (sh_CM cs ad _) rfl (c_CM_countTimes l D cs ad zt hi c I h) (g_CM_countTimes wd_387) rfl ⟨rfl, rfl⟩ (by decide +kernel) ⟨by decide, by decide⟩ rfl (Nat.le_of_ble_eq_true rfl) rfl d_CM_end_1 rfl ?_
  intro r1 J1 hJ1
  obtain ⟨rfl, rfl⟩ := hJ1
  exact hret _ _ _ _ d_CM_end_4 (by exact ⟨rfl, h⟩)

-- CanonMaker.isTooLong(LCanonMaker$Voice;)Z
theorem d_CM_isTooLong_0 : decode prog_1_method_25_code 0 = .ok (.aload_n 1, 1) := by decide +kernel
theorem d_CM_isTooLong_1 : decode prog_1_method_25_code 1 = .ok (.getfield 53, 3) := by decide +kernel
theorem d_CM_isTooLong_4 : decode prog_1_method_25_code 4 = .ok (.ifCond .eq 33, 3) := by decide +kernel
theorem d_CM_isTooLong_7 : decode prog_1_method_25_code 7 = .ok (.aload_n 0, 1) := by decide +kernel
theorem d_CM_isTooLong_8 : decode prog_1_method_25_code 8 = .ok (.getfield 105, 3) := by decide +kernel
theorem d_CM_isTooLong_11 : decode prog_1_method_25_code 11 = .ok (.ifCond .le 26, 3) := by decide +kernel
theorem d_CM_isTooLong_14 : decode prog_1_method_25_code 14 = .ok (.aload_n 0, 1) := by decide +kernel
theorem d_CM_isTooLong_15 : decode prog_1_method_25_code 15 = .ok (.getfield 12, 3) := by decide +kernel
theorem d_CM_isTooLong_18 : decode prog_1_method_25_code 18 = .ok (.invokevirtual 74, 3) := by decide +kernel
theorem d_CM_isTooLong_21 : decode prog_1_method_25_code 21 = .ok (.aload_n 1, 1) := by decide +kernel
theorem d_CM_isTooLong_22 : decode prog_1_method_25_code 22 = .ok (.getfield 90, 3) := by decide +kernel
theorem d_CM_isTooLong_25 : decode prog_1_method_25_code 25 = .ok (.imul, 1) := by decide +kernel
theorem d_CM_isTooLong_26 : decode prog_1_method_25_code 26 = .ok (.aload_n 0, 1) := by decide +kernel
theorem d_CM_isTooLong_27 : decode prog_1_method_25_code 27 = .ok (.getfield 105, 3) := by decide +kernel
theorem d_CM_isTooLong_30 : decode prog_1_method_25_code 30 = .ok (.if_icmp .le 7, 3) := by decide +kernel
theorem d_CM_isTooLong_33 : decode prog_1_method_25_code 33 = .ok (.iconst 1, 1) := by decide +kernel
theorem d_CM_isTooLong_34 : decode prog_1_method_25_code 34 = .ok (.goto 4, 3) := by decide +kernel
theorem d_CM_isTooLong_37 : decode prog_1_method_25_code 37 = .ok (.iconst 0, 1) := by decide +kernel
theorem d_CM_isTooLong_38 : decode prog_1_method_25_code 38 = .ok (.ireturn, 1) := by decide +kernel
abbrev rm_CM_isTooLong : Room := { frames := 1, cells := 0, slots := 0, locals := 22 }
set_option maxHeartbeats 4000000 in
set_option maxRecDepth 100000 in
theorem c_CM_isTooLong (l : Launch) (D : va_G) (cs : Nat → ClassId) (ad : Nat → Nat) (zt : Nat) (hi : cm_inj ad) (c I : Wo) (h : cmR c I) (v : Nat) (hv : v < 4) : cm_C l D cs ad zt y_CM_isTooLong ws_CM_isTooLong rm_CM_isTooLong [.ref (ad 0), .ref (ad (44 + v))] I (mk_pi (fun r J => I = J ∧ ((r = 1 ∧ tl c v) ∨ (r = 0 ∧ ¬ tl c v)))) := by
  refine mk_metz (own := "CanonMaker") (Ts := wA) hi (Nat.le_refl _) (by decide) rfl (fun w h => List.mem_cons_of_mem _ h) rfl (Nat.le_of_ble_eq_true rfl) [(0, .ref (ad 0)), (1, .ref (ad (44 + v)))] rfl ?_
  intro p_ e_ s_ m_ as_ bl_ me_ co_ Q_ X hret
  obtain ⟨⟨⟨hn, hN⟩, ⟨hlo, hsc, hbt, hru, hrd, hst⟩, ⟨hV, hV0⟩, ⟨hfc, hF⟩⟩, ⟨i12, iN⟩, ⟨⟨i50, i51, i52, i53, i54⟩, i07, i09⟩, iV, ⟨i010, iF⟩⟩ := id h
  have hv4 := iV v (by omega)
  have hv5 := hV v (by omega)
  have hsz := an_size_b h.1.1
  have hm := mul_rng hsz hv5.2.2.2.2
  refine mk_aloadn (nx := 1) X 1 d_CM_isTooLong_0 rfl rfl ?_
  refine mk_get (nx := 4) (v := .int (zi (I (44 + v) 0))) X (44 + v) (by omega) (sh_Voice cs ad (show v < 4 by omega) _) rfl in_Voice 0 (by decide) wd_265 rfl rfl d_CM_isTooLong_1 rfl ?_
  refine mk_if_eq (tgt := 37) (nx := 7) X d_CM_isTooLong_4 (by omega) (by decide) rfl (fun c4 => ?_) (fun c4 => ?_)
  · skip
    refine mk_iconst (nx := 38) X d_CM_isTooLong_37 rfl ?_
    exact hret _ _ _ _ d_CM_isTooLong_38 (by omega) (by exact ⟨rfl, by unfold tl; omega⟩)
  · skip
    refine mk_aloadn (nx := 8) X 0 d_CM_isTooLong_7 rfl rfl ?_
    refine mk_get (nx := 11) (v := .int (zi (I 0 7))) X 0 (by decide) (sh_CM cs ad _) rfl in_CM 7 (by decide) wd_294 rfl rfl d_CM_isTooLong_8 rfl ?_
    refine mk_if_le (tgt := 37) (nx := 14) X d_CM_isTooLong_11 (by omega) (by decide) rfl (fun c11 => ?_) (fun c11 => ?_)
    · skip
      refine mk_iconst (nx := 38) X d_CM_isTooLong_37 rfl ?_
      exact hret _ _ _ _ d_CM_isTooLong_38 (by omega) (by exact ⟨rfl, by unfold tl; omega⟩)
    · skip
      refine mk_aloadn (nx := 15) X 0 d_CM_isTooLong_14 rfl rfl ?_
      refine mk_get (nx := 18) (v := .ref (ad 1)) X 0 (by decide) (sh_CM cs ad _) rfl in_CM 0 (by decide) wd_287 rfl rfl d_CM_isTooLong_15 rfl ?_
      refine mk_callVi (nx := 21) (n := 0) (As := []) (rest := []) X 1 (by decide) (sh_Subject cs ad _) rfl (c_Subject_units l D cs ad zt hi c I h.1.1 h.2.1) (g_Subject_units wd_348) rfl ⟨rfl, rfl⟩ (by decide +kernel) ⟨by decide, by decide⟩ rfl (Nat.le_of_ble_eq_true rfl) rfl d_CM_isTooLong_18 rfl ?_
      intro r18 J1 hJ1
      obtain ⟨rfl, rfl⟩ := hJ1
      refine mk_aloadn (nx := 22) X 1 d_CM_isTooLong_21 rfl rfl ?_
      refine mk_get (nx := 25) (v := .int (zi (I (44 + v) 4))) X (44 + v) (by omega) (sh_Voice cs ad (show v < 4 by omega) _) rfl in_Voice 4 (by decide) wd_275 rfl rfl d_CM_isTooLong_22 rfl ?_
      rw [show I (44 + v) 4 = c (3 + v) 4 from hv4.2.2.2.2]
      refine mk_imul (nx := 26) X d_CM_isTooLong_25 rfl ?_
      refine mk_aloadn (nx := 27) X 0 d_CM_isTooLong_26 rfl rfl ?_
      refine mk_get (nx := 30) (v := .int (zi (I 0 7))) X 0 (by decide) (sh_CM cs ad _) rfl in_CM 7 (by decide) wd_294 rfl rfl d_CM_isTooLong_27 rfl ?_
      refine mk_icmp_le (tgt := 37) (nx := 33) X d_CM_isTooLong_30 (by omega) (by omega) (by decide) rfl (fun c30 => ?_) (fun c30 => ?_)
      · skip
        refine mk_iconst (nx := 38) X d_CM_isTooLong_37 rfl ?_
        exact hret _ _ _ _ d_CM_isTooLong_38 (by omega) (by exact ⟨rfl, by unfold tl; omega⟩)
      · skip
        refine mk_iconst (nx := 34) X d_CM_isTooLong_33 rfl ?_
        refine mk_goto (tgt := 38) X d_CM_isTooLong_34 (by decide) ?_
        exact hret _ _ _ _ d_CM_isTooLong_38 (by omega) (by exact ⟨rfl, by unfold tl; omega⟩)

-- CanonMaker.isAnyTooLong()Z
theorem d_CM_isAnyTooLong_0 : decode prog_1_method_26_code 0 = .ok (.iconst 0, 1) := by decide +kernel
theorem d_CM_isAnyTooLong_1 : decode prog_1_method_26_code 1 = .ok (.istore_n 1, 1) := by decide +kernel
theorem d_CM_isAnyTooLong_2 : decode prog_1_method_26_code 2 = .ok (.iload_n 1, 1) := by decide +kernel
theorem d_CM_isAnyTooLong_3 : decode prog_1_method_26_code 3 = .ok (.iconst 4, 1) := by decide +kernel
theorem d_CM_isAnyTooLong_4 : decode prog_1_method_26_code 4 = .ok (.if_icmp .ge 24, 3) := by decide +kernel
theorem d_CM_isAnyTooLong_7 : decode prog_1_method_26_code 7 = .ok (.aload_n 0, 1) := by decide +kernel
theorem d_CM_isAnyTooLong_8 : decode prog_1_method_26_code 8 = .ok (.aload_n 0, 1) := by decide +kernel
theorem d_CM_isAnyTooLong_9 : decode prog_1_method_26_code 9 = .ok (.getfield 18, 3) := by decide +kernel
theorem d_CM_isAnyTooLong_12 : decode prog_1_method_26_code 12 = .ok (.iload_n 1, 1) := by decide +kernel
theorem d_CM_isAnyTooLong_13 : decode prog_1_method_26_code 13 = .ok (.aaload, 1) := by decide +kernel
theorem d_CM_isAnyTooLong_14 : decode prog_1_method_26_code 14 = .ok (.invokevirtual 172, 3) := by decide +kernel
theorem d_CM_isAnyTooLong_17 : decode prog_1_method_26_code 17 = .ok (.ifCond .eq 5, 3) := by decide +kernel
theorem d_CM_isAnyTooLong_20 : decode prog_1_method_26_code 20 = .ok (.iconst 1, 1) := by decide +kernel
theorem d_CM_isAnyTooLong_21 : decode prog_1_method_26_code 21 = .ok (.ireturn, 1) := by decide +kernel
theorem d_CM_isAnyTooLong_22 : decode prog_1_method_26_code 22 = .ok (.iinc 1 1, 3) := by decide +kernel
theorem d_CM_isAnyTooLong_25 : decode prog_1_method_26_code 25 = .ok (.goto (-23), 3) := by decide +kernel
theorem d_CM_isAnyTooLong_28 : decode prog_1_method_26_code 28 = .ok (.iconst 0, 1) := by decide +kernel
theorem d_CM_isAnyTooLong_29 : decode prog_1_method_26_code 29 = .ok (.ireturn, 1) := by decide +kernel
abbrev rm_CM_isAnyTooLong : Room := { frames := 2, cells := 0, slots := 0, locals := 43 }
set_option maxHeartbeats 4000000 in
set_option maxRecDepth 100000 in
theorem c_CM_isAnyTooLong (l : Launch) (D : va_G) (cs : Nat → ClassId) (ad : Nat → Nat) (zt : Nat) (hi : cm_inj ad) (c I : Wo) (h : cmR c I) : cm_C l D cs ad zt y_CM_isAnyTooLong ws_CM_isAnyTooLong rm_CM_isAnyTooLong [.ref (ad 0)] I (mk_pi (fun r J => I = J ∧ ((r = 1 ∧ ∃ v, v < 4 ∧ tl c v) ∨ (r = 0 ∧ ∀ v, v < 4 → ¬ tl c v)))) := by
  refine mk_metz (own := "CanonMaker") (Ts := wA) hi (Nat.le_refl _) (by decide) rfl (fun w h => List.mem_cons_of_mem _ h) rfl (Nat.le_of_ble_eq_true rfl) [(0, .ref (ad 0))] rfl ?_
  intro p_ e_ s_ m_ as_ bl_ me_ co_ Q_ X hret
  obtain ⟨⟨⟨hn, hN⟩, ⟨hlo, hsc, hbt, hru, hrd, hst⟩, ⟨hV, hV0⟩, ⟨hfc, hF⟩⟩, ⟨i12, iN⟩, ⟨⟨i50, i51, i52, i53, i54⟩, i07, i09⟩, iV, ⟨i010, iF⟩⟩ := id h
  have L2 : ∀ nf : Nat, ∀ (v : Nat), (v ≤ 4) → (∀ u, u < v → ¬ tl c u) → 4 - v < nf → mk_A p_ l e_ rm_CM_isAnyTooLong s_ m_ as_ bl_ me_ co_ Q_ 2 D cmcl (cm_sh cs ad) 48 48 ad I [(0, .ref (ad 0)), (1, .int (zi (v : Int)))] 2 [] := by
    intro nf
    induction nf with
    | zero => intro v hv hb hn; exact absurd hn (Nat.not_lt_zero _)
    | succ nf ih2 =>
      intro v hv hb hn2
      refine mk_iloadn (nx := 3) X 1 d_CM_isAnyTooLong_2 rfl rfl ?_
      refine mk_iconst (nx := 4) X d_CM_isAnyTooLong_3 rfl ?_
      refine mk_icmp_ge (tgt := 28) (nx := 7) X d_CM_isAnyTooLong_4 (by omega) (by omega) (by decide) rfl (fun c4 => ?_) (fun c4 => ?_)
      · skip
        refine mk_iconst (nx := 29) X d_CM_isAnyTooLong_28 rfl ?_
        exact hret _ _ _ _ d_CM_isAnyTooLong_29 (by omega) (by exact ⟨rfl, Or.inr ⟨rfl, fun u hu => hb u (by omega)⟩⟩)
      · skip
        refine mk_aloadn (nx := 8) X 0 d_CM_isAnyTooLong_7 rfl rfl ?_
        refine mk_aloadn (nx := 9) X 0 d_CM_isAnyTooLong_8 rfl rfl ?_
        refine mk_get (nx := 12) (v := .ref (ad 4)) X 0 (by decide) (sh_CM cs ad _) rfl in_CM 1 (by decide) wd_288 rfl rfl d_CM_isAnyTooLong_9 rfl ?_
        refine mk_iloadn (nx := 13) X 1 d_CM_isAnyTooLong_12 rfl rfl ?_
        refine mk_aald (nx := 14) (j := v) X 4 2 (by decide) (sh_voices cs ad _) rfl (by omega) (by omega) (by decide) rfl rfl d_CM_isAnyTooLong_13 rfl ?_
        refine mk_callVi (nx := 17) (n := 1) (As := [.ref (ad (44 + v))]) (rest := []) X 0 (by decide) (sh_CM cs ad _) rfl (c_CM_isTooLong l D cs ad zt hi c I h v (by omega)) (g_CM_isTooLong wd_436) rfl ⟨rfl, rfl⟩ (by decide +kernel) ⟨by decide, by decide⟩ rfl (Nat.le_of_ble_eq_true rfl) rfl d_CM_isAnyTooLong_14 rfl ?_
        intro r14 J1 hJ1
        obtain ⟨rfl, hr14⟩ := hJ1
        refine mk_if_eq (tgt := 22) (nx := 20) X d_CM_isAnyTooLong_17 (by rcases hr14 with q | q <;> omega) (by decide) rfl (fun c17 => ?_) (fun c17 => ?_)
        · skip
          refine mk_iinc (nx := 25) X 1 [(1, .int (zi ((v : Int) + 1))), (0, .ref (ad 0))] d_CM_isAnyTooLong_22 rfl (by decide) rfl rfl ?_
          refine mk_goto (tgt := 2) X d_CM_isAnyTooLong_25 (by decide) ?_
          refine mk_lv [1, 0] rfl ?_
          exact ih2 (v + 1) (by omega) (by first | exact lt_0 | exact lt_s hb (hr14.resolve_left (by omega)).2) (by omega)
        · skip
          refine mk_iconst (nx := 21) X d_CM_isAnyTooLong_20 rfl ?_
          exact hret _ _ _ _ d_CM_isAnyTooLong_21 (by omega) (by exact ⟨rfl, Or.inl ⟨rfl, v, by omega, (hr14.resolve_right (by omega)).2⟩⟩)
  refine mk_iconst (nx := 1) X d_CM_isAnyTooLong_0 rfl ?_
  refine mk_istoren (nx := 2) X [(1, .int (zi 0)), (0, .ref (ad 0))] d_CM_isAnyTooLong_1 (by decide) rfl rfl ?_
  refine mk_lv [1, 0] rfl ?_
  exact L2 _ 0 (by omega) (by first | exact lt_0 | exact lt_s hb (hr14.resolve_left (by omega)).2) (Nat.lt_succ_self _)
end
section
/-! LINES: places, beginnings, pitches, the place at a time -/
theorem tmod_fm {x y : Int} (hy : 0 < y) : x % y = if x.tmod y < 0 then x.tmod y + y else x.tmod y := by
  have h := Int.tmod_eq_emod (a := x) (b := y)
  have h1 := Int.emod_nonneg x (show y ≠ 0 by omega)
  have h2 := Int.emod_lt_of_pos x hy
  by_cases hc : 0 ≤ x ∨ y ∣ x
  · rw [if_pos hc] at h
    rw [if_neg (by omega)]
    omega
  · rw [if_neg hc] at h
    rw [if_pos (by omega)]
    omega
theorem zi_msb (a : Int32) : a.toInt < 0 ↔ a.toBitVec.msb = true := by
  rw [BitVec.msb_eq_toInt]
  simp
theorem zixor_neg {x y : Int} (hx : -2147483648 ≤ x ∧ x < 2147483648) (hy : 0 ≤ y ∧ y < 2147483648) : zixor x y < 0 ↔ x < 0 := by
  unfold zixor
  rw [zi_msb, show (zi x ^^^ zi y).toBitVec = (zi x).toBitVec ^^^ (zi y).toBitVec from rfl, BitVec.msb_xor]
  have h1 := zi_msb (zi x)
  have h2 := zi_msb (zi y)
  rw [zi_to hx] at h1
  rw [zi_to ⟨by omega, hy.2⟩] at h2
  have h3 : (zi y).toBitVec.msb = false := by
    cases hb : (zi y).toBitVec.msb
    · rfl
    · exact absurd (h2.mpr hb) (by omega)
  rw [h3, h1]
  simp
def nt (n : Nat) (mode : Int) (j : Nat) : Nat := if ziand mode 2 = 0 then j else n - 1 - j
def bg (L : Nat → Int) (n : Nat) (mode f : Int) : Nat → Int
  | 0 => 0
  | j + 1 => bg L n mode f j + L (nt n mode j) * f
/-- the first NOTE that is no REST, n if there is none -/
def fso (P : Nat → Int) : Nat → Nat
  | 0 => 0
  | n + 1 => if fso P n < n then fso P n else if P n = -1 then n + 1 else n
def lpi (P : Nat → Int) (n : Nat) (mode iv : Int) (i : Nat) : Int :=
  if P i = -1 then 1000 else if ziand mode 1 = 0 then (if P i = -2 then 1001 else P i + iv) else if P i = -2 ∨ P (fso P n) = -2 then 1001 else 2 * P (fso P n) - P i + iv
theorem nt_lt {n : Nat} {mode : Int} {j : Nat} (h : j < n) : nt n mode j < n := by
  unfold nt
  split <;> omega
theorem fso_spec (P : Nat → Int) : ∀ n, fso P n ≤ n ∧ (∀ j, j < fso P n → P j = -1) ∧ (fso P n < n → P (fso P n) ≠ -1) := by
  intro n
  induction n with
  | zero => exact ⟨Nat.le_refl _, fun j h => absurd h (Nat.not_lt_zero _), fun h => absurd h (Nat.lt_irrefl _)⟩
  | succ n ih =>
    obtain ⟨h1, h2, h3⟩ := ih
    simp only [fso]
    by_cases hc : fso P n < n
    · rw [if_pos hc]
      exact ⟨by omega, h2, fun _ => h3 hc⟩
    · have e : fso P n = n := by omega
      rw [if_neg hc]
      by_cases hd : P n = -1
      · rw [if_pos hd]
        exact ⟨Nat.le_refl _, lt_s (fun j hj => h2 j (by omega)) hd, fun h => absurd h (Nat.lt_irrefl _)⟩
      · rw [if_neg hd]
        exact ⟨Nat.le_succ _, fun j hj => h2 j (by omega), fun _ => hd⟩
theorem fso_eq {P : Nat → Int} {n k : Nat} (hk : k ≤ n) (h1 : ∀ j, j < k → P j = -1) (h2 : k < n → P k ≠ -1) : fso P n = k := by
  obtain ⟨a, b, d⟩ := fso_spec P n
  rcases Nat.lt_trichotomy (fso P n) k with h | h | h
  · exact absurd (h1 _ h) (d (by omega))
  · exact h
  · exact absurd (b k h) (h2 (by omega))
theorem bg_step {L : Nat → Int} {n : Nat} {mode f : Int} (hL : ∀ j, j < n → 1 ≤ L j ∧ L j ≤ 16) (hf : 1 ≤ f ∧ f ≤ 3) {j : Nat} (hj : j < n) : bg L n mode f j + 1 ≤ bg L n mode f (j + 1) ∧ bg L n mode f (j + 1) ≤ bg L n mode f j + 48 := by
  have h := hL _ (nt_lt (mode := mode) hj)
  simp only [bg]
  rcases (show f = 1 ∨ f = 2 ∨ f = 3 by omega) with rfl | rfl | rfl <;> omega
theorem bg_b {L : Nat → Int} {n : Nat} {mode f : Int} (hL : ∀ j, j < n → 1 ≤ L j ∧ L j ≤ 16) (hf : 1 ≤ f ∧ f ≤ 3) : ∀ j, j ≤ n → (j : Int) ≤ bg L n mode f j ∧ bg L n mode f j ≤ 48 * j := by
  intro j
  induction j with
  | zero => intro _; simp [bg]
  | succ j ih =>
    intro hj
    have h1 := ih (by omega)
    have h2 := bg_step (mode := mode) hL hf (show j < n by omega)
    omega
theorem bg_lt {L : Nat → Int} {n : Nat} {mode f : Int} (hL : ∀ j, j < n → 1 ≤ L j ∧ L j ≤ 16) (hf : 1 ≤ f ∧ f ≤ 3) {i : Nat} : ∀ j, i < j → j ≤ n → bg L n mode f i < bg L n mode f j := by
  intro j
  induction j with
  | zero => intro h; omega
  | succ j ih =>
    intro h1 h2
    have h3 := bg_step (mode := mode) hL hf (show j < n by omega)
    by_cases e : i = j
    · subst e; omega
    · have := ih (by omega) (by omega); omega
theorem bg_all (L : Nat → Int) (n : Nat) (mode f : Int) : bg L n mode f n = usum L n * f := by
  by_cases h : ziand mode 2 = 0
  · have key : ∀ j, bg L n mode f j = usum L j * f := by
      intro j
      induction j with
      | zero => simp [bg, usum]
      | succ j ih => simp only [bg, usum, ih, nt, if_pos h, Int.add_mul]
    exact key n
  · have key : ∀ j, j ≤ n → bg L n mode f j + usum L (n - j) * f = usum L n * f := by
      intro j
      induction j with
      | zero => intro _; simp [bg]
      | succ j ih =>
        intro hj
        have h1 := ih (by omega)
        have e : n - j = (n - (j + 1)) + 1 := by omega
        rw [e] at h1
        simp only [usum, Int.add_mul] at h1
        simp only [bg, nt, if_neg h]
        rw [show n - 1 - j = n - (j + 1) by omega]
        omega
    have := key n (Nat.le_refl _)
    rw [Nat.sub_self] at this
    simpa [usum] using this
/-- the place at an offset -/
def plf (b : Nat → Int) (x : Int) : Nat → Int
  | 0 => -1
  | n + 1 => if b n ≤ x then n else plf b x n
def plc (b : Nat → Int) (n : Nat) (x : Int) : Int := if x < 0 ∨ b n ≤ x then -1 else plf b x n
theorem plf_eq {b : Nat → Int} {x : Int} {p : Nat} : ∀ n, p < n → b p ≤ x → (∀ q, p < q → q < n → x < b q) → plf b x n = p := by
  intro n
  induction n with
  | zero => intro h; omega
  | succ n ih =>
    intro h1 h2 h3
    simp only [plf]
    by_cases e : p = n
    · subst e; rw [if_pos h2]
    · rw [if_neg (by have := h3 n (by omega) (by omega); omega)]
      exact ih (by omega) h2 (fun q a d => h3 q a (by omega))
def cn (c : Wo) : Nat := (c 0 0).toNat
def cnt (c : Wo) (v j : Nat) : Nat := nt (cn c) (c (3 + v) 3) j
def cbg (c : Wo) (v : Nat) : Nat → Int := bg (c 2) (cn c) (c (3 + v) 3) (c (3 + v) 4)
def clp (c : Wo) (v j : Nat) : Int := lpi (c 1) (cn c) (c (3 + v) 3) (c (3 + v) 2) (cnt c v j)
def csn (c : Wo) (v : Nat) (t : Int) : Int := if 0 < c 0 6 then (t - c (3 + v) 1) % c 0 6 else t - c (3 + v) 1
def cpl (c : Wo) (v : Nat) (t : Int) : Int := plc (cbg c v) (cn c) (csn c v t)
section CB
variable {c : Wo} {v : Nat}
theorem cn_e (h : wfN c) : (cn c : Int) = c 0 0 ∧ cn c ≤ 24 := by
  have := h.1
  unfold cn
  omega
theorem cL (h : wfN c) : ∀ j, j < cn c → 1 ≤ c 2 j ∧ c 2 j ≤ 16 := fun j hj => (h.2 j (by have := cn_e h; omega)).2
theorem cF (h : wfV c) (hv : v < 4) : 1 ≤ c (3 + v) 4 ∧ c (3 + v) 4 ≤ 3 := (h.1 v hv).2.2.2.2
theorem cnt_lt {j : Nat} (hj : j < cn c) : cnt c v j < cn c := nt_lt hj
theorem cbg_0 : cbg c v 0 = 0 := rfl
theorem cbg_s (j : Nat) : cbg c v (j + 1) = cbg c v j + c 2 (cnt c v j) * c (3 + v) 4 := rfl
theorem cbg_step (h : wfN c) (hV : wfV c) (hv : v < 4) {j : Nat} (hj : j < cn c) : cbg c v j + 1 ≤ cbg c v (j + 1) ∧ cbg c v (j + 1) ≤ cbg c v j + 48 := bg_step (cL h) (cF hV hv) hj
theorem cbg_b (h : wfN c) (hV : wfV c) (hv : v < 4) {j : Nat} (hj : j ≤ cn c) : (j : Int) ≤ cbg c v j ∧ cbg c v j ≤ 1152 := by
  have h1 := bg_b (mode := c (3 + v) 3) (cL h) (cF hV hv) j hj
  have h2 := cn_e h
  unfold cbg
  omega
theorem cbg_lt (h : wfN c) (hV : wfV c) (hv : v < 4) {i j : Nat} (hij : i < j) (hj : j ≤ cn c) : cbg c v i < cbg c v j := bg_lt (cL h) (cF hV hv) j hij hj
theorem cbg_all (c : Wo) (v : Nat) : cbg c v (cn c) = an_size c * c (3 + v) 4 := bg_all _ _ _ _
theorem plc_eq (h : wfN c) (hV : wfV c) (hv : v < 4) {x : Int} {p : Nat} (hp : p < cn c) (h1 : cbg c v p ≤ x) (h2 : x < cbg c v (p + 1)) : plc (cbg c v) (cn c) x = p := by
  have h3 := cbg_b h hV hv (Nat.le_of_lt hp)
  have h4 : cbg c v (p + 1) ≤ cbg c v (cn c) := by
    by_cases e : p + 1 = cn c
    · rw [e]; exact Int.le_refl _
    · exact Int.le_of_lt (cbg_lt h hV hv (show p + 1 < cn c by omega) (Nat.le_refl _))
  unfold plc
  rw [if_neg (by omega)]
  refine plf_eq _ hp h1 (fun q hq hqn => ?_)
  by_cases e : q = p + 1
  · rw [e]; exact h2
  · have := cbg_lt h hV hv (show p + 1 < q by omega) (Nat.le_of_lt hqn)
    omega
theorem plc_spec (h : wfN c) (hV : wfV c) (hv : v < 4) (x : Int) : ((x < 0 ∨ cbg c v (cn c) ≤ x) ∧ plc (cbg c v) (cn c) x = -1) ∨ ∃ p : Nat, p < cn c ∧ plc (cbg c v) (cn c) x = p ∧ cbg c v p ≤ x ∧ x < cbg c v (p + 1) := by
  by_cases hx : x < 0 ∨ cbg c v (cn c) ≤ x
  · left
    exact ⟨hx, by unfold plc; rw [if_pos hx]⟩
  · right
    have key : ∀ n, n ≤ cn c → x < cbg c v n → ∃ p : Nat, p < n ∧ cbg c v p ≤ x ∧ x < cbg c v (p + 1) := by
      intro n
      induction n with
      | zero => intro _ h0; rw [cbg_0] at h0; omega
      | succ n ih =>
        intro hn h0
        by_cases hc : cbg c v n ≤ x
        · exact ⟨n, by omega, hc, h0⟩
        · obtain ⟨p, a, b, d⟩ := ih (by omega) (by omega)
          exact ⟨p, by omega, b, d⟩
    obtain ⟨p, a, b, d⟩ := key (cn c) (Nat.le_refl _) (by omega)
    exact ⟨p, a, plc_eq h hV hv a b d, b, d⟩
end CB
/-- what a line's object holds: its numbers; its places; its pitches -/
def LnF (c J : Wo) (v : Nat) : Prop := J (12 + 6 * v) 5 = c 0 0 ∧ J (12 + 6 * v) 6 = cbg c v (cn c) ∧ J (12 + 6 * v) 7 = c 0 6 ∧ J (12 + 6 * v) 8 = c (3 + v) 1 ∧ J (12 + 6 * v) 9 = c (3 + v) 2 ∧ J (12 + 6 * v) 10 = c (3 + v) 0 ∧ J (12 + 6 * v) 11 = (if ziand (c (3 + v) 3) 1 = 0 then 0 else 1)
def LnB (c J : Wo) (v : Nat) : Prop := ∀ p, p < cn c → J (13 + 6 * v) p = cnt c v p ∧ J (14 + 6 * v) p = cbg c v p
def LnT (c J : Wo) (v : Nat) : Prop := ∀ p, p < cn c → J (15 + 6 * v) p = clp c v p
end
section
/-- a contract of a method of a class that has native rows, but none for this method -/
theorem mk_metiF {l : Launch} {y : MethodName} {ws ws' : List Cond} {rm : Room} {D : va_G} {cl : List vw_C} {tys : List (ClassId × FieldType)} {sh : Nat → (Nat → Int) → va_E} {NC NW : Nat} {ad : Nat → Nat} {zs : List mk_Zt} {As : List Value} {I : Wo} {cc : ByteArray} {maxL : Nat} {Ts : List Cond} {own : String}
    {P : Int → Wo → Prop} (hinj : ∀ i j, i < NC → j < NC → ad i = ad j → i = j) (hNW : NW ≤ NC) (hy : plainFor y = true) (ho : y.cls = own) (hT : ∀ w ∈ Ts, w ∈ ws) (hw : ws = Cond.code y cc maxL (some .int) :: ws') (hfit : (lg_sl As).length ≤ maxL) (lv0 : List (Nat × Value)) (hlv : lv_args 0 As = lv0)
    (body : ∀ (p : Program) (e : Env) (s : State) (m : MethodId) (args : Array Value) (below : List Frame) (meth : Method) (c : Code) (Q : State → Prop), mk_X p m c cc maxL s args Ts own D cl tys NC NW ad zs →
      (∀ (J : Wo) (lv : List (Nat × Value)) (pc : Nat) (v : Int), decode cc pc = .ok (.ireturn, 1) → P v J → mk_A p l e rm s m args below meth c Q maxL D cl sh NC NW ad J lv pc [.int (zi v)]) →
      mk_A p l e rm s m args below meth c Q maxL D cl sh NC NW ad I lv0 0 []) : mk_C l y ws rm D cl tys sh NC NW ad zs As I (mk_pi P) := by
  subst hlv
  unfold mk_C
  refine MetFree.of_bodySF (code := cc) (maxLocals := maxL) (ret := some .int) hy ?_ ?_
  · intro args s m h hn
    obtain ⟨meth, c, h1, h2, h3, h4, h5, h6, -, -⟩ := Cond.code_spec hn (atoms_spec (ws := ws) h _ (by rw [hw]; exact List.mem_cons_self))
    exact ⟨meth, c, h1, h2, h3, h4, h5, h6⟩
  · intro p e s m args below meth c s₁ B hml hv _
    have hh0 : s₁.heap = s.heap := by rw [B.state]; rfl
    obtain ⟨rfl, hP, hK, hZ⟩ := hv
    have hown : s.vm.findClass y.cls = some m.cls := findClass_of_methodNamed B.named
    have hl := lv_entry As hfit
    subst ho
    have X : mk_X p m c cc maxL s As.toArray Ts y.cls D cl tys NC NW ad zs := ⟨⟨B.exec, B.bytes, hml, hown, fun w hw' => atoms_spec (ws := ws) B.pre w (hT w hw')⟩, hK, hinj, hNW, hZ⟩
    have K := body p e s m _ below meth c (MQ below (mk_Q D cl tys sh NC NW ad (mk_pi P)) As.toArray s 0 0 (mk_in NW ad)) X (fun J lv pc v hd hp => mk_iret X B.notSynchronized B.returns hd ⟨v, rfl, hp⟩) s.heap [] _ hP va_S.rf hl
    rw [← lg_entry_eq] at K
    obtain ⟨t, a1, o, b1, b2, b3⟩ := K s₁ hh0 (Stand.of_body B)
    exact ⟨t, o, a1, b1, b2, ⟨b3.1, b3.2⟩⟩
theorem cbg_pos {c : Wo} {v : Nat} {x : Int} (h0 : 0 ≤ x) (h : x < cbg c v (cn c)) : 0 < cn c := by
  rcases Nat.eq_zero_or_pos (cn c) with e | e
  · rw [e, cbg_0] at h; omega
  · exact e
theorem fill_0 (I : Wo) (q : Nat) (x : Int) : I = upr I q (fun j => if j < 0 then x else I q j) := by
  funext a
  by_cases h : a = q
  · subst h; rw [upr_s]; funext j; simp
  · rw [upr_n h]
theorem fill_s {I J J1 : Wo} {q k : Nat} {x : Int} (h1 : J1 = up2 J q k x) (h : J = upr I q (fun j => if j < k then x else I q j)) : J1 = upr I q (fun j => if j < k + 1 then x else I q j) := by
  subst h1; subst h
  funext a
  by_cases ha : a = q
  · subst ha
    rw [up2_s, upr_s, upr_s]
    funext j
    unfold up1
    by_cases e : j = k
    · subst e; simp
    · rw [if_neg e]
      show (if j < k then x else I a j) = _
      by_cases e2 : j < k
      · rw [if_pos e2, if_pos (by omega)]
      · rw [if_neg e2, if_neg (by omega)]
  · rw [up2_n ha, upr_n ha, upr_n ha]
/-- the first sounding NOTE's number, as the class tells it -/
def fsr (c : Wo) : Int := if fso (c 1) (cn c) < cn c then (fso (c 1) (cn c) : Int) else -1
/-- when a place's NOTE begins -/
def ctm (c : Wo) (v p : Nat) : Int := if 0 < c 0 6 then (c (3 + v) 1 + cbg c v p) % c 0 6 else c (3 + v) 1 + cbg c v p

-- java/lang/Math.floorMod(II)I
theorem d_Math_floorMod_0 : decode prog_10_method_50_code 0 = .ok (.iload_n 0, 1) := by decide +kernel
theorem d_Math_floorMod_1 : decode prog_10_method_50_code 1 = .ok (.iload_n 1, 1) := by decide +kernel
theorem d_Math_floorMod_2 : decode prog_10_method_50_code 2 = .ok (.irem, 1) := by decide +kernel
theorem d_Math_floorMod_3 : decode prog_10_method_50_code 3 = .ok (.istore_n 2, 1) := by decide +kernel
theorem d_Math_floorMod_4 : decode prog_10_method_50_code 4 = .ok (.iload_n 0, 1) := by decide +kernel
theorem d_Math_floorMod_5 : decode prog_10_method_50_code 5 = .ok (.iload_n 1, 1) := by decide +kernel
theorem d_Math_floorMod_6 : decode prog_10_method_50_code 6 = .ok (.ixor, 1) := by decide +kernel
theorem d_Math_floorMod_7 : decode prog_10_method_50_code 7 = .ok (.ifCond .ge 11, 3) := by decide +kernel
theorem d_Math_floorMod_10 : decode prog_10_method_50_code 10 = .ok (.iload_n 2, 1) := by decide +kernel
theorem d_Math_floorMod_11 : decode prog_10_method_50_code 11 = .ok (.ifCond .eq 7, 3) := by decide +kernel
theorem d_Math_floorMod_14 : decode prog_10_method_50_code 14 = .ok (.iload_n 2, 1) := by decide +kernel
theorem d_Math_floorMod_15 : decode prog_10_method_50_code 15 = .ok (.iload_n 1, 1) := by decide +kernel
theorem d_Math_floorMod_16 : decode prog_10_method_50_code 16 = .ok (.iadd, 1) := by decide +kernel
theorem d_Math_floorMod_17 : decode prog_10_method_50_code 17 = .ok (.ireturn, 1) := by decide +kernel
theorem d_Math_floorMod_18 : decode prog_10_method_50_code 18 = .ok (.iload_n 2, 1) := by decide +kernel
theorem d_Math_floorMod_19 : decode prog_10_method_50_code 19 = .ok (.ireturn, 1) := by decide +kernel
abbrev rm_Math_floorMod : Room := { frames := 0, cells := 0, slots := 0, locals := 0 }
set_option maxHeartbeats 4000000 in
set_option maxRecDepth 100000 in
theorem c_Math_floorMod (l : Launch) (D : va_G) (cs : Nat → ClassId) (ad : Nat → Nat) (zt : Nat) (hi : cm_inj ad) (I : Wo) (x y : Int) (hx : -2147483648 ≤ x ∧ x < 2147483648) (hy : -2147483648 ≤ y ∧ y < 2147483648) (h0 : 0 < y) : cm_C l D cs ad zt y_Math_floorMod ws_Math_floorMod rm_Math_floorMod [.int (zi x), .int (zi y)] I (mk_pi (fun r J => I = J ∧ r = x % y)) := by
  refine mk_metiF (own := "java/lang/Math") (Ts := wA) hi (Nat.le_refl _) (by decide +kernel) rfl (fun w h => List.mem_cons_of_mem _ h) rfl (Nat.le_of_ble_eq_true rfl) [(0, .int (zi x)), (1, .int (zi y))] rfl ?_
  intro p_ e_ s_ m_ as_ bl_ me_ co_ Q_ X hret
  have t0 : (x < 0 → Int.tmod x y ≤ 0) ∧ (0 ≤ x → 0 ≤ Int.tmod x y) := ⟨fun h => by have := Int.tmod_nonneg y (show 0 ≤ -x by omega); rw [Int.neg_tmod] at this; omega, fun h => Int.tmod_nonneg y h⟩
  have t1 := Int.tmod_lt_of_pos x h0
  have t2 := Int.lt_tmod_of_pos x h0
  have hz := zixor_neg (x := x) (y := y) (by omega) (by omega)
  refine mk_iloadn (nx := 1) X 0 d_Math_floorMod_0 rfl rfl ?_
  refine mk_iloadn (nx := 2) X 1 d_Math_floorMod_1 rfl rfl ?_
  refine mk_irem (nx := 3) X d_Math_floorMod_2 (by omega) (by omega) (by omega) rfl ?_
  refine mk_istoren (nx := 4) X [(2, .int (zi (Int.tmod x y))), (0, .int (zi x)), (1, .int (zi y))] d_Math_floorMod_3 (by decide) rfl rfl ?_
  refine mk_iloadn (nx := 5) X 1 d_Math_floorMod_4 rfl rfl ?_
  refine mk_iloadn (nx := 6) X 2 d_Math_floorMod_5 rfl rfl ?_
  refine mk_ixor (nx := 7) X d_Math_floorMod_6 rfl ?_
  refine mk_if_ge (tgt := 18) (nx := 10) X d_Math_floorMod_7 (by exact zi_rng _) (by decide) rfl (fun c7 => ?_) (fun c7 => ?_)
  · skip
    refine mk_iloadn (nx := 19) X 0 d_Math_floorMod_18 rfl rfl ?_
    exact hret _ _ _ _ d_Math_floorMod_19 (by exact ⟨rfl, by rw [tmod_fm h0]; split <;> omega⟩)
  · skip
    refine mk_iloadn (nx := 11) X 0 d_Math_floorMod_10 rfl rfl ?_
    refine mk_if_eq (tgt := 18) (nx := 14) X d_Math_floorMod_11 (by omega) (by decide) rfl (fun c11 => ?_) (fun c11 => ?_)
    · skip
      refine mk_iloadn (nx := 19) X 0 d_Math_floorMod_18 rfl rfl ?_
      exact hret _ _ _ _ d_Math_floorMod_19 (by exact ⟨rfl, by rw [tmod_fm h0]; split <;> omega⟩)
    · skip
      refine mk_iloadn (nx := 15) X 0 d_Math_floorMod_14 rfl rfl ?_
      refine mk_iloadn (nx := 16) X 2 d_Math_floorMod_15 rfl rfl ?_
      refine mk_iadd (nx := 17) X d_Math_floorMod_16 rfl ?_
      exact hret _ _ _ _ d_Math_floorMod_17 (by exact ⟨rfl, by rw [tmod_fm h0]; split <;> omega⟩)

-- java/util/Arrays.fill([II)V
theorem d_Arrays_fill_0 : decode prog_11_method_103_code 0 = .ok (.iconst 0, 1) := by decide +kernel
theorem d_Arrays_fill_1 : decode prog_11_method_103_code 1 = .ok (.istore_n 2, 1) := by decide +kernel
theorem d_Arrays_fill_2 : decode prog_11_method_103_code 2 = .ok (.aload_n 0, 1) := by decide +kernel
theorem d_Arrays_fill_3 : decode prog_11_method_103_code 3 = .ok (.arraylength, 1) := by decide +kernel
theorem d_Arrays_fill_4 : decode prog_11_method_103_code 4 = .ok (.istore_n 3, 1) := by decide +kernel
theorem d_Arrays_fill_5 : decode prog_11_method_103_code 5 = .ok (.iload_n 2, 1) := by decide +kernel
theorem d_Arrays_fill_6 : decode prog_11_method_103_code 6 = .ok (.iload_n 3, 1) := by decide +kernel
theorem d_Arrays_fill_7 : decode prog_11_method_103_code 7 = .ok (.if_icmp .ge 13, 3) := by decide +kernel
theorem d_Arrays_fill_10 : decode prog_11_method_103_code 10 = .ok (.aload_n 0, 1) := by decide +kernel
theorem d_Arrays_fill_11 : decode prog_11_method_103_code 11 = .ok (.iload_n 2, 1) := by decide +kernel
theorem d_Arrays_fill_12 : decode prog_11_method_103_code 12 = .ok (.iload_n 1, 1) := by decide +kernel
theorem d_Arrays_fill_13 : decode prog_11_method_103_code 13 = .ok (.iastore, 1) := by decide +kernel
theorem d_Arrays_fill_14 : decode prog_11_method_103_code 14 = .ok (.iinc 2 1, 3) := by decide +kernel
theorem d_Arrays_fill_17 : decode prog_11_method_103_code 17 = .ok (.goto (-12), 3) := by decide +kernel
theorem d_Arrays_fill_20 : decode prog_11_method_103_code 20 = .ok (.return_, 1) := by decide +kernel
abbrev rm_Arrays_fill : Room := { frames := 0, cells := 0, slots := 0, locals := 0 }
set_option maxHeartbeats 4000000 in
set_option maxRecDepth 100000 in
theorem c_Arrays_fill (l : Launch) (D : va_G) (cs : Nat → ClassId) (ad : Nat → Nat) (zt : Nat) (hi : cm_inj ad) (I : Wo) (q len : Nat) (hq : q < 48) (hsh : ∀ f, cm_sh cs ad q f = .inl (cs 0, len, .inl (fun j => zi (f j)))) (hl : len < 2147483648) (x : Int) : cm_C l D cs ad zt y_Arrays_fill ws_Arrays_fill rm_Arrays_fill [.ref (ad q), .int (zi x)] I (mk_pv (fun J => J = upr I q (fun j => if j < len then x else I q j))) := by
  refine mk_metv (own := "java/util/Arrays") (Ts := wA) hi (Nat.le_refl _) (by decide) rfl (fun w h => List.mem_cons_of_mem _ h) rfl (Nat.le_of_ble_eq_true rfl) [(0, .ref (ad q)), (1, .int (zi x))] rfl ?_
  intro p_ e_ s_ m_ as_ bl_ me_ co_ Q_ X hret
  have L5 : ∀ nf : Nat, ∀ (k : Nat) (J : Wo), (k ≤ len) → (J = upr I q (fun j => if j < k then x else I q j)) → len - k < nf → mk_A p_ l e_ rm_Arrays_fill s_ m_ as_ bl_ me_ co_ Q_ 4 D cmcl (cm_sh cs ad) 48 48 ad J [(0, .ref (ad q)), (1, .int (zi x)), (2, .int (zi (k : Int))), (3, .int (zi (len : Int)))] 5 [] := by
    intro nf
    induction nf with
    | zero => intro k J hk hJ hn; exact absurd hn (Nat.not_lt_zero _)
    | succ nf ih5 =>
      intro k J hk hJ hn5
      refine mk_iloadn (nx := 6) X 2 d_Arrays_fill_5 rfl rfl ?_
      refine mk_iloadn (nx := 7) X 3 d_Arrays_fill_6 rfl rfl ?_
      refine mk_icmp_ge (tgt := 20) (nx := 10) X d_Arrays_fill_7 (by omega) (by omega) (by decide) rfl (fun c7 => ?_) (fun c7 => ?_)
      · skip
        exact hret _ _ _ d_Arrays_fill_20 (by rw [hJ, show k = len by omega])
      · skip
        refine mk_aloadn (nx := 11) X 0 d_Arrays_fill_10 rfl rfl ?_
        refine mk_iloadn (nx := 12) X 2 d_Arrays_fill_11 rfl rfl ?_
        refine mk_iloadn (nx := 13) X 1 d_Arrays_fill_12 rfl rfl ?_
        refine mk_iast (nx := 14) (j := k) X q 0 hq hsh rfl (by omega) (by omega) hl rfl d_Arrays_fill_13 rfl ?_
        obtain ⟨J1, hJ1⟩ : ∃ z, z = up2 J q k x := ⟨_, rfl⟩
        refine mk_same hJ1.symm ?_
        have hJ1s : J1 q k = x := hJ1 ▸ up2_ss J q k x
        have hJ1o : ∀ a b, (a ≠ q ∨ b ≠ k) → J1 a b = J a b := hJ1 ▸ up2_o J q k x
        refine mk_iinc (nx := 17) X 2 [(2, .int (zi ((k : Int) + 1))), (0, .ref (ad q)), (1, .int (zi x)), (3, .int (zi (len : Int)))] d_Arrays_fill_14 rfl (by decide) rfl rfl ?_
        refine mk_goto (tgt := 5) X d_Arrays_fill_17 (by decide) ?_
        refine mk_lv [1, 2, 0, 3] rfl ?_
        exact ih5 (k + 1) J1 (by omega) (by first | exact fill_0 I q x | exact fill_s hJ1 hJ) (by omega)
  refine mk_iconst (nx := 1) X d_Arrays_fill_0 rfl ?_
  refine mk_istoren (nx := 2) X [(2, .int (zi 0)), (0, .ref (ad q)), (1, .int (zi x))] d_Arrays_fill_1 (by decide) rfl rfl ?_
  refine mk_aloadn (nx := 3) X 1 d_Arrays_fill_2 rfl rfl ?_
  refine mk_alen (nx := 4) X q 0 hq (hsh _) rfl d_Arrays_fill_3 rfl ?_
  refine mk_istoren (nx := 5) X [(3, .int (zi (len : Int))), (2, .int (zi 0)), (0, .ref (ad q)), (1, .int (zi x))] d_Arrays_fill_4 (by decide) rfl rfl ?_
  refine mk_lv [2, 3, 1, 0] rfl ?_
  exact L5 _ 0 I (by omega) (by first | exact fill_0 I q x | exact fill_s hI hJ) (Nat.lt_succ_self _)

-- CanonMaker$Subject.hasOpen()Z
theorem d_Subject_hasOpen_0 : decode prog_6_method_4_code 0 = .ok (.iconst 0, 1) := by decide +kernel
theorem d_Subject_hasOpen_1 : decode prog_6_method_4_code 1 = .ok (.istore_n 1, 1) := by decide +kernel
theorem d_Subject_hasOpen_2 : decode prog_6_method_4_code 2 = .ok (.iload_n 1, 1) := by decide +kernel
theorem d_Subject_hasOpen_3 : decode prog_6_method_4_code 3 = .ok (.aload_n 0, 1) := by decide +kernel
theorem d_Subject_hasOpen_4 : decode prog_6_method_4_code 4 = .ok (.getfield 18, 3) := by decide +kernel
theorem d_Subject_hasOpen_7 : decode prog_6_method_4_code 7 = .ok (.if_icmp .ge 22, 3) := by decide +kernel
theorem d_Subject_hasOpen_10 : decode prog_6_method_4_code 10 = .ok (.aload_n 0, 1) := by decide +kernel
theorem d_Subject_hasOpen_11 : decode prog_6_method_4_code 11 = .ok (.getfield 9, 3) := by decide +kernel
theorem d_Subject_hasOpen_14 : decode prog_6_method_4_code 14 = .ok (.iload_n 1, 1) := by decide +kernel
theorem d_Subject_hasOpen_15 : decode prog_6_method_4_code 15 = .ok (.iaload, 1) := by decide +kernel
theorem d_Subject_hasOpen_16 : decode prog_6_method_4_code 16 = .ok (.bipush (-2), 2) := by decide +kernel
theorem d_Subject_hasOpen_18 : decode prog_6_method_4_code 18 = .ok (.if_icmp .ne 5, 3) := by decide +kernel
theorem d_Subject_hasOpen_21 : decode prog_6_method_4_code 21 = .ok (.iconst 1, 1) := by decide +kernel
theorem d_Subject_hasOpen_22 : decode prog_6_method_4_code 22 = .ok (.ireturn, 1) := by decide +kernel
theorem d_Subject_hasOpen_23 : decode prog_6_method_4_code 23 = .ok (.iinc 1 1, 3) := by decide +kernel
theorem d_Subject_hasOpen_26 : decode prog_6_method_4_code 26 = .ok (.goto (-24), 3) := by decide +kernel
theorem d_Subject_hasOpen_29 : decode prog_6_method_4_code 29 = .ok (.iconst 0, 1) := by decide +kernel
theorem d_Subject_hasOpen_30 : decode prog_6_method_4_code 30 = .ok (.ireturn, 1) := by decide +kernel
abbrev rm_Subject_hasOpen : Room := { frames := 0, cells := 0, slots := 0, locals := 0 }
set_option maxHeartbeats 4000000 in
set_option maxRecDepth 100000 in
theorem c_Subject_hasOpen (l : Launch) (D : va_G) (cs : Nat → ClassId) (ad : Nat → Nat) (zt : Nat) (hi : cm_inj ad) (c I : Wo) (hw : wfN c) (hm : cmN c I) : cm_C l D cs ad zt y_Subject_hasOpen ws_Subject_hasOpen rm_Subject_hasOpen [.ref (ad 1)] I (mk_pi (fun r J => I = J ∧ ((r = 1 ∧ ∃ j, j < cn c ∧ c 1 j = -2) ∨ (r = 0 ∧ ∀ j, j < cn c → ¬ c 1 j = -2)))) := by
  refine mk_metz (own := "CanonMaker$Subject") (Ts := wA) hi (Nat.le_refl _) (by decide) rfl (fun w h => List.mem_cons_of_mem _ h) rfl (Nat.le_of_ble_eq_true rfl) [(0, .ref (ad 1))] rfl ?_
  intro p_ e_ s_ m_ as_ bl_ me_ co_ Q_ X hret
  have hn := cn_e hw
  have L2 : ∀ nf : Nat, ∀ (k : Nat), ((k : Int) ≤ c 0 0) → (∀ j, j < k → ¬ c 1 j = -2) → 24 - k < nf → mk_A p_ l e_ rm_Subject_hasOpen s_ m_ as_ bl_ me_ co_ Q_ 2 D cmcl (cm_sh cs ad) 48 48 ad I [(0, .ref (ad 1)), (1, .int (zi (k : Int)))] 2 [] := by
    intro nf
    induction nf with
    | zero => intro k hk hb hn; exact absurd hn (Nat.not_lt_zero _)
    | succ nf ih2 =>
      intro k hk hb hn2
      refine mk_iloadn (nx := 3) X 1 d_Subject_hasOpen_2 rfl rfl ?_
      refine mk_aloadn (nx := 4) X 0 d_Subject_hasOpen_3 rfl rfl ?_
      refine mk_get (nx := 7) (v := .int (zi (I 1 2))) X 1 (by decide) (sh_Subject cs ad _) rfl in_Subject 2 (by decide) wd_70 rfl rfl d_Subject_hasOpen_4 rfl ?_
      rw [show I 1 2 = c 0 0 from hm.1]
      refine mk_icmp_ge (tgt := 29) (nx := 10) X d_Subject_hasOpen_7 (by omega) (by omega) (by decide) rfl (fun c7 => ?_) (fun c7 => ?_)
      · skip
        refine mk_iconst (nx := 30) X d_Subject_hasOpen_29 rfl ?_
        exact hret _ _ _ _ d_Subject_hasOpen_30 (by omega) (by exact ⟨rfl, Or.inr ⟨rfl, fun j hj => hb j (by omega)⟩⟩)
      · skip
        refine mk_aloadn (nx := 11) X 0 d_Subject_hasOpen_10 rfl rfl ?_
        refine mk_get (nx := 14) (v := .ref (ad 2)) X 1 (by decide) (sh_Subject cs ad _) rfl in_Subject 0 (by decide) wd_64 rfl rfl d_Subject_hasOpen_11 rfl ?_
        refine mk_iloadn (nx := 15) X 1 d_Subject_hasOpen_14 rfl rfl ?_
        refine mk_iald (nx := 16) (j := k) X 2 0 (by decide) (sh_Spit cs ad _) rfl (by omega) (by omega) (by decide) rfl d_Subject_hasOpen_15 rfl ?_
        rw [show I 2 k = c 1 k from (hm.2 k (by omega)).1]
        have hp := (hw.2 k (by omega)).1
        refine mk_bipush (nx := 18) X d_Subject_hasOpen_16 (by decide) rfl ?_
        refine mk_icmp_ne (tgt := 23) (nx := 21) X d_Subject_hasOpen_18 (by omega) (by omega) (by decide) rfl (fun c18 => ?_) (fun c18 => ?_)
        · skip
          refine mk_iinc (nx := 26) X 1 [(1, .int (zi ((k : Int) + 1))), (0, .ref (ad 1))] d_Subject_hasOpen_23 rfl (by decide) rfl rfl ?_
          refine mk_goto (tgt := 2) X d_Subject_hasOpen_26 (by decide) ?_
          refine mk_lv [1, 0] rfl ?_
          exact ih2 (k + 1) (by omega) (by first | exact lt_0 | exact lt_s hb (by omega)) (by omega)
        · skip
          refine mk_iconst (nx := 22) X d_Subject_hasOpen_21 rfl ?_
          exact hret _ _ _ _ d_Subject_hasOpen_22 (by omega) (by exact ⟨rfl, Or.inl ⟨rfl, k, by omega, by omega⟩⟩)
  refine mk_iconst (nx := 1) X d_Subject_hasOpen_0 rfl ?_
  refine mk_istoren (nx := 2) X [(1, .int (zi 0)), (0, .ref (ad 1))] d_Subject_hasOpen_1 (by decide) rfl rfl ?_
  refine mk_lv [1, 0] rfl ?_
  exact L2 _ 0 (by omega) (by first | exact lt_0 | exact lt_s hb (by omega)) (Nat.lt_succ_self _)

-- CanonMaker$Subject.firstSounding()I
theorem d_Subject_firstSounding_0 : decode prog_6_method_5_code 0 = .ok (.iconst 0, 1) := by decide +kernel
theorem d_Subject_firstSounding_1 : decode prog_6_method_5_code 1 = .ok (.istore_n 1, 1) := by decide +kernel
theorem d_Subject_firstSounding_2 : decode prog_6_method_5_code 2 = .ok (.iload_n 1, 1) := by decide +kernel
theorem d_Subject_firstSounding_3 : decode prog_6_method_5_code 3 = .ok (.aload_n 0, 1) := by decide +kernel
theorem d_Subject_firstSounding_4 : decode prog_6_method_5_code 4 = .ok (.getfield 18, 3) := by decide +kernel
theorem d_Subject_firstSounding_7 : decode prog_6_method_5_code 7 = .ok (.if_icmp .ge 21, 3) := by decide +kernel
theorem d_Subject_firstSounding_10 : decode prog_6_method_5_code 10 = .ok (.aload_n 0, 1) := by decide +kernel
theorem d_Subject_firstSounding_11 : decode prog_6_method_5_code 11 = .ok (.getfield 9, 3) := by decide +kernel
theorem d_Subject_firstSounding_14 : decode prog_6_method_5_code 14 = .ok (.iload_n 1, 1) := by decide +kernel
theorem d_Subject_firstSounding_15 : decode prog_6_method_5_code 15 = .ok (.iaload, 1) := by decide +kernel
theorem d_Subject_firstSounding_16 : decode prog_6_method_5_code 16 = .ok (.iconst (-1), 1) := by decide +kernel
theorem d_Subject_firstSounding_17 : decode prog_6_method_5_code 17 = .ok (.if_icmp .eq 5, 3) := by decide +kernel
theorem d_Subject_firstSounding_20 : decode prog_6_method_5_code 20 = .ok (.iload_n 1, 1) := by decide +kernel
theorem d_Subject_firstSounding_21 : decode prog_6_method_5_code 21 = .ok (.ireturn, 1) := by decide +kernel
theorem d_Subject_firstSounding_22 : decode prog_6_method_5_code 22 = .ok (.iinc 1 1, 3) := by decide +kernel
theorem d_Subject_firstSounding_25 : decode prog_6_method_5_code 25 = .ok (.goto (-23), 3) := by decide +kernel
theorem d_Subject_firstSounding_28 : decode prog_6_method_5_code 28 = .ok (.iconst (-1), 1) := by decide +kernel
theorem d_Subject_firstSounding_29 : decode prog_6_method_5_code 29 = .ok (.ireturn, 1) := by decide +kernel
abbrev rm_Subject_firstSounding : Room := { frames := 0, cells := 0, slots := 0, locals := 0 }
set_option maxHeartbeats 4000000 in
set_option maxRecDepth 100000 in
theorem c_Subject_firstSounding (l : Launch) (D : va_G) (cs : Nat → ClassId) (ad : Nat → Nat) (zt : Nat) (hi : cm_inj ad) (c I : Wo) (hw : wfN c) (hm : cmN c I) : cm_C l D cs ad zt y_Subject_firstSounding ws_Subject_firstSounding rm_Subject_firstSounding [.ref (ad 1)] I (mk_pi (fun r J => I = J ∧ r = fsr c)) := by
  refine mk_meti (own := "CanonMaker$Subject") (Ts := wA) hi (Nat.le_refl _) (by decide) rfl (fun w h => List.mem_cons_of_mem _ h) rfl (Nat.le_of_ble_eq_true rfl) [(0, .ref (ad 1))] rfl ?_
  intro p_ e_ s_ m_ as_ bl_ me_ co_ Q_ X hret
  have hn := cn_e hw
  have L2 : ∀ nf : Nat, ∀ (k : Nat), ((k : Int) ≤ c 0 0) → (∀ j, j < k → c 1 j = -1) → 24 - k < nf → mk_A p_ l e_ rm_Subject_firstSounding s_ m_ as_ bl_ me_ co_ Q_ 2 D cmcl (cm_sh cs ad) 48 48 ad I [(0, .ref (ad 1)), (1, .int (zi (k : Int)))] 2 [] := by
    intro nf
    induction nf with
    | zero => intro k hk hb hn; exact absurd hn (Nat.not_lt_zero _)
    | succ nf ih2 =>
      intro k hk hb hn2
      refine mk_iloadn (nx := 3) X 1 d_Subject_firstSounding_2 rfl rfl ?_
      refine mk_aloadn (nx := 4) X 0 d_Subject_firstSounding_3 rfl rfl ?_
      refine mk_get (nx := 7) (v := .int (zi (I 1 2))) X 1 (by decide) (sh_Subject cs ad _) rfl in_Subject 2 (by decide) wd_70 rfl rfl d_Subject_firstSounding_4 rfl ?_
      rw [show I 1 2 = c 0 0 from hm.1]
      refine mk_icmp_ge (tgt := 28) (nx := 10) X d_Subject_firstSounding_7 (by omega) (by omega) (by decide) rfl (fun c7 => ?_) (fun c7 => ?_)
      · skip
        refine mk_iconst (nx := 29) X d_Subject_firstSounding_28 rfl ?_
        exact hret _ _ _ _ d_Subject_firstSounding_29 (by exact ⟨rfl, by rw [fsr, fso_eq (k := k) (by omega) hb (fun _ => by omega), if_neg (by omega)]⟩)
      · skip
        refine mk_aloadn (nx := 11) X 0 d_Subject_firstSounding_10 rfl rfl ?_
        refine mk_get (nx := 14) (v := .ref (ad 2)) X 1 (by decide) (sh_Subject cs ad _) rfl in_Subject 0 (by decide) wd_64 rfl rfl d_Subject_firstSounding_11 rfl ?_
        refine mk_iloadn (nx := 15) X 1 d_Subject_firstSounding_14 rfl rfl ?_
        refine mk_iald (nx := 16) (j := k) X 2 0 (by decide) (sh_Spit cs ad _) rfl (by omega) (by omega) (by decide) rfl d_Subject_firstSounding_15 rfl ?_
        rw [show I 2 k = c 1 k from (hm.2 k (by omega)).1]
        have hp := (hw.2 k (by omega)).1
        refine mk_iconst (nx := 17) X d_Subject_firstSounding_16 rfl ?_
        refine mk_icmp_eq (tgt := 22) (nx := 20) X d_Subject_firstSounding_17 (by omega) (by omega) (by decide) rfl (fun c17 => ?_) (fun c17 => ?_)
        · skip
          refine mk_iinc (nx := 25) X 1 [(1, .int (zi ((k : Int) + 1))), (0, .ref (ad 1))] d_Subject_firstSounding_22 rfl (by decide) rfl rfl ?_
          refine mk_goto (tgt := 2) X d_Subject_firstSounding_25 (by decide) ?_
          refine mk_lv [1, 0] rfl ?_
          exact ih2 (k + 1) (by omega) (by first | exact lt_0 | exact lt_s hb (by omega)) (by omega)
        · skip
          refine mk_iloadn (nx := 21) X 1 d_Subject_firstSounding_20 rfl rfl ?_
          exact hret _ _ _ _ d_Subject_firstSounding_21 (by exact ⟨rfl, by rw [fsr, fso_eq (k := k) (by omega) hb (fun _ => by omega), if_pos (by omega)]⟩)
  refine mk_iconst (nx := 1) X d_Subject_firstSounding_0 rfl ?_
  refine mk_istoren (nx := 2) X [(1, .int (zi 0)), (0, .ref (ad 1))] d_Subject_firstSounding_1 (by decide) rfl rfl ?_
  refine mk_lv [1, 0] rfl ?_
  exact L2 _ 0 (by omega) (by first | exact lt_0 | exact lt_s hb (by omega)) (Nat.lt_succ_self _)

-- CanonMaker$Line.sinceBegin(I)I
theorem d_Line_sinceBegin_0 : decode prog_4_method_5_code 0 = .ok (.aload_n 0, 1) := by decide +kernel
theorem d_Line_sinceBegin_1 : decode prog_4_method_5_code 1 = .ok (.getfield 49, 3) := by decide +kernel
theorem d_Line_sinceBegin_4 : decode prog_4_method_5_code 4 = .ok (.ifCond .le 19, 3) := by decide +kernel
theorem d_Line_sinceBegin_7 : decode prog_4_method_5_code 7 = .ok (.iload_n 1, 1) := by decide +kernel
theorem d_Line_sinceBegin_8 : decode prog_4_method_5_code 8 = .ok (.aload_n 0, 1) := by decide +kernel
theorem d_Line_sinceBegin_9 : decode prog_4_method_5_code 9 = .ok (.getfield 44, 3) := by decide +kernel
theorem d_Line_sinceBegin_12 : decode prog_4_method_5_code 12 = .ok (.isub, 1) := by decide +kernel
theorem d_Line_sinceBegin_13 : decode prog_4_method_5_code 13 = .ok (.aload_n 0, 1) := by decide +kernel
theorem d_Line_sinceBegin_14 : decode prog_4_method_5_code 14 = .ok (.getfield 49, 3) := by decide +kernel
theorem d_Line_sinceBegin_17 : decode prog_4_method_5_code 17 = .ok (.invokestatic 82, 3) := by decide +kernel
theorem d_Line_sinceBegin_20 : decode prog_4_method_5_code 20 = .ok (.goto 9, 3) := by decide +kernel
theorem d_Line_sinceBegin_23 : decode prog_4_method_5_code 23 = .ok (.iload_n 1, 1) := by decide +kernel
theorem d_Line_sinceBegin_24 : decode prog_4_method_5_code 24 = .ok (.aload_n 0, 1) := by decide +kernel
theorem d_Line_sinceBegin_25 : decode prog_4_method_5_code 25 = .ok (.getfield 44, 3) := by decide +kernel
theorem d_Line_sinceBegin_28 : decode prog_4_method_5_code 28 = .ok (.isub, 1) := by decide +kernel
theorem d_Line_sinceBegin_29 : decode prog_4_method_5_code 29 = .ok (.ireturn, 1) := by decide +kernel
abbrev rm_Line_sinceBegin : Room := { frames := 1, cells := 0, slots := 0, locals := 22 }
set_option maxHeartbeats 4000000 in
set_option maxRecDepth 100000 in
theorem c_Line_sinceBegin (l : Launch) (D : va_G) (cs : Nat → ClassId) (ad : Nat → Nat) (zt : Nat) (hi : cm_inj ad) (c I : Wo) (hw : wfN c) (hS : wfS c) (hV : wfV c) (v : Nat) (hv : v < 4) (hF : LnF c I v) (t : Int) (ht : -100000 ≤ t ∧ t ≤ 100000) : cm_C l D cs ad zt y_Line_sinceBegin ws_Line_sinceBegin rm_Line_sinceBegin [.ref (ad (12 + 6 * v)), .int (zi t)] I (mk_pi (fun r J => I = J ∧ r = csn c v t)) := by
  refine mk_meti (own := "CanonMaker$Line") (Ts := wA) hi (Nat.le_refl _) (by decide) rfl (fun w h => List.mem_cons_of_mem _ h) rfl (Nat.le_of_ble_eq_true rfl) [(0, .ref (ad (12 + 6 * v))), (1, .int (zi t))] rfl ?_
  intro p_ e_ s_ m_ as_ bl_ me_ co_ Q_ X hret
  have hn := cn_e hw
  have hv5 := hV.1 v hv
  obtain ⟨hlo, hsc, hbt, hru, hrd, hst⟩ := id hS
  refine mk_aloadn (nx := 1) X 0 d_Line_sinceBegin_0 rfl rfl ?_
  refine mk_get (nx := 4) (v := .int (zi (I (12 + 6 * v) 7))) X (12 + 6 * v) (by omega) (sh_Line cs ad (show v < 4 by omega) _) rfl in_Line 7 (by decide) wd_142 rfl rfl d_Line_sinceBegin_1 rfl ?_
  rw [show I (12 + 6 * v) 7 = c 0 6 from hF.2.2.1]
  refine mk_if_le (tgt := 23) (nx := 7) X d_Line_sinceBegin_4 (by omega) (by decide) rfl (fun c4 => ?_) (fun c4 => ?_)
  · skip
    refine mk_iloadn (nx := 24) X 1 d_Line_sinceBegin_23 rfl rfl ?_
    refine mk_aloadn (nx := 25) X 0 d_Line_sinceBegin_24 rfl rfl ?_
    refine mk_get (nx := 28) (v := .int (zi (I (12 + 6 * v) 8))) X (12 + 6 * v) (by omega) (sh_Line cs ad (show v < 4 by omega) _) rfl in_Line 8 (by decide) wd_143 rfl rfl d_Line_sinceBegin_25 rfl ?_
    rw [show I (12 + 6 * v) 8 = c (3 + v) 1 from hF.2.2.2.1]
    refine mk_isub (nx := 29) X d_Line_sinceBegin_28 rfl ?_
    exact hret _ _ _ _ d_Line_sinceBegin_29 (by first | exact ⟨rfl, by rw [csn, if_pos (by omega)]⟩ | exact ⟨rfl, by rw [csn, if_neg (by omega)]⟩)
  · skip
    refine mk_iloadn (nx := 8) X 1 d_Line_sinceBegin_7 rfl rfl ?_
    refine mk_aloadn (nx := 9) X 0 d_Line_sinceBegin_8 rfl rfl ?_
    refine mk_get (nx := 12) (v := .int (zi (I (12 + 6 * v) 8))) X (12 + 6 * v) (by omega) (sh_Line cs ad (show v < 4 by omega) _) rfl in_Line 8 (by decide) wd_143 rfl rfl d_Line_sinceBegin_9 rfl ?_
    rw [show I (12 + 6 * v) 8 = c (3 + v) 1 from hF.2.2.2.1]
    refine mk_isub (nx := 13) X d_Line_sinceBegin_12 rfl ?_
    refine mk_aloadn (nx := 14) X 0 d_Line_sinceBegin_13 rfl rfl ?_
    refine mk_get (nx := 17) (v := .int (zi (I (12 + 6 * v) 7))) X (12 + 6 * v) (by omega) (sh_Line cs ad (show v < 4 by omega) _) rfl in_Line 7 (by decide) wd_142 rfl rfl d_Line_sinceBegin_14 rfl ?_
    rw [show I (12 + 6 * v) 7 = c 0 6 from hF.2.2.1]
    refine mk_callTi (nx := 20) (n := 2) (As := [.int (zi (t - (c (3 + v) 1))), .int (zi (c 0 6))]) (rest := []) X (c_Math_floorMod l D cs ad zt hi I (t - (c (3 + v) 1)) (c 0 6) (by omega) (by omega) (by omega)) (g_Math_floorMod wd_425) rfl ⟨rfl, rfl⟩ (by decide +kernel) ⟨by decide, by decide⟩ rfl (Nat.le_of_ble_eq_true rfl) rfl d_Line_sinceBegin_17 rfl ?_
    intro r17 J1 hJ1
    obtain ⟨rfl, rfl⟩ := hJ1
    refine mk_goto (tgt := 29) X d_Line_sinceBegin_20 (by decide) ?_
    exact hret _ _ _ _ d_Line_sinceBegin_29 (by first | exact ⟨rfl, by rw [csn, if_pos (by omega)]⟩ | exact ⟨rfl, by rw [csn, if_neg (by omega)]⟩)

-- CanonMaker$Line.placeAt(I)I
theorem d_Line_placeAt_0 : decode prog_4_method_6_code 0 = .ok (.aload_n 0, 1) := by decide +kernel
theorem d_Line_placeAt_1 : decode prog_4_method_6_code 1 = .ok (.iload_n 1, 1) := by decide +kernel
theorem d_Line_placeAt_2 : decode prog_4_method_6_code 2 = .ok (.invokevirtual 88, 3) := by decide +kernel
theorem d_Line_placeAt_5 : decode prog_4_method_6_code 5 = .ok (.istore_n 2, 1) := by decide +kernel
theorem d_Line_placeAt_6 : decode prog_4_method_6_code 6 = .ok (.iload_n 2, 1) := by decide +kernel
theorem d_Line_placeAt_7 : decode prog_4_method_6_code 7 = .ok (.ifCond .lt 11, 3) := by decide +kernel
theorem d_Line_placeAt_10 : decode prog_4_method_6_code 10 = .ok (.iload_n 2, 1) := by decide +kernel
theorem d_Line_placeAt_11 : decode prog_4_method_6_code 11 = .ok (.aload_n 0, 1) := by decide +kernel
theorem d_Line_placeAt_12 : decode prog_4_method_6_code 12 = .ok (.getfield 58, 3) := by decide +kernel
theorem d_Line_placeAt_15 : decode prog_4_method_6_code 15 = .ok (.if_icmp .lt 5, 3) := by decide +kernel
theorem d_Line_placeAt_18 : decode prog_4_method_6_code 18 = .ok (.iconst (-1), 1) := by decide +kernel
theorem d_Line_placeAt_19 : decode prog_4_method_6_code 19 = .ok (.ireturn, 1) := by decide +kernel
theorem d_Line_placeAt_20 : decode prog_4_method_6_code 20 = .ok (.iconst 0, 1) := by decide +kernel
theorem d_Line_placeAt_21 : decode prog_4_method_6_code 21 = .ok (.istore_n 3, 1) := by decide +kernel
theorem d_Line_placeAt_22 : decode prog_4_method_6_code 22 = .ok (.iconst 1, 1) := by decide +kernel
theorem d_Line_placeAt_23 : decode prog_4_method_6_code 23 = .ok (.istore 4, 2) := by decide +kernel
theorem d_Line_placeAt_25 : decode prog_4_method_6_code 25 = .ok (.iload 4, 2) := by decide +kernel
theorem d_Line_placeAt_27 : decode prog_4_method_6_code 27 = .ok (.aload_n 0, 1) := by decide +kernel
theorem d_Line_placeAt_28 : decode prog_4_method_6_code 28 = .ok (.getfield 57, 3) := by decide +kernel
theorem d_Line_placeAt_31 : decode prog_4_method_6_code 31 = .ok (.if_icmp .ge 23, 3) := by decide +kernel
theorem d_Line_placeAt_34 : decode prog_4_method_6_code 34 = .ok (.aload_n 0, 1) := by decide +kernel
theorem d_Line_placeAt_35 : decode prog_4_method_6_code 35 = .ok (.getfield 15, 3) := by decide +kernel
theorem d_Line_placeAt_38 : decode prog_4_method_6_code 38 = .ok (.iload 4, 2) := by decide +kernel
theorem d_Line_placeAt_40 : decode prog_4_method_6_code 40 = .ok (.iaload, 1) := by decide +kernel
theorem d_Line_placeAt_41 : decode prog_4_method_6_code 41 = .ok (.iload_n 2, 1) := by decide +kernel
theorem d_Line_placeAt_42 : decode prog_4_method_6_code 42 = .ok (.if_icmp .gt 12, 3) := by decide +kernel
theorem d_Line_placeAt_45 : decode prog_4_method_6_code 45 = .ok (.iload 4, 2) := by decide +kernel
theorem d_Line_placeAt_47 : decode prog_4_method_6_code 47 = .ok (.istore_n 3, 1) := by decide +kernel
theorem d_Line_placeAt_48 : decode prog_4_method_6_code 48 = .ok (.iinc 4 1, 3) := by decide +kernel
theorem d_Line_placeAt_51 : decode prog_4_method_6_code 51 = .ok (.goto (-26), 3) := by decide +kernel
theorem d_Line_placeAt_54 : decode prog_4_method_6_code 54 = .ok (.iload_n 3, 1) := by decide +kernel
theorem d_Line_placeAt_55 : decode prog_4_method_6_code 55 = .ok (.ireturn, 1) := by decide +kernel
abbrev rm_Line_placeAt : Room := { frames := 2, cells := 0, slots := 0, locals := 43 }
set_option maxHeartbeats 4000000 in
set_option maxRecDepth 100000 in
theorem c_Line_placeAt (l : Launch) (D : va_G) (cs : Nat → ClassId) (ad : Nat → Nat) (zt : Nat) (hi : cm_inj ad) (c I : Wo) (hw : wfN c) (hS : wfS c) (hV : wfV c) (v : Nat) (hv : v < 4) (hF : LnF c I v) (hB : LnB c I v) (t : Int) (ht : -100000 ≤ t ∧ t ≤ 100000) : cm_C l D cs ad zt y_Line_placeAt ws_Line_placeAt rm_Line_placeAt [.ref (ad (12 + 6 * v)), .int (zi t)] I (mk_pi (fun r J => I = J ∧ r = cpl c v t)) := by
  refine mk_meti (own := "CanonMaker$Line") (Ts := wA) hi (Nat.le_refl _) (by decide) rfl (fun w h => List.mem_cons_of_mem _ h) rfl (Nat.le_of_ble_eq_true rfl) [(0, .ref (ad (12 + 6 * v))), (1, .int (zi t))] rfl ?_
  intro p_ e_ s_ m_ as_ bl_ me_ co_ Q_ X hret
  have hn := cn_e hw
  have hv5 := hV.1 v hv
  obtain ⟨hlo, hsc, hbt, hru, hrd, hst⟩ := id hS
  have hu := cbg_b hw hV hv (Nat.le_refl (cn c))
  have hsn : -100100 ≤ csn c v t ∧ csn c v t ≤ 100100 := by
    unfold csn
    by_cases hc : 0 < c 0 6
    · rw [if_pos hc]
      have h1 := Int.emod_nonneg (t - c (3 + v) 1) (show c 0 6 ≠ 0 by omega)
      have h2 := Int.emod_lt_of_pos (t - c (3 + v) 1) hc
      omega
    · rw [if_neg hc]; omega
  have L25 : ∀ nf : Nat, ∀ (p : Nat), (p < cn c) → (cbg c v p ≤ csn c v t) → (csn c v t < cbg c v (cn c)) → 24 - p < nf → mk_A p_ l e_ rm_Line_placeAt s_ m_ as_ bl_ me_ co_ Q_ 5 D cmcl (cm_sh cs ad) 48 48 ad I [(0, .ref (ad (12 + 6 * v))), (1, .int (zi t)), (2, .int (zi (csn c v t))), (3, .int (zi (p : Int))), (4, .int (zi ((p : Int) + 1)))] 25 [] := by
    intro nf
    induction nf with
    | zero => intro p hp hp1 hx hn; exact absurd hn (Nat.not_lt_zero _)
    | succ nf ih25 =>
      intro p hp hp1 hx hn25
      refine mk_iload (nx := 27) X 4 d_Line_placeAt_25 rfl rfl ?_
      refine mk_aloadn (nx := 28) X 0 d_Line_placeAt_27 rfl rfl ?_
      refine mk_get (nx := 31) (v := .int (zi (I (12 + 6 * v) 5))) X (12 + 6 * v) (by omega) (sh_Line cs ad (show v < 4 by omega) _) rfl in_Line 5 (by decide) wd_139 rfl rfl d_Line_placeAt_28 rfl ?_
      rw [show I (12 + 6 * v) 5 = c 0 0 from hF.1]
      refine mk_icmp_ge (tgt := 54) (nx := 34) X d_Line_placeAt_31 (by omega) (by omega) (by decide) rfl (fun c31 => ?_) (fun c31 => ?_)
      · skip
        refine mk_iloadn (nx := 55) X 3 d_Line_placeAt_54 rfl rfl ?_
        exact hret _ _ _ _ d_Line_placeAt_55 (by exact ⟨rfl, (plc_eq hw hV hv (p := p) (by omega) hp1 (by first | omega | (have e : p + 1 = cn c := (by omega); rw [e]; omega))).symm⟩)
      · skip
        refine mk_aloadn (nx := 35) X 0 d_Line_placeAt_34 rfl rfl ?_
        refine mk_get (nx := 38) (v := .ref (ad (14 + 6 * v))) X (12 + 6 * v) (by omega) (sh_Line cs ad (show v < 4 by omega) _) rfl in_Line 1 (by decide) wd_128 rfl rfl d_Line_placeAt_35 rfl ?_
        refine mk_iload (nx := 40) X 4 d_Line_placeAt_38 rfl rfl ?_
        have hbb := cbg_b hw hV hv (show p + 1 ≤ cn c by omega)
        refine mk_iald (nx := 41) (j := (p + 1)) X (14 + 6 * v) 0 (by omega) (sh_Lbegins cs ad (show v < 4 by omega) _) rfl (by omega) (by omega) (by decide) rfl d_Line_placeAt_40 rfl ?_
        rw [show I (14 + 6 * v) (p + 1) = cbg c v (p + 1) from (hB (p + 1) (by omega)).2]
        refine mk_iloadn (nx := 42) X 2 d_Line_placeAt_41 rfl rfl ?_
        refine mk_icmp_gt (tgt := 54) (nx := 45) X d_Line_placeAt_42 (by omega) (by omega) (by decide) rfl (fun c42 => ?_) (fun c42 => ?_)
        · skip
          refine mk_iloadn (nx := 55) X 3 d_Line_placeAt_54 rfl rfl ?_
          exact hret _ _ _ _ d_Line_placeAt_55 (by exact ⟨rfl, (plc_eq hw hV hv (p := p) (by omega) hp1 (by first | omega | (have e : p + 1 = cn c := (by omega); rw [e]; omega))).symm⟩)
        · skip
          refine mk_iload (nx := 47) X 4 d_Line_placeAt_45 rfl rfl ?_
          refine mk_istoren (nx := 48) X [(3, .int (zi ((p : Int) + 1))), (0, .ref (ad (12 + 6 * v))), (1, .int (zi t)), (2, .int (zi (csn c v t))), (4, .int (zi ((p : Int) + 1)))] d_Line_placeAt_47 (by decide) rfl rfl ?_
          refine mk_iinc (nx := 51) X 4 [(4, .int (zi ((p : Int) + 1 + 1))), (3, .int (zi ((p : Int) + 1))), (0, .ref (ad (12 + 6 * v))), (1, .int (zi t)), (2, .int (zi (csn c v t)))] d_Line_placeAt_48 rfl (by decide) rfl rfl ?_
          refine mk_goto (tgt := 25) X d_Line_placeAt_51 (by decide) ?_
          refine mk_lv [2, 3, 4, 1, 0] rfl ?_
          exact ih25 (p + 1) (by first | omega | exact cbg_pos (c := c) (v := v) (x := csn c v t) (by omega) (by omega)) (by first | omega | (rw [cbg_0]; omega)) (by omega) (by omega)
  refine mk_aloadn (nx := 1) X 0 d_Line_placeAt_0 rfl rfl ?_
  refine mk_iloadn (nx := 2) X 1 d_Line_placeAt_1 rfl rfl ?_
  refine mk_callVi (nx := 5) (n := 1) (As := [.int (zi t)]) (rest := []) X (12 + 6 * v) (by omega) (sh_Line cs ad (show v < 4 by omega) _) rfl (c_Line_sinceBegin l D cs ad zt hi c I hw hS hV v hv hF t ht) (g_Line_sinceBegin wd_421) rfl ⟨rfl, rfl⟩ (by decide +kernel) ⟨by decide, by decide⟩ rfl (Nat.le_of_ble_eq_true rfl) rfl d_Line_placeAt_2 rfl ?_
  intro r2 J1 hJ1
  obtain ⟨rfl, rfl⟩ := hJ1
  refine mk_istoren (nx := 6) X [(2, .int (zi (csn c v t))), (0, .ref (ad (12 + 6 * v))), (1, .int (zi t))] d_Line_placeAt_5 (by decide) rfl rfl ?_
  refine mk_iloadn (nx := 7) X 0 d_Line_placeAt_6 rfl rfl ?_
  refine mk_if_lt (tgt := 18) (nx := 10) X d_Line_placeAt_7 (by omega) (by decide) rfl (fun c7 => ?_) (fun c7 => ?_)
  · skip
    refine mk_iconst (nx := 19) X d_Line_placeAt_18 rfl ?_
    exact hret _ _ _ _ d_Line_placeAt_19 (by exact ⟨rfl, by unfold cpl plc; rw [if_pos (by omega)]⟩)
  · skip
    refine mk_iloadn (nx := 11) X 0 d_Line_placeAt_10 rfl rfl ?_
    refine mk_aloadn (nx := 12) X 1 d_Line_placeAt_11 rfl rfl ?_
    refine mk_get (nx := 15) (v := .int (zi (I (12 + 6 * v) 6))) X (12 + 6 * v) (by omega) (sh_Line cs ad (show v < 4 by omega) _) rfl in_Line 6 (by decide) wd_141 rfl rfl d_Line_placeAt_12 rfl ?_
    rw [show I (12 + 6 * v) 6 = cbg c v (cn c) from hF.2.1]
    refine mk_icmp_lt (tgt := 20) (nx := 18) X d_Line_placeAt_15 (by omega) (by omega) (by decide) rfl (fun c15 => ?_) (fun c15 => ?_)
    · skip
      refine mk_iconst (nx := 21) X d_Line_placeAt_20 rfl ?_
      refine mk_istoren (nx := 22) X [(3, .int (zi 0)), (2, .int (zi (csn c v t))), (0, .ref (ad (12 + 6 * v))), (1, .int (zi t))] d_Line_placeAt_21 (by decide) rfl rfl ?_
      refine mk_iconst (nx := 23) X d_Line_placeAt_22 rfl ?_
      refine mk_istore (nx := 25) X [(4, .int (zi 1)), (3, .int (zi 0)), (2, .int (zi (csn c v t))), (0, .ref (ad (12 + 6 * v))), (1, .int (zi t))] d_Line_placeAt_23 (by decide) rfl rfl ?_
      refine mk_lv [3, 4, 2, 1, 0] rfl ?_
      exact L25 _ 0 (by first | omega | exact cbg_pos (c := c) (v := v) (x := csn c v t) (by omega) (by omega)) (by first | omega | (rw [cbg_0]; omega)) (by omega) (Nat.lt_succ_self _)
    · skip
      refine mk_iconst (nx := 19) X d_Line_placeAt_18 rfl ?_
      exact hret _ _ _ _ d_Line_placeAt_19 (by exact ⟨rfl, by unfold cpl plc; rw [if_pos (by omega)]⟩)

-- CanonMaker$Line.timeOf(I)I
theorem d_Line_timeOf_0 : decode prog_4_method_7_code 0 = .ok (.aload_n 0, 1) := by decide +kernel
theorem d_Line_timeOf_1 : decode prog_4_method_7_code 1 = .ok (.getfield 44, 3) := by decide +kernel
theorem d_Line_timeOf_4 : decode prog_4_method_7_code 4 = .ok (.aload_n 0, 1) := by decide +kernel
theorem d_Line_timeOf_5 : decode prog_4_method_7_code 5 = .ok (.getfield 15, 3) := by decide +kernel
theorem d_Line_timeOf_8 : decode prog_4_method_7_code 8 = .ok (.iload_n 1, 1) := by decide +kernel
theorem d_Line_timeOf_9 : decode prog_4_method_7_code 9 = .ok (.iaload, 1) := by decide +kernel
theorem d_Line_timeOf_10 : decode prog_4_method_7_code 10 = .ok (.iadd, 1) := by decide +kernel
theorem d_Line_timeOf_11 : decode prog_4_method_7_code 11 = .ok (.istore_n 2, 1) := by decide +kernel
theorem d_Line_timeOf_12 : decode prog_4_method_7_code 12 = .ok (.aload_n 0, 1) := by decide +kernel
theorem d_Line_timeOf_13 : decode prog_4_method_7_code 13 = .ok (.getfield 49, 3) := by decide +kernel
theorem d_Line_timeOf_16 : decode prog_4_method_7_code 16 = .ok (.ifCond .le 14, 3) := by decide +kernel
theorem d_Line_timeOf_19 : decode prog_4_method_7_code 19 = .ok (.iload_n 2, 1) := by decide +kernel
theorem d_Line_timeOf_20 : decode prog_4_method_7_code 20 = .ok (.aload_n 0, 1) := by decide +kernel
theorem d_Line_timeOf_21 : decode prog_4_method_7_code 21 = .ok (.getfield 49, 3) := by decide +kernel
theorem d_Line_timeOf_24 : decode prog_4_method_7_code 24 = .ok (.invokestatic 82, 3) := by decide +kernel
theorem d_Line_timeOf_27 : decode prog_4_method_7_code 27 = .ok (.goto 4, 3) := by decide +kernel
theorem d_Line_timeOf_30 : decode prog_4_method_7_code 30 = .ok (.iload_n 2, 1) := by decide +kernel
theorem d_Line_timeOf_31 : decode prog_4_method_7_code 31 = .ok (.ireturn, 1) := by decide +kernel
abbrev rm_Line_timeOf : Room := { frames := 1, cells := 0, slots := 0, locals := 22 }
set_option maxHeartbeats 4000000 in
set_option maxRecDepth 100000 in
theorem c_Line_timeOf (l : Launch) (D : va_G) (cs : Nat → ClassId) (ad : Nat → Nat) (zt : Nat) (hi : cm_inj ad) (c I : Wo) (hw : wfN c) (hS : wfS c) (hV : wfV c) (v : Nat) (hv : v < 4) (hF : LnF c I v) (hB : LnB c I v) (p : Nat) (hp : p < cn c) : cm_C l D cs ad zt y_Line_timeOf ws_Line_timeOf rm_Line_timeOf [.ref (ad (12 + 6 * v)), .int (zi (p : Int))] I (mk_pi (fun r J => I = J ∧ r = ctm c v p)) := by
  refine mk_meti (own := "CanonMaker$Line") (Ts := wA) hi (Nat.le_refl _) (by decide) rfl (fun w h => List.mem_cons_of_mem _ h) rfl (Nat.le_of_ble_eq_true rfl) [(0, .ref (ad (12 + 6 * v))), (1, .int (zi (p : Int)))] rfl ?_
  intro p_ e_ s_ m_ as_ bl_ me_ co_ Q_ X hret
  have hn := cn_e hw
  have hv5 := hV.1 v hv
  obtain ⟨hlo, hsc, hbt, hru, hrd, hst⟩ := id hS
  have hbb := cbg_b hw hV hv (Nat.le_of_lt hp)
  refine mk_aloadn (nx := 1) X 0 d_Line_timeOf_0 rfl rfl ?_
  refine mk_get (nx := 4) (v := .int (zi (I (12 + 6 * v) 8))) X (12 + 6 * v) (by omega) (sh_Line cs ad (show v < 4 by omega) _) rfl in_Line 8 (by decide) wd_143 rfl rfl d_Line_timeOf_1 rfl ?_
  rw [show I (12 + 6 * v) 8 = c (3 + v) 1 from hF.2.2.2.1]
  refine mk_aloadn (nx := 5) X 0 d_Line_timeOf_4 rfl rfl ?_
  refine mk_get (nx := 8) (v := .ref (ad (14 + 6 * v))) X (12 + 6 * v) (by omega) (sh_Line cs ad (show v < 4 by omega) _) rfl in_Line 1 (by decide) wd_128 rfl rfl d_Line_timeOf_5 rfl ?_
  refine mk_iloadn (nx := 9) X 1 d_Line_timeOf_8 rfl rfl ?_
  refine mk_iald (nx := 10) (j := p) X (14 + 6 * v) 0 (by omega) (sh_Lbegins cs ad (show v < 4 by omega) _) rfl (by omega) (by omega) (by decide) rfl d_Line_timeOf_9 rfl ?_
  rw [show I (14 + 6 * v) p = cbg c v p from (hB p (by omega)).2]
  refine mk_iadd (nx := 11) X d_Line_timeOf_10 rfl ?_
  refine mk_istoren (nx := 12) X [(2, .int (zi ((c (3 + v) 1) + (cbg c v p)))), (0, .ref (ad (12 + 6 * v))), (1, .int (zi (p : Int)))] d_Line_timeOf_11 (by decide) rfl rfl ?_
  refine mk_aloadn (nx := 13) X 1 d_Line_timeOf_12 rfl rfl ?_
  refine mk_get (nx := 16) (v := .int (zi (I (12 + 6 * v) 7))) X (12 + 6 * v) (by omega) (sh_Line cs ad (show v < 4 by omega) _) rfl in_Line 7 (by decide) wd_142 rfl rfl d_Line_timeOf_13 rfl ?_
  rw [show I (12 + 6 * v) 7 = c 0 6 from hF.2.2.1]
  refine mk_if_le (tgt := 30) (nx := 19) X d_Line_timeOf_16 (by omega) (by decide) rfl (fun c16 => ?_) (fun c16 => ?_)
  · skip
    refine mk_iloadn (nx := 31) X 0 d_Line_timeOf_30 rfl rfl ?_
    exact hret _ _ _ _ d_Line_timeOf_31 (by first | exact ⟨rfl, by rw [ctm, if_pos (by omega)]⟩ | exact ⟨rfl, by rw [ctm, if_neg (by omega)]⟩)
  · skip
    refine mk_iloadn (nx := 20) X 0 d_Line_timeOf_19 rfl rfl ?_
    refine mk_aloadn (nx := 21) X 1 d_Line_timeOf_20 rfl rfl ?_
    refine mk_get (nx := 24) (v := .int (zi (I (12 + 6 * v) 7))) X (12 + 6 * v) (by omega) (sh_Line cs ad (show v < 4 by omega) _) rfl in_Line 7 (by decide) wd_142 rfl rfl d_Line_timeOf_21 rfl ?_
    rw [show I (12 + 6 * v) 7 = c 0 6 from hF.2.2.1]
    refine mk_callTi (nx := 27) (n := 2) (As := [.int (zi ((c (3 + v) 1) + (cbg c v p))), .int (zi (c 0 6))]) (rest := []) X (c_Math_floorMod l D cs ad zt hi I ((c (3 + v) 1) + (cbg c v p)) (c 0 6) (by omega) (by omega) (by omega)) (g_Math_floorMod wd_425) rfl ⟨rfl, rfl⟩ (by decide +kernel) ⟨by decide, by decide⟩ rfl (Nat.le_of_ble_eq_true rfl) rfl d_Line_timeOf_24 rfl ?_
    intro r24 J1 hJ1
    obtain ⟨rfl, rfl⟩ := hJ1
    refine mk_goto (tgt := 31) X d_Line_timeOf_27 (by decide) ?_
    exact hret _ _ _ _ d_Line_timeOf_31 (by first | exact ⟨rfl, by rw [ctm, if_pos (by omega)]⟩ | exact ⟨rfl, by rw [ctm, if_neg (by omega)]⟩)
end
section
/-- C, the first sounding NOTE's pitch, -1 if there is none -/
def cz (c : Wo) : Int := if fso (c 1) (cn c) < cn c then c 1 (fso (c 1) (cn c)) else -1
theorem fsr_cases (c : Wo) : (fsr c = -1 ∧ cz c = -1) ∨ (0 ≤ fsr c ∧ fsr c < cn c ∧ cz c = c 1 (fsr c).toNat) := by
  unfold fsr cz
  by_cases h : fso (c 1) (cn c) < cn c
  · rw [if_pos h, if_pos h]
    exact Or.inr ⟨by omega, by omega, rfl⟩
  · rw [if_neg h, if_neg h]
    exact Or.inl ⟨rfl, rfl⟩
theorem cz_of {c : Wo} {i : Nat} (hi : i < cn c) (h : ¬ c 1 i = -1) : cz c = c 1 (fso (c 1) (cn c)) := by
  obtain ⟨a, b, _⟩ := fso_spec (c 1) (cn c)
  unfold cz
  rw [if_pos]
  rcases Nat.lt_or_ge (fso (c 1) (cn c)) (cn c) with q | q
  · exact q
  · exact absurd (b i (by omega)) h
section CLP
variable {c : Wo} {v j : Nat}
theorem clp_r (h : c 1 (cnt c v j) = -1) : clp c v j = 1000 := by
  unfold clp lpi
  rw [if_pos h]
theorem clp_o (hj : j < cn c) (h : ¬ c 1 (cnt c v j) = -1) (h2 : c 1 (cnt c v j) = -2 ∨ (¬ ziand (c (3 + v) 3) 1 = 0 ∧ cz c = -2)) : clp c v j = 1001 := by
  have hz := cz_of (cnt_lt (v := v) hj) h
  unfold clp lpi
  rw [if_neg h]
  by_cases hm : ziand (c (3 + v) 3) 1 = 0
  · rw [if_pos hm, if_pos (h2.resolve_right (fun q => q.1 hm))]
  · rw [if_neg hm, if_pos]
    rcases h2 with h2 | h2
    · exact Or.inl h2
    · exact Or.inr (by rw [← hz]; exact h2.2)
theorem clp_n (h : ¬ c 1 (cnt c v j) = -1) (h2 : ¬ c 1 (cnt c v j) = -2) (hm : ziand (c (3 + v) 3) 1 = 0) : clp c v j = c 1 (cnt c v j) + c (3 + v) 2 := by
  unfold clp lpi
  rw [if_neg h, if_pos hm, if_neg h2]
theorem clp_i (hj : j < cn c) (h : ¬ c 1 (cnt c v j) = -1) (h2 : ¬ c 1 (cnt c v j) = -2) (hm : ¬ ziand (c (3 + v) 3) 1 = 0) (h3 : ¬ cz c = -2) : clp c v j = 2 * cz c - c 1 (cnt c v j) + c (3 + v) 2 := by
  have hz := cz_of (cnt_lt (v := v) hj) h
  unfold clp lpi
  rw [if_neg h, if_neg hm, if_neg, hz]
  rw [← hz]
  rintro (q | q)
  · exact h2 q
  · exact h3 q
end CLP
/-- neighbours in a LINE -/
def nxp (n p : Nat) : Nat := if p + 1 < n then p + 1 else 0
def pvp (n q : Nat) : Nat := if q = 0 then n - 1 else q - 1
def jnd (c : Wo) (v p : Nat) : Bool := decide ((p + 1 < cn c ∨ cbg c v (cn c) = c 0 6) ∧ ¬ c 1 (cnt c v p) = -1 ∧ ¬ c 1 (cnt c v (nxp (cn c) p)) = -1)
def cbeh (c : Wo) (v p : Nat) : Int := if jnd c v p = true then (nxp (cn c) p : Int) else -1
def cbef (c : Wo) (v q : Nat) : Int := if jnd c v (pvp (cn c) q) = true then (pvp (cn c) q : Int) else -1
def LnN (c J : Wo) (v : Nat) : Prop := ∀ p, p < cn c → J (16 + 6 * v) p = cbef c v p ∧ J (17 + 6 * v) p = cbeh c v p
theorem pv_nx {n p : Nat} (h : p < n) : pvp n (nxp n p) = p := by
  unfold pvp nxp
  by_cases e : p + 1 < n
  · rw [if_pos e, if_neg (by omega)]; omega
  · rw [if_neg e, if_pos rfl]; omega
theorem pv_lt {n q : Nat} (h : q < n) : pvp n q < n := by
  unfold pvp
  split <;> omega
theorem nx_lt {n p : Nat} (h : p < n) : nxp n p < n := by
  unfold nxp
  split <;> omega
theorem nx_pv {n q : Nat} (h : q < n) : nxp n (pvp n q) = q := by
  unfold pvp nxp
  by_cases e : q = 0
  · rw [if_pos e, if_neg (by omega)]; omega
  · rw [if_neg e, if_pos (by omega)]; omega

-- CanonMaker$Line.tune(LCanonMaker$Subject;)V
theorem d_Line_tune_0 : decode prog_4_method_4_code 0 = .ok (.aload_n 1, 1) := by decide +kernel
theorem d_Line_tune_1 : decode prog_4_method_4_code 1 = .ok (.invokevirtual 78, 3) := by decide +kernel
theorem d_Line_tune_4 : decode prog_4_method_4_code 4 = .ok (.istore_n 2, 1) := by decide +kernel
theorem d_Line_tune_5 : decode prog_4_method_4_code 5 = .ok (.iload_n 2, 1) := by decide +kernel
theorem d_Line_tune_6 : decode prog_4_method_4_code 6 = .ok (.iconst (-1), 1) := by decide +kernel
theorem d_Line_tune_7 : decode prog_4_method_4_code 7 = .ok (.if_icmp .ne 7, 3) := by decide +kernel
theorem d_Line_tune_10 : decode prog_4_method_4_code 10 = .ok (.iconst (-1), 1) := by decide +kernel
theorem d_Line_tune_11 : decode prog_4_method_4_code 11 = .ok (.goto 9, 3) := by decide +kernel
theorem d_Line_tune_14 : decode prog_4_method_4_code 14 = .ok (.aload_n 1, 1) := by decide +kernel
theorem d_Line_tune_15 : decode prog_4_method_4_code 15 = .ok (.getfield 77, 3) := by decide +kernel
theorem d_Line_tune_18 : decode prog_4_method_4_code 18 = .ok (.iload_n 2, 1) := by decide +kernel
theorem d_Line_tune_19 : decode prog_4_method_4_code 19 = .ok (.iaload, 1) := by decide +kernel
theorem d_Line_tune_20 : decode prog_4_method_4_code 20 = .ok (.istore_n 3, 1) := by decide +kernel
theorem d_Line_tune_21 : decode prog_4_method_4_code 21 = .ok (.iconst 0, 1) := by decide +kernel
theorem d_Line_tune_22 : decode prog_4_method_4_code 22 = .ok (.istore 4, 2) := by decide +kernel
theorem d_Line_tune_24 : decode prog_4_method_4_code 24 = .ok (.iload 4, 2) := by decide +kernel
theorem d_Line_tune_26 : decode prog_4_method_4_code 26 = .ok (.aload_n 0, 1) := by decide +kernel
theorem d_Line_tune_27 : decode prog_4_method_4_code 27 = .ok (.getfield 57, 3) := by decide +kernel
theorem d_Line_tune_30 : decode prog_4_method_4_code 30 = .ok (.if_icmp .ge 105, 3) := by decide +kernel
theorem d_Line_tune_33 : decode prog_4_method_4_code 33 = .ok (.aload_n 1, 1) := by decide +kernel
theorem d_Line_tune_34 : decode prog_4_method_4_code 34 = .ok (.getfield 77, 3) := by decide +kernel
theorem d_Line_tune_37 : decode prog_4_method_4_code 37 = .ok (.aload_n 0, 1) := by decide +kernel
theorem d_Line_tune_38 : decode prog_4_method_4_code 38 = .ok (.getfield 9, 3) := by decide +kernel
theorem d_Line_tune_41 : decode prog_4_method_4_code 41 = .ok (.iload 4, 2) := by decide +kernel
theorem d_Line_tune_43 : decode prog_4_method_4_code 43 = .ok (.iaload, 1) := by decide +kernel
theorem d_Line_tune_44 : decode prog_4_method_4_code 44 = .ok (.iaload, 1) := by decide +kernel
theorem d_Line_tune_45 : decode prog_4_method_4_code 45 = .ok (.istore 5, 2) := by decide +kernel
theorem d_Line_tune_47 : decode prog_4_method_4_code 47 = .ok (.iload 5, 2) := by decide +kernel
theorem d_Line_tune_49 : decode prog_4_method_4_code 49 = .ok (.iconst (-1), 1) := by decide +kernel
theorem d_Line_tune_50 : decode prog_4_method_4_code 50 = .ok (.if_icmp .ne 16, 3) := by decide +kernel
theorem d_Line_tune_53 : decode prog_4_method_4_code 53 = .ok (.aload_n 0, 1) := by decide +kernel
theorem d_Line_tune_54 : decode prog_4_method_4_code 54 = .ok (.getfield 18, 3) := by decide +kernel
theorem d_Line_tune_57 : decode prog_4_method_4_code 57 = .ok (.iload 4, 2) := by decide +kernel
theorem d_Line_tune_59 : decode prog_4_method_4_code 59 = .ok (.sipush 1000, 3) := by decide +kernel
theorem d_Line_tune_62 : decode prog_4_method_4_code 62 = .ok (.iastore, 1) := by decide +kernel
theorem d_Line_tune_63 : decode prog_4_method_4_code 63 = .ok (.goto 66, 3) := by decide +kernel
theorem d_Line_tune_66 : decode prog_4_method_4_code 66 = .ok (.iload 5, 2) := by decide +kernel
theorem d_Line_tune_68 : decode prog_4_method_4_code 68 = .ok (.bipush (-2), 2) := by decide +kernel
theorem d_Line_tune_70 : decode prog_4_method_4_code 70 = .ok (.if_icmp .eq 16, 3) := by decide +kernel
theorem d_Line_tune_73 : decode prog_4_method_4_code 73 = .ok (.aload_n 0, 1) := by decide +kernel
theorem d_Line_tune_74 : decode prog_4_method_4_code 74 = .ok (.getfield 38, 3) := by decide +kernel
theorem d_Line_tune_77 : decode prog_4_method_4_code 77 = .ok (.ifCond .eq 22, 3) := by decide +kernel
theorem d_Line_tune_80 : decode prog_4_method_4_code 80 = .ok (.iload_n 3, 1) := by decide +kernel
theorem d_Line_tune_81 : decode prog_4_method_4_code 81 = .ok (.bipush (-2), 2) := by decide +kernel
theorem d_Line_tune_83 : decode prog_4_method_4_code 83 = .ok (.if_icmp .ne 16, 3) := by decide +kernel
theorem d_Line_tune_86 : decode prog_4_method_4_code 86 = .ok (.aload_n 0, 1) := by decide +kernel
theorem d_Line_tune_87 : decode prog_4_method_4_code 87 = .ok (.getfield 18, 3) := by decide +kernel
theorem d_Line_tune_90 : decode prog_4_method_4_code 90 = .ok (.iload 4, 2) := by decide +kernel
theorem d_Line_tune_92 : decode prog_4_method_4_code 92 = .ok (.sipush 1001, 3) := by decide +kernel
theorem d_Line_tune_95 : decode prog_4_method_4_code 95 = .ok (.iastore, 1) := by decide +kernel
theorem d_Line_tune_96 : decode prog_4_method_4_code 96 = .ok (.goto 33, 3) := by decide +kernel
theorem d_Line_tune_99 : decode prog_4_method_4_code 99 = .ok (.aload_n 0, 1) := by decide +kernel
theorem d_Line_tune_100 : decode prog_4_method_4_code 100 = .ok (.getfield 18, 3) := by decide +kernel
theorem d_Line_tune_103 : decode prog_4_method_4_code 103 = .ok (.iload 4, 2) := by decide +kernel
theorem d_Line_tune_105 : decode prog_4_method_4_code 105 = .ok (.aload_n 0, 1) := by decide +kernel
theorem d_Line_tune_106 : decode prog_4_method_4_code 106 = .ok (.getfield 38, 3) := by decide +kernel
theorem d_Line_tune_109 : decode prog_4_method_4_code 109 = .ok (.ifCond .eq 12, 3) := by decide +kernel
theorem d_Line_tune_112 : decode prog_4_method_4_code 112 = .ok (.iconst 2, 1) := by decide +kernel
theorem d_Line_tune_113 : decode prog_4_method_4_code 113 = .ok (.iload_n 3, 1) := by decide +kernel
theorem d_Line_tune_114 : decode prog_4_method_4_code 114 = .ok (.imul, 1) := by decide +kernel
theorem d_Line_tune_115 : decode prog_4_method_4_code 115 = .ok (.iload 5, 2) := by decide +kernel
theorem d_Line_tune_117 : decode prog_4_method_4_code 117 = .ok (.isub, 1) := by decide +kernel
theorem d_Line_tune_118 : decode prog_4_method_4_code 118 = .ok (.goto 5, 3) := by decide +kernel
theorem d_Line_tune_121 : decode prog_4_method_4_code 121 = .ok (.iload 5, 2) := by decide +kernel
theorem d_Line_tune_123 : decode prog_4_method_4_code 123 = .ok (.aload_n 0, 1) := by decide +kernel
theorem d_Line_tune_124 : decode prog_4_method_4_code 124 = .ok (.getfield 48, 3) := by decide +kernel
theorem d_Line_tune_127 : decode prog_4_method_4_code 127 = .ok (.iadd, 1) := by decide +kernel
theorem d_Line_tune_128 : decode prog_4_method_4_code 128 = .ok (.iastore, 1) := by decide +kernel
theorem d_Line_tune_129 : decode prog_4_method_4_code 129 = .ok (.iinc 4 1, 3) := by decide +kernel
theorem d_Line_tune_132 : decode prog_4_method_4_code 132 = .ok (.goto (-108), 3) := by decide +kernel
theorem d_Line_tune_135 : decode prog_4_method_4_code 135 = .ok (.return_, 1) := by decide +kernel
abbrev rm_Line_tune : Room := { frames := 1, cells := 0, slots := 0, locals := 21 }
set_option maxHeartbeats 4000000 in
set_option maxRecDepth 100000 in
theorem c_Line_tune (l : Launch) (D : va_G) (cs : Nat → ClassId) (ad : Nat → Nat) (zt : Nat) (hi : cm_inj ad) (c I : Wo) (hw : wfN c) (hS : wfS c) (hV : wfV c) (hm : cmN c I) (v : Nat) (hv : v < 4) (hF : LnF c I v) (hB : LnB c I v) : cm_C l D cs ad zt y_Line_tune ws_Line_tune rm_Line_tune [.ref (ad (12 + 6 * v)), .ref (ad 1)] I (mk_pv (fun J => LnT c J v ∧ ∀ a b, ¬ a = 15 + 6 * v → J a b = I a b)) := by
  refine mk_metv (own := "CanonMaker$Line") (Ts := wA) hi (Nat.le_refl _) (by decide) rfl (fun w h => List.mem_cons_of_mem _ h) rfl (Nat.le_of_ble_eq_true rfl) [(0, .ref (ad (12 + 6 * v))), (1, .ref (ad 1))] rfl ?_
  intro p_ e_ s_ m_ as_ bl_ me_ co_ Q_ X hret
  have hn := cn_e hw
  have hv5 := hV.1 v hv
  obtain ⟨hlo, hsc, hbt, hru, hrd, hst⟩ := id hS
  obtain ⟨iv1, hiv1, hiv2⟩ : ∃ x : Int, x = (if ziand (c (3 + v) 3) 1 = 0 then 0 else 1) ∧ ((x = 0 ∧ ziand (c (3 + v) 3) 1 = 0) ∨ (x = 1 ∧ ¬ ziand (c (3 + v) 3) 1 = 0)) := by
    by_cases hz : ziand (c (3 + v) 3) 1 = 0
    · exact ⟨0, by rw [if_pos hz], Or.inl ⟨rfl, hz⟩⟩
    · exact ⟨1, by rw [if_neg hz], Or.inr ⟨rfl, hz⟩⟩
  have hfs := fsr_cases c
  have L24 : ∀ nf : Nat, ∀ (p : Nat) (z : Int) (J : Wo), (p ≤ cn c) → (z = cz c) → (∀ a b, ¬ a = 15 + 6 * v → J a b = I a b) → (∀ q, q < p → J (15 + 6 * v) q = clp c v q) → 24 - p < nf → mk_A p_ l e_ rm_Line_tune s_ m_ as_ bl_ me_ co_ Q_ 6 D cmcl (cm_sh cs ad) 48 48 ad J [(0, .ref (ad (12 + 6 * v))), (1, .ref (ad 1)), (2, .int (zi (fsr c))), (3, .int (zi z)), (4, .int (zi (p : Int)))] 24 [] := by
    intro nf
    induction nf with
    | zero => intro p z J hp hz hO hT hn; exact absurd hn (Nat.not_lt_zero _)
    | succ nf ih24 =>
      intro p z J hp hz hO hT hn24
      refine mk_iload (nx := 26) X 4 d_Line_tune_24 rfl rfl ?_
      refine mk_aloadn (nx := 27) X 0 d_Line_tune_26 rfl rfl ?_
      refine mk_get (nx := 30) (v := .int (zi (J (12 + 6 * v) 5))) X (12 + 6 * v) (by omega) (sh_Line cs ad (show v < 4 by omega) _) rfl in_Line 5 (by decide) wd_139 rfl rfl d_Line_tune_27 rfl ?_
      rw [show J (12 + 6 * v) 5 = c 0 0 from ((hO (12 + 6 * v) 5 (by omega)).trans (hF.1))]
      refine mk_icmp_ge (tgt := 135) (nx := 33) X d_Line_tune_30 (by omega) (by omega) (by decide) rfl (fun c30 => ?_) (fun c30 => ?_)
      · skip
        exact hret _ _ _ d_Line_tune_135 (by exact ⟨fun q hq => hT q (by omega), hO⟩)
      · skip
        have hcl := cnt_lt (c := c) (v := v) (show p < cn c by omega)
        have hp0 := (hw.2 (cnt c v p) (by omega)).1
        have hzr : -2 ≤ cz c ∧ cz c ≤ 127 := by
          rcases fsr_cases c with q | q
          · omega
          · have := (hw.2 (fsr c).toNat (by omega)).1; omega
        refine mk_aloadn (nx := 34) X 1 d_Line_tune_33 rfl rfl ?_
        refine mk_get (nx := 37) (v := .ref (ad 2)) X 1 (by decide) (sh_Subject cs ad _) rfl in_Subject 0 (by decide) wd_66 rfl rfl d_Line_tune_34 rfl ?_
        refine mk_aloadn (nx := 38) X 0 d_Line_tune_37 rfl rfl ?_
        refine mk_get (nx := 41) (v := .ref (ad (13 + 6 * v))) X (12 + 6 * v) (by omega) (sh_Line cs ad (show v < 4 by omega) _) rfl in_Line 0 (by decide) wd_126 rfl rfl d_Line_tune_38 rfl ?_
        refine mk_iload (nx := 43) X 4 d_Line_tune_41 rfl rfl ?_
        refine mk_iald (nx := 44) (j := p) X (13 + 6 * v) 0 (by omega) (sh_Lnotes cs ad (show v < 4 by omega) _) rfl (by omega) (by omega) (by decide) rfl d_Line_tune_43 rfl ?_
        rw [show J (13 + 6 * v) p = (cnt c v p : Int) from ((hO (13 + 6 * v) p (by omega)).trans ((hB p (by omega)).1))]
        refine mk_iald (nx := 45) (j := (cnt c v p)) X 2 0 (by decide) (sh_Spit cs ad _) rfl (by omega) (by omega) (by decide) rfl d_Line_tune_44 rfl ?_
        rw [show J 2 (cnt c v p) = c 1 (cnt c v p) from ((hO (2) (cnt c v p) (by omega)).trans ((hm.2 (cnt c v p) (by omega)).1))]
        refine mk_istore (nx := 47) X [(5, .int (zi (c 1 (cnt c v p)))), (0, .ref (ad (12 + 6 * v))), (1, .ref (ad 1)), (2, .int (zi (fsr c))), (3, .int (zi z)), (4, .int (zi (p : Int)))] d_Line_tune_45 (by decide) rfl rfl ?_
        refine mk_iload (nx := 49) X 0 d_Line_tune_47 rfl rfl ?_
        refine mk_iconst (nx := 50) X d_Line_tune_49 rfl ?_
        refine mk_icmp_ne (tgt := 66) (nx := 53) X d_Line_tune_50 (by omega) (by omega) (by decide) rfl (fun c50 => ?_) (fun c50 => ?_)
        · skip
          refine mk_iload (nx := 68) X 0 d_Line_tune_66 rfl rfl ?_
          refine mk_bipush (nx := 70) X d_Line_tune_68 (by decide) rfl ?_
          refine mk_icmp_eq (tgt := 86) (nx := 73) X d_Line_tune_70 (by omega) (by omega) (by decide) rfl (fun c70 => ?_) (fun c70 => ?_)
          · skip
            refine mk_aloadn (nx := 87) X 1 d_Line_tune_86 rfl rfl ?_
            refine mk_get (nx := 90) (v := .ref (ad (15 + 6 * v))) X (12 + 6 * v) (by omega) (sh_Line cs ad (show v < 4 by omega) _) rfl in_Line 2 (by decide) wd_129 rfl rfl d_Line_tune_87 rfl ?_
            refine mk_iload (nx := 92) X 5 d_Line_tune_90 rfl rfl ?_
            refine mk_sipush (nx := 95) X d_Line_tune_92 (by decide) rfl ?_
            refine mk_iast (nx := 96) (j := p) X (15 + 6 * v) 0 (by omega) (sh_Lpit cs ad (show v < 4 by omega)) rfl (by omega) (by omega) (by decide) rfl d_Line_tune_95 rfl ?_
            obtain ⟨J1, hJ1⟩ : ∃ W_ : Wo, W_ = up2 J (15 + 6 * v) p 1001 := ⟨_, rfl⟩
            refine mk_same hJ1.symm ?_
            have hJ1s : J1 (15 + 6 * v) p = 1001 := hJ1 ▸ up2_ss J (15 + 6 * v) p 1001
            have hJ1o : ∀ a b, (a ≠ (15 + 6 * v) ∨ b ≠ p) → J1 a b = J a b := hJ1 ▸ up2_o J (15 + 6 * v) p 1001
            refine mk_goto (tgt := 129) X d_Line_tune_96 (by decide) ?_
            refine mk_iinc (nx := 132) X 5 [(4, .int (zi ((p : Int) + 1))), (5, .int (zi (c 1 (cnt c v p)))), (0, .ref (ad (12 + 6 * v))), (1, .ref (ad 1)), (2, .int (zi (fsr c))), (3, .int (zi z))] d_Line_tune_129 rfl (by decide) rfl rfl ?_
            refine mk_goto (tgt := 24) X d_Line_tune_132 (by decide) ?_
            refine mk_lv [2, 3, 4, 5, 0] rfl ?_
            exact ih24 (p + 1) z J1 (by omega) (by first | omega) (by first | exact fun a b _ => rfl | exact fun a b h => (hJ1o a b (Or.inl h)).trans (hO a b h)) (by first | exact lt_0 | exact lt_s (fun q hq => (hJ1o _ q (Or.inr (by omega))).trans (hT q hq)) (hJ1s.trans (by first | (exfalso; omega) | rw [clp_r (by omega)] | rw [clp_o (by omega) (by omega) (by omega)] | rw [clp_n (by omega) (by omega) (by omega)] | (rw [clp_i (by omega) (by omega) (by omega) (by omega) (by omega)]; omega)))) (by omega)
          · skip
            refine mk_aloadn (nx := 74) X 1 d_Line_tune_73 rfl rfl ?_
            refine mk_get (nx := 77) (v := .int (zi (J (12 + 6 * v) 11))) X (12 + 6 * v) (by omega) (sh_Line cs ad (show v < 4 by omega) _) rfl in_Line 11 (by decide) wd_150 rfl rfl d_Line_tune_74 rfl ?_
            rw [show J (12 + 6 * v) 11 = iv1 from ((hO (12 + 6 * v) 11 (by omega)).trans ((hF.2.2.2.2.2.2.trans hiv1.symm)))]
            refine mk_if_eq (tgt := 99) (nx := 80) X d_Line_tune_77 (by omega) (by decide) rfl (fun c77 => ?_) (fun c77 => ?_)
            · skip
              refine mk_aloadn (nx := 100) X 1 d_Line_tune_99 rfl rfl ?_
              refine mk_get (nx := 103) (v := .ref (ad (15 + 6 * v))) X (12 + 6 * v) (by omega) (sh_Line cs ad (show v < 4 by omega) _) rfl in_Line 2 (by decide) wd_129 rfl rfl d_Line_tune_100 rfl ?_
              refine mk_iload (nx := 105) X 5 d_Line_tune_103 rfl rfl ?_
              refine mk_aloadn (nx := 106) X 1 d_Line_tune_105 rfl rfl ?_
              refine mk_get (nx := 109) (v := .int (zi (J (12 + 6 * v) 11))) X (12 + 6 * v) (by omega) (sh_Line cs ad (show v < 4 by omega) _) rfl in_Line 11 (by decide) wd_150 rfl rfl d_Line_tune_106 rfl ?_
              rw [show J (12 + 6 * v) 11 = iv1 from ((hO (12 + 6 * v) 11 (by omega)).trans ((hF.2.2.2.2.2.2.trans hiv1.symm)))]
              refine mk_if_eq (tgt := 121) (nx := 112) X d_Line_tune_109 (by omega) (by decide) rfl (fun c109 => ?_) (fun c109 => ?_)
              · skip
                refine mk_iload (nx := 123) X 0 d_Line_tune_121 rfl rfl ?_
                refine mk_aloadn (nx := 124) X 1 d_Line_tune_123 rfl rfl ?_
                refine mk_get (nx := 127) (v := .int (zi (J (12 + 6 * v) 9))) X (12 + 6 * v) (by omega) (sh_Line cs ad (show v < 4 by omega) _) rfl in_Line 9 (by decide) wd_145 rfl rfl d_Line_tune_124 rfl ?_
                rw [show J (12 + 6 * v) 9 = c (3 + v) 2 from ((hO (12 + 6 * v) 9 (by omega)).trans (hF.2.2.2.2.1))]
                refine mk_iadd (nx := 128) X d_Line_tune_127 rfl ?_
                refine mk_iast (nx := 129) (j := p) X (15 + 6 * v) 0 (by omega) (sh_Lpit cs ad (show v < 4 by omega)) rfl (by omega) (by omega) (by decide) rfl d_Line_tune_128 rfl ?_
                obtain ⟨J2, hJ2⟩ : ∃ W_ : Wo, W_ = up2 J (15 + 6 * v) p ((c 1 (cnt c v p)) + (c (3 + v) 2)) := ⟨_, rfl⟩
                refine mk_same hJ2.symm ?_
                have hJ2s : J2 (15 + 6 * v) p = (c 1 (cnt c v p)) + (c (3 + v) 2) := hJ2 ▸ up2_ss J (15 + 6 * v) p ((c 1 (cnt c v p)) + (c (3 + v) 2))
                have hJ2o : ∀ a b, (a ≠ (15 + 6 * v) ∨ b ≠ p) → J2 a b = J a b := hJ2 ▸ up2_o J (15 + 6 * v) p ((c 1 (cnt c v p)) + (c (3 + v) 2))
                refine mk_iinc (nx := 132) X 5 [(4, .int (zi ((p : Int) + 1))), (5, .int (zi (c 1 (cnt c v p)))), (0, .ref (ad (12 + 6 * v))), (1, .ref (ad 1)), (2, .int (zi (fsr c))), (3, .int (zi z))] d_Line_tune_129 rfl (by decide) rfl rfl ?_
                refine mk_goto (tgt := 24) X d_Line_tune_132 (by decide) ?_
                refine mk_lv [2, 3, 4, 5, 0] rfl ?_
                exact ih24 (p + 1) z J2 (by omega) (by first | omega) (by first | exact fun a b _ => rfl | exact fun a b h => (hJ2o a b (Or.inl h)).trans (hO a b h)) (by first | exact lt_0 | exact lt_s (fun q hq => (hJ2o _ q (Or.inr (by omega))).trans (hT q hq)) (hJ2s.trans (by first | (exfalso; omega) | rw [clp_r (by omega)] | rw [clp_o (by omega) (by omega) (by omega)] | rw [clp_n (by omega) (by omega) (by omega)] | (rw [clp_i (by omega) (by omega) (by omega) (by omega) (by omega)]; omega)))) (by omega)
              · skip
                refine mk_iconst (nx := 113) X d_Line_tune_112 rfl ?_
                refine mk_iloadn (nx := 114) X 4 d_Line_tune_113 rfl rfl ?_
                refine mk_imul (nx := 115) X d_Line_tune_114 rfl ?_
                refine mk_iload (nx := 117) X 0 d_Line_tune_115 rfl rfl ?_
                refine mk_isub (nx := 118) X d_Line_tune_117 rfl ?_
                refine mk_goto (tgt := 123) X d_Line_tune_118 (by decide) ?_
                refine mk_aloadn (nx := 124) X 1 d_Line_tune_123 rfl rfl ?_
                refine mk_get (nx := 127) (v := .int (zi (J (12 + 6 * v) 9))) X (12 + 6 * v) (by omega) (sh_Line cs ad (show v < 4 by omega) _) rfl in_Line 9 (by decide) wd_145 rfl rfl d_Line_tune_124 rfl ?_
                rw [show J (12 + 6 * v) 9 = c (3 + v) 2 from ((hO (12 + 6 * v) 9 (by omega)).trans (hF.2.2.2.2.1))]
                refine mk_iadd (nx := 128) X d_Line_tune_127 rfl ?_
                refine mk_iast (nx := 129) (j := p) X (15 + 6 * v) 0 (by omega) (sh_Lpit cs ad (show v < 4 by omega)) rfl (by omega) (by omega) (by decide) rfl d_Line_tune_128 rfl ?_
                obtain ⟨J3, hJ3⟩ : ∃ W_ : Wo, W_ = up2 J (15 + 6 * v) p (((2 * z) - (c 1 (cnt c v p))) + (c (3 + v) 2)) := ⟨_, rfl⟩
                refine mk_same hJ3.symm ?_
                have hJ3s : J3 (15 + 6 * v) p = ((2 * z) - (c 1 (cnt c v p))) + (c (3 + v) 2) := hJ3 ▸ up2_ss J (15 + 6 * v) p (((2 * z) - (c 1 (cnt c v p))) + (c (3 + v) 2))
                have hJ3o : ∀ a b, (a ≠ (15 + 6 * v) ∨ b ≠ p) → J3 a b = J a b := hJ3 ▸ up2_o J (15 + 6 * v) p (((2 * z) - (c 1 (cnt c v p))) + (c (3 + v) 2))
                refine mk_iinc (nx := 132) X 5 [(4, .int (zi ((p : Int) + 1))), (5, .int (zi (c 1 (cnt c v p)))), (0, .ref (ad (12 + 6 * v))), (1, .ref (ad 1)), (2, .int (zi (fsr c))), (3, .int (zi z))] d_Line_tune_129 rfl (by decide) rfl rfl ?_
                refine mk_goto (tgt := 24) X d_Line_tune_132 (by decide) ?_
                refine mk_lv [2, 3, 4, 5, 0] rfl ?_
                exact ih24 (p + 1) z J3 (by omega) (by first | omega) (by first | exact fun a b _ => rfl | exact fun a b h => (hJ3o a b (Or.inl h)).trans (hO a b h)) (by first | exact lt_0 | exact lt_s (fun q hq => (hJ3o _ q (Or.inr (by omega))).trans (hT q hq)) (hJ3s.trans (by first | (exfalso; omega) | rw [clp_r (by omega)] | rw [clp_o (by omega) (by omega) (by omega)] | rw [clp_n (by omega) (by omega) (by omega)] | (rw [clp_i (by omega) (by omega) (by omega) (by omega) (by omega)]; omega)))) (by omega)
            · skip
              refine mk_iloadn (nx := 81) X 4 d_Line_tune_80 rfl rfl ?_
              refine mk_bipush (nx := 83) X d_Line_tune_81 (by decide) rfl ?_
              refine mk_icmp_ne (tgt := 99) (nx := 86) X d_Line_tune_83 (by omega) (by omega) (by decide) rfl (fun c83 => ?_) (fun c83 => ?_)
              · skip
                refine mk_aloadn (nx := 100) X 1 d_Line_tune_99 rfl rfl ?_
                refine mk_get (nx := 103) (v := .ref (ad (15 + 6 * v))) X (12 + 6 * v) (by omega) (sh_Line cs ad (show v < 4 by omega) _) rfl in_Line 2 (by decide) wd_129 rfl rfl d_Line_tune_100 rfl ?_
                refine mk_iload (nx := 105) X 5 d_Line_tune_103 rfl rfl ?_
                refine mk_aloadn (nx := 106) X 1 d_Line_tune_105 rfl rfl ?_
                refine mk_get (nx := 109) (v := .int (zi (J (12 + 6 * v) 11))) X (12 + 6 * v) (by omega) (sh_Line cs ad (show v < 4 by omega) _) rfl in_Line 11 (by decide) wd_150 rfl rfl d_Line_tune_106 rfl ?_
                rw [show J (12 + 6 * v) 11 = iv1 from ((hO (12 + 6 * v) 11 (by omega)).trans ((hF.2.2.2.2.2.2.trans hiv1.symm)))]
                refine mk_if_eq (tgt := 121) (nx := 112) X d_Line_tune_109 (by omega) (by decide) rfl (fun c109 => ?_) (fun c109 => ?_)
                · skip
                  refine mk_iload (nx := 123) X 0 d_Line_tune_121 rfl rfl ?_
                  refine mk_aloadn (nx := 124) X 1 d_Line_tune_123 rfl rfl ?_
                  refine mk_get (nx := 127) (v := .int (zi (J (12 + 6 * v) 9))) X (12 + 6 * v) (by omega) (sh_Line cs ad (show v < 4 by omega) _) rfl in_Line 9 (by decide) wd_145 rfl rfl d_Line_tune_124 rfl ?_
                  rw [show J (12 + 6 * v) 9 = c (3 + v) 2 from ((hO (12 + 6 * v) 9 (by omega)).trans (hF.2.2.2.2.1))]
                  refine mk_iadd (nx := 128) X d_Line_tune_127 rfl ?_
                  refine mk_iast (nx := 129) (j := p) X (15 + 6 * v) 0 (by omega) (sh_Lpit cs ad (show v < 4 by omega)) rfl (by omega) (by omega) (by decide) rfl d_Line_tune_128 rfl ?_
                  obtain ⟨J4, hJ4⟩ : ∃ W_ : Wo, W_ = up2 J (15 + 6 * v) p ((c 1 (cnt c v p)) + (c (3 + v) 2)) := ⟨_, rfl⟩
                  refine mk_same hJ4.symm ?_
                  have hJ4s : J4 (15 + 6 * v) p = (c 1 (cnt c v p)) + (c (3 + v) 2) := hJ4 ▸ up2_ss J (15 + 6 * v) p ((c 1 (cnt c v p)) + (c (3 + v) 2))
                  have hJ4o : ∀ a b, (a ≠ (15 + 6 * v) ∨ b ≠ p) → J4 a b = J a b := hJ4 ▸ up2_o J (15 + 6 * v) p ((c 1 (cnt c v p)) + (c (3 + v) 2))
                  refine mk_iinc (nx := 132) X 5 [(4, .int (zi ((p : Int) + 1))), (5, .int (zi (c 1 (cnt c v p)))), (0, .ref (ad (12 + 6 * v))), (1, .ref (ad 1)), (2, .int (zi (fsr c))), (3, .int (zi z))] d_Line_tune_129 rfl (by decide) rfl rfl ?_
                  refine mk_goto (tgt := 24) X d_Line_tune_132 (by decide) ?_
                  refine mk_lv [2, 3, 4, 5, 0] rfl ?_
                  exact ih24 (p + 1) z J4 (by omega) (by first | omega) (by first | exact fun a b _ => rfl | exact fun a b h => (hJ4o a b (Or.inl h)).trans (hO a b h)) (by first | exact lt_0 | exact lt_s (fun q hq => (hJ4o _ q (Or.inr (by omega))).trans (hT q hq)) (hJ4s.trans (by first | (exfalso; omega) | rw [clp_r (by omega)] | rw [clp_o (by omega) (by omega) (by omega)] | rw [clp_n (by omega) (by omega) (by omega)] | (rw [clp_i (by omega) (by omega) (by omega) (by omega) (by omega)]; omega)))) (by omega)
                · skip
                  refine mk_iconst (nx := 113) X d_Line_tune_112 rfl ?_
                  refine mk_iloadn (nx := 114) X 4 d_Line_tune_113 rfl rfl ?_
                  refine mk_imul (nx := 115) X d_Line_tune_114 rfl ?_
                  refine mk_iload (nx := 117) X 0 d_Line_tune_115 rfl rfl ?_
                  refine mk_isub (nx := 118) X d_Line_tune_117 rfl ?_
                  refine mk_goto (tgt := 123) X d_Line_tune_118 (by decide) ?_
                  refine mk_aloadn (nx := 124) X 1 d_Line_tune_123 rfl rfl ?_
                  refine mk_get (nx := 127) (v := .int (zi (J (12 + 6 * v) 9))) X (12 + 6 * v) (by omega) (sh_Line cs ad (show v < 4 by omega) _) rfl in_Line 9 (by decide) wd_145 rfl rfl d_Line_tune_124 rfl ?_
                  rw [show J (12 + 6 * v) 9 = c (3 + v) 2 from ((hO (12 + 6 * v) 9 (by omega)).trans (hF.2.2.2.2.1))]
                  refine mk_iadd (nx := 128) X d_Line_tune_127 rfl ?_
                  refine mk_iast (nx := 129) (j := p) X (15 + 6 * v) 0 (by omega) (sh_Lpit cs ad (show v < 4 by omega)) rfl (by omega) (by omega) (by decide) rfl d_Line_tune_128 rfl ?_
                  obtain ⟨J5, hJ5⟩ : ∃ W_ : Wo, W_ = up2 J (15 + 6 * v) p (((2 * z) - (c 1 (cnt c v p))) + (c (3 + v) 2)) := ⟨_, rfl⟩
                  refine mk_same hJ5.symm ?_
                  have hJ5s : J5 (15 + 6 * v) p = ((2 * z) - (c 1 (cnt c v p))) + (c (3 + v) 2) := hJ5 ▸ up2_ss J (15 + 6 * v) p (((2 * z) - (c 1 (cnt c v p))) + (c (3 + v) 2))
                  have hJ5o : ∀ a b, (a ≠ (15 + 6 * v) ∨ b ≠ p) → J5 a b = J a b := hJ5 ▸ up2_o J (15 + 6 * v) p (((2 * z) - (c 1 (cnt c v p))) + (c (3 + v) 2))
                  refine mk_iinc (nx := 132) X 5 [(4, .int (zi ((p : Int) + 1))), (5, .int (zi (c 1 (cnt c v p)))), (0, .ref (ad (12 + 6 * v))), (1, .ref (ad 1)), (2, .int (zi (fsr c))), (3, .int (zi z))] d_Line_tune_129 rfl (by decide) rfl rfl ?_
                  refine mk_goto (tgt := 24) X d_Line_tune_132 (by decide) ?_
                  refine mk_lv [2, 3, 4, 5, 0] rfl ?_
                  exact ih24 (p + 1) z J5 (by omega) (by first | omega) (by first | exact fun a b _ => rfl | exact fun a b h => (hJ5o a b (Or.inl h)).trans (hO a b h)) (by first | exact lt_0 | exact lt_s (fun q hq => (hJ5o _ q (Or.inr (by omega))).trans (hT q hq)) (hJ5s.trans (by first | (exfalso; omega) | rw [clp_r (by omega)] | rw [clp_o (by omega) (by omega) (by omega)] | rw [clp_n (by omega) (by omega) (by omega)] | (rw [clp_i (by omega) (by omega) (by omega) (by omega) (by omega)]; omega)))) (by omega)
              · skip
                refine mk_aloadn (nx := 87) X 1 d_Line_tune_86 rfl rfl ?_
                refine mk_get (nx := 90) (v := .ref (ad (15 + 6 * v))) X (12 + 6 * v) (by omega) (sh_Line cs ad (show v < 4 by omega) _) rfl in_Line 2 (by decide) wd_129 rfl rfl d_Line_tune_87 rfl ?_
                refine mk_iload (nx := 92) X 5 d_Line_tune_90 rfl rfl ?_
                refine mk_sipush (nx := 95) X d_Line_tune_92 (by decide) rfl ?_
                refine mk_iast (nx := 96) (j := p) X (15 + 6 * v) 0 (by omega) (sh_Lpit cs ad (show v < 4 by omega)) rfl (by omega) (by omega) (by decide) rfl d_Line_tune_95 rfl ?_
                obtain ⟨J6, hJ6⟩ : ∃ W_ : Wo, W_ = up2 J (15 + 6 * v) p 1001 := ⟨_, rfl⟩
                refine mk_same hJ6.symm ?_
                have hJ6s : J6 (15 + 6 * v) p = 1001 := hJ6 ▸ up2_ss J (15 + 6 * v) p 1001
                have hJ6o : ∀ a b, (a ≠ (15 + 6 * v) ∨ b ≠ p) → J6 a b = J a b := hJ6 ▸ up2_o J (15 + 6 * v) p 1001
                refine mk_goto (tgt := 129) X d_Line_tune_96 (by decide) ?_
                refine mk_iinc (nx := 132) X 5 [(4, .int (zi ((p : Int) + 1))), (5, .int (zi (c 1 (cnt c v p)))), (0, .ref (ad (12 + 6 * v))), (1, .ref (ad 1)), (2, .int (zi (fsr c))), (3, .int (zi z))] d_Line_tune_129 rfl (by decide) rfl rfl ?_
                refine mk_goto (tgt := 24) X d_Line_tune_132 (by decide) ?_
                refine mk_lv [2, 3, 4, 5, 0] rfl ?_
                exact ih24 (p + 1) z J6 (by omega) (by first | omega) (by first | exact fun a b _ => rfl | exact fun a b h => (hJ6o a b (Or.inl h)).trans (hO a b h)) (by first | exact lt_0 | exact lt_s (fun q hq => (hJ6o _ q (Or.inr (by omega))).trans (hT q hq)) (hJ6s.trans (by first | (exfalso; omega) | rw [clp_r (by omega)] | rw [clp_o (by omega) (by omega) (by omega)] | rw [clp_n (by omega) (by omega) (by omega)] | (rw [clp_i (by omega) (by omega) (by omega) (by omega) (by omega)]; omega)))) (by omega)
        · skip
          refine mk_aloadn (nx := 54) X 1 d_Line_tune_53 rfl rfl ?_
          refine mk_get (nx := 57) (v := .ref (ad (15 + 6 * v))) X (12 + 6 * v) (by omega) (sh_Line cs ad (show v < 4 by omega) _) rfl in_Line 2 (by decide) wd_129 rfl rfl d_Line_tune_54 rfl ?_
          refine mk_iload (nx := 59) X 5 d_Line_tune_57 rfl rfl ?_
          refine mk_sipush (nx := 62) X d_Line_tune_59 (by decide) rfl ?_
          refine mk_iast (nx := 63) (j := p) X (15 + 6 * v) 0 (by omega) (sh_Lpit cs ad (show v < 4 by omega)) rfl (by omega) (by omega) (by decide) rfl d_Line_tune_62 rfl ?_
          obtain ⟨J7, hJ7⟩ : ∃ W_ : Wo, W_ = up2 J (15 + 6 * v) p 1000 := ⟨_, rfl⟩
          refine mk_same hJ7.symm ?_
          have hJ7s : J7 (15 + 6 * v) p = 1000 := hJ7 ▸ up2_ss J (15 + 6 * v) p 1000
          have hJ7o : ∀ a b, (a ≠ (15 + 6 * v) ∨ b ≠ p) → J7 a b = J a b := hJ7 ▸ up2_o J (15 + 6 * v) p 1000
          refine mk_goto (tgt := 129) X d_Line_tune_63 (by decide) ?_
          refine mk_iinc (nx := 132) X 5 [(4, .int (zi ((p : Int) + 1))), (5, .int (zi (c 1 (cnt c v p)))), (0, .ref (ad (12 + 6 * v))), (1, .ref (ad 1)), (2, .int (zi (fsr c))), (3, .int (zi z))] d_Line_tune_129 rfl (by decide) rfl rfl ?_
          refine mk_goto (tgt := 24) X d_Line_tune_132 (by decide) ?_
          refine mk_lv [2, 3, 4, 5, 0] rfl ?_
          exact ih24 (p + 1) z J7 (by omega) (by first | omega) (by first | exact fun a b _ => rfl | exact fun a b h => (hJ7o a b (Or.inl h)).trans (hO a b h)) (by first | exact lt_0 | exact lt_s (fun q hq => (hJ7o _ q (Or.inr (by omega))).trans (hT q hq)) (hJ7s.trans (by first | (exfalso; omega) | rw [clp_r (by omega)] | rw [clp_o (by omega) (by omega) (by omega)] | rw [clp_n (by omega) (by omega) (by omega)] | (rw [clp_i (by omega) (by omega) (by omega) (by omega) (by omega)]; omega)))) (by omega)
  refine mk_aloadn (nx := 1) X 1 d_Line_tune_0 rfl rfl ?_
  refine mk_callVi (nx := 4) (n := 0) (As := []) (rest := []) X 1 (by decide) (sh_Subject cs ad _) rfl (c_Subject_firstSounding l D cs ad zt hi c I hw hm) (g_Subject_firstSounding wd_413) rfl ⟨rfl, rfl⟩ (by decide +kernel) ⟨by decide, by decide⟩ rfl (Nat.le_of_ble_eq_true rfl) rfl d_Line_tune_1 rfl ?_
  intro r1 J8 hJ8
  obtain ⟨rfl, rfl⟩ := hJ8
  refine mk_istoren (nx := 5) X [(2, .int (zi (fsr c))), (0, .ref (ad (12 + 6 * v))), (1, .ref (ad 1))] d_Line_tune_4 (by decide) rfl rfl ?_
  refine mk_iloadn (nx := 6) X 0 d_Line_tune_5 rfl rfl ?_
  refine mk_iconst (nx := 7) X d_Line_tune_6 rfl ?_
  refine mk_icmp_ne (tgt := 14) (nx := 10) X d_Line_tune_7 (by omega) (by omega) (by decide) rfl (fun c7 => ?_) (fun c7 => ?_)
  · skip
    refine mk_aloadn (nx := 15) X 2 d_Line_tune_14 rfl rfl ?_
    refine mk_get (nx := 18) (v := .ref (ad 2)) X 1 (by decide) (sh_Subject cs ad _) rfl in_Subject 0 (by decide) wd_66 rfl rfl d_Line_tune_15 rfl ?_
    refine mk_iloadn (nx := 19) X 0 d_Line_tune_18 rfl rfl ?_
    refine mk_iald (nx := 20) (j := (fsr c).toNat) X 2 0 (by decide) (sh_Spit cs ad _) rfl (by omega) (by omega) (by decide) rfl d_Line_tune_19 rfl ?_
    rw [show I 2 ((fsr c).toNat) = c 1 ((fsr c).toNat) from (hm.2 ((fsr c).toNat) (by omega)).1]
    refine mk_istoren (nx := 21) X [(3, .int (zi (c 1 ((fsr c).toNat)))), (2, .int (zi (fsr c))), (0, .ref (ad (12 + 6 * v))), (1, .ref (ad 1))] d_Line_tune_20 (by decide) rfl rfl ?_
    refine mk_iconst (nx := 22) X d_Line_tune_21 rfl ?_
    refine mk_istore (nx := 24) X [(4, .int (zi 0)), (3, .int (zi (c 1 ((fsr c).toNat)))), (2, .int (zi (fsr c))), (0, .ref (ad (12 + 6 * v))), (1, .ref (ad 1))] d_Line_tune_22 (by decide) rfl rfl ?_
    refine mk_lv [3, 4, 2, 1, 0] rfl ?_
    exact L24 _ 0 (c 1 ((fsr c).toNat)) I (by omega) (by first | omega) (by first | exact fun a b _ => rfl | exact fun a b h => (hIo a b (Or.inl h)).trans (hO a b h)) (by first | exact lt_0 | exact lt_s (fun q hq => (hIo _ q (Or.inr (by omega))).trans (hT q hq)) (hIs.trans (by first | (exfalso; omega) | rw [clp_r (by omega)] | rw [clp_o (by omega) (by omega) (by omega)] | rw [clp_n (by omega) (by omega) (by omega)] | (rw [clp_i (by omega) (by omega) (by omega) (by omega) (by omega)]; omega)))) (Nat.lt_succ_self _)
  · skip
    refine mk_iconst (nx := 11) X d_Line_tune_10 rfl ?_
    refine mk_goto (tgt := 20) X d_Line_tune_11 (by decide) ?_
    refine mk_istoren (nx := 21) X [(3, .int (zi (-1))), (2, .int (zi (fsr c))), (0, .ref (ad (12 + 6 * v))), (1, .ref (ad 1))] d_Line_tune_20 (by decide) rfl rfl ?_
    refine mk_iconst (nx := 22) X d_Line_tune_21 rfl ?_
    refine mk_istore (nx := 24) X [(4, .int (zi 0)), (3, .int (zi (-1))), (2, .int (zi (fsr c))), (0, .ref (ad (12 + 6 * v))), (1, .ref (ad 1))] d_Line_tune_22 (by decide) rfl rfl ?_
    refine mk_lv [3, 4, 2, 1, 0] rfl ?_
    exact L24 _ 0 (-1) I (by omega) (by first | omega) (by first | exact fun a b _ => rfl | exact fun a b h => (hIo a b (Or.inl h)).trans (hO a b h)) (by first | exact lt_0 | exact lt_s (fun q hq => (hIo _ q (Or.inr (by omega))).trans (hT q hq)) (hIs.trans (by first | (exfalso; omega) | rw [clp_r (by omega)] | rw [clp_o (by omega) (by omega) (by omega)] | rw [clp_n (by omega) (by omega) (by omega)] | (rw [clp_i (by omega) (by omega) (by omega) (by omega) (by omega)]; omega)))) (Nat.lt_succ_self _)
end
section
/-- joinNeighbours' loop -/
def JnI (c I J : Wo) (v p : Nat) : Prop := (∀ a b, ¬ a = 16 + 6 * v → ¬ a = 17 + 6 * v → J a b = I a b) ∧ (∀ q, q < p → J (17 + 6 * v) q = cbeh c v q) ∧ (∀ q, p ≤ q → q < 24 → J (17 + 6 * v) q = -1) ∧ (∀ q, q < cn c → J (16 + 6 * v) q = if pvp (cn c) q < p then cbef c v q else -1)
section JN
variable {c I J J1 J2 : Wo} {v p : Nat}
theorem jnd_t (h1 : p + 1 < cn c ∨ cbg c v (cn c) = c 0 6) (h2 : ¬ c 1 (cnt c v p) = -1) (h3 : ¬ c 1 (cnt c v (nxp (cn c) p)) = -1) : jnd c v p = true := decide_eq_true ⟨h1, h2, h3⟩
theorem jnd_f (h : ¬ ((p + 1 < cn c ∨ cbg c v (cn c) = c 0 6) ∧ ¬ c 1 (cnt c v p) = -1 ∧ ¬ c 1 (cnt c v (nxp (cn c) p)) = -1)) : jnd c v p = false := decide_eq_false h
theorem jn_init (hn : cn c ≤ 24) (h1 : J1 = upr I (16 + 6 * v) (fun j => if j < 24 then -1 else I (16 + 6 * v) j)) (h2 : J2 = upr J1 (17 + 6 * v) (fun j => if j < 24 then -1 else J1 (17 + 6 * v) j)) : JnI c I J2 v 0 := by
  subst h2; subst h1
  refine ⟨fun a b x y => by rw [upr_n y, upr_n x], lt_0, fun q _ hq => by rw [upr_s, if_pos hq], fun q hq => ?_⟩
  rw [upr_n (by omega), upr_s, if_pos (by omega), if_neg (Nat.not_lt_zero _)]
theorem jn_no (hj : jnd c v p = false) (h : JnI c I J v p) (hp : p < cn c) (hn : cn c ≤ 24) : JnI c I J v (p + 1) := by
  obtain ⟨h1, h2, h3, h4⟩ := h
  refine ⟨h1, lt_s h2 ?_, fun q a b => h3 q (by omega) b, fun q hq => ?_⟩
  · rw [h3 p (Nat.le_refl _) (by omega), cbeh, hj]; rfl
  · rw [h4 q hq]
    by_cases e : pvp (cn c) q = p
    · rw [if_neg (by omega), if_pos (by omega), cbef, e, hj]; rfl
    · by_cases e2 : pvp (cn c) q < p
      · rw [if_pos e2, if_pos (by omega)]
      · rw [if_neg e2, if_neg (by omega)]
theorem jn_yes (hj : jnd c v p = true) (h : JnI c I J v p) (hp : p < cn c) (hn : cn c ≤ 24) (e1 : J1 = up2 J (17 + 6 * v) p (nxp (cn c) p : Int)) (e2 : J2 = up2 J1 (16 + 6 * v) (nxp (cn c) p) (p : Int)) : JnI c I J2 v (p + 1) := by
  obtain ⟨h1, h2, h3, h4⟩ := h
  subst e2; subst e1
  refine ⟨fun a b x y => by rw [up2_n x, up2_n y]; exact h1 a b x y, lt_s (fun q hq => ?_) ?_, fun q a b => ?_, fun q hq => ?_⟩
  · rw [up2_n (by omega), up2_s, up1_n (by omega)]; exact h2 q hq
  · rw [up2_n (by omega), up2_s, up1_s, cbeh, if_pos hj]
  · rw [up2_n (by omega), up2_s, up1_n (by omega)]; exact h3 q (by omega) b
  · by_cases e : q = nxp (cn c) p
    · subst e
      rw [up2_s, up1_s, pv_nx hp, if_pos (by omega), cbef, pv_nx hp, if_pos hj]
    · rw [up2_s, up1_n e, up2_n (by omega), h4 q hq]
      have ne : pvp (cn c) q ≠ p := fun z => e (by rw [← z, nx_pv hq])
      by_cases e3 : pvp (cn c) q < p
      · rw [if_pos e3, if_pos (by omega)]
      · rw [if_neg e3, if_neg (by omega)]
theorem jn_end (h : JnI c I J v (cn c)) : LnN c J v := fun q hq => ⟨by rw [h.2.2.2 q hq, if_pos (pv_lt hq)], h.2.1 q hq⟩
end JN
/-- lay's loop: what is written so far -/
def LyI (c I J : Wo) (v p : Nat) : Prop := (∀ a b, (a < 12 + 6 * v ∨ 14 + 6 * v < a) → J a b = I a b) ∧ (J (12 + 6 * v) 5 = c 0 0 ∧ J (12 + 6 * v) 7 = c 0 6 ∧ J (12 + 6 * v) 8 = c (3 + v) 1 ∧ J (12 + 6 * v) 9 = c (3 + v) 2 ∧ J (12 + 6 * v) 10 = c (3 + v) 0 ∧ J (12 + 6 * v) 11 = (if ziand (c (3 + v) 3) 1 = 0 then 0 else 1)) ∧ J (12 + 6 * v) 6 = cbg c v p ∧ ∀ q, q < p → J (13 + 6 * v) q = cnt c v q ∧ J (14 + 6 * v) q = cbg c v q
section LY
variable {c I J J1 J2 J3 : Wo} {v p : Nat}
theorem ly_step (h : LyI c I J v p) (e1 : J1 = up2 J (13 + 6 * v) p (cnt c v p : Int)) (e2 : J2 = up2 J1 (14 + 6 * v) p (cbg c v p)) (e3 : J3 = up2 J2 (12 + 6 * v) 6 (cbg c v (p + 1))) : LyI c I J3 v (p + 1) := by
  obtain ⟨h1, h2, h3, h4⟩ := h
  subst e3; subst e2; subst e1
  refine ⟨fun a b x => by rw [up2_n (by omega), up2_n (by omega), up2_n (by omega)]; exact h1 a b x, ?_, by rw [up2_s, up1_s], fun q hq => ?_⟩
  · simp only [up2_s, up2_n (show 12 + 6 * v ≠ 14 + 6 * v by omega), up2_n (show 12 + 6 * v ≠ 13 + 6 * v by omega)]
    simpa [up1] using h2
  · rw [up2_n (by omega), up2_n (by omega), up2_s, up2_n (by omega), up2_s, up2_n (by omega)]
    by_cases e : q = p
    · subst e; rw [up1_s, up1_s]; exact ⟨rfl, rfl⟩
    · rw [up1_n e, up1_n e]; exact h4 q (by omega)
end LY

-- CanonMaker$Line.joinNeighbours(LCanonMaker$Subject;)V
theorem d_Line_joinNeighbours_0 : decode prog_4_method_3_code 0 = .ok (.aload_n 0, 1) := by decide +kernel
theorem d_Line_joinNeighbours_1 : decode prog_4_method_3_code 1 = .ok (.getfield 21, 3) := by decide +kernel
theorem d_Line_joinNeighbours_4 : decode prog_4_method_3_code 4 = .ok (.iconst (-1), 1) := by decide +kernel
theorem d_Line_joinNeighbours_5 : decode prog_4_method_3_code 5 = .ok (.invokestatic 71, 3) := by decide +kernel
theorem d_Line_joinNeighbours_8 : decode prog_4_method_3_code 8 = .ok (.aload_n 0, 1) := by decide +kernel
theorem d_Line_joinNeighbours_9 : decode prog_4_method_3_code 9 = .ok (.getfield 24, 3) := by decide +kernel
theorem d_Line_joinNeighbours_12 : decode prog_4_method_3_code 12 = .ok (.iconst (-1), 1) := by decide +kernel
theorem d_Line_joinNeighbours_13 : decode prog_4_method_3_code 13 = .ok (.invokestatic 71, 3) := by decide +kernel
theorem d_Line_joinNeighbours_16 : decode prog_4_method_3_code 16 = .ok (.aload_n 0, 1) := by decide +kernel
theorem d_Line_joinNeighbours_17 : decode prog_4_method_3_code 17 = .ok (.getfield 58, 3) := by decide +kernel
theorem d_Line_joinNeighbours_20 : decode prog_4_method_3_code 20 = .ok (.aload_n 0, 1) := by decide +kernel
theorem d_Line_joinNeighbours_21 : decode prog_4_method_3_code 21 = .ok (.getfield 49, 3) := by decide +kernel
theorem d_Line_joinNeighbours_24 : decode prog_4_method_3_code 24 = .ok (.if_icmp .ne 7, 3) := by decide +kernel
theorem d_Line_joinNeighbours_27 : decode prog_4_method_3_code 27 = .ok (.iconst 1, 1) := by decide +kernel
theorem d_Line_joinNeighbours_28 : decode prog_4_method_3_code 28 = .ok (.goto 4, 3) := by decide +kernel
theorem d_Line_joinNeighbours_31 : decode prog_4_method_3_code 31 = .ok (.iconst 0, 1) := by decide +kernel
theorem d_Line_joinNeighbours_32 : decode prog_4_method_3_code 32 = .ok (.istore_n 2, 1) := by decide +kernel
theorem d_Line_joinNeighbours_33 : decode prog_4_method_3_code 33 = .ok (.iconst 0, 1) := by decide +kernel
theorem d_Line_joinNeighbours_34 : decode prog_4_method_3_code 34 = .ok (.istore_n 3, 1) := by decide +kernel
theorem d_Line_joinNeighbours_35 : decode prog_4_method_3_code 35 = .ok (.iload_n 3, 1) := by decide +kernel
theorem d_Line_joinNeighbours_36 : decode prog_4_method_3_code 36 = .ok (.aload_n 0, 1) := by decide +kernel
theorem d_Line_joinNeighbours_37 : decode prog_4_method_3_code 37 = .ok (.getfield 57, 3) := by decide +kernel
theorem d_Line_joinNeighbours_40 : decode prog_4_method_3_code 40 = .ok (.if_icmp .ge 96, 3) := by decide +kernel
theorem d_Line_joinNeighbours_43 : decode prog_4_method_3_code 43 = .ok (.iload_n 3, 1) := by decide +kernel
theorem d_Line_joinNeighbours_44 : decode prog_4_method_3_code 44 = .ok (.iconst 1, 1) := by decide +kernel
theorem d_Line_joinNeighbours_45 : decode prog_4_method_3_code 45 = .ok (.iadd, 1) := by decide +kernel
theorem d_Line_joinNeighbours_46 : decode prog_4_method_3_code 46 = .ok (.aload_n 0, 1) := by decide +kernel
theorem d_Line_joinNeighbours_47 : decode prog_4_method_3_code 47 = .ok (.getfield 57, 3) := by decide +kernel
theorem d_Line_joinNeighbours_50 : decode prog_4_method_3_code 50 = .ok (.if_icmp .ge 9, 3) := by decide +kernel
theorem d_Line_joinNeighbours_53 : decode prog_4_method_3_code 53 = .ok (.iload_n 3, 1) := by decide +kernel
theorem d_Line_joinNeighbours_54 : decode prog_4_method_3_code 54 = .ok (.iconst 1, 1) := by decide +kernel
theorem d_Line_joinNeighbours_55 : decode prog_4_method_3_code 55 = .ok (.iadd, 1) := by decide +kernel
theorem d_Line_joinNeighbours_56 : decode prog_4_method_3_code 56 = .ok (.goto 4, 3) := by decide +kernel
theorem d_Line_joinNeighbours_59 : decode prog_4_method_3_code 59 = .ok (.iconst 0, 1) := by decide +kernel
theorem d_Line_joinNeighbours_60 : decode prog_4_method_3_code 60 = .ok (.istore 4, 2) := by decide +kernel
theorem d_Line_joinNeighbours_62 : decode prog_4_method_3_code 62 = .ok (.iload 4, 2) := by decide +kernel
theorem d_Line_joinNeighbours_64 : decode prog_4_method_3_code 64 = .ok (.ifCond .gt 7, 3) := by decide +kernel
theorem d_Line_joinNeighbours_67 : decode prog_4_method_3_code 67 = .ok (.iload_n 2, 1) := by decide +kernel
theorem d_Line_joinNeighbours_68 : decode prog_4_method_3_code 68 = .ok (.ifCond .eq 7, 3) := by decide +kernel
theorem d_Line_joinNeighbours_71 : decode prog_4_method_3_code 71 = .ok (.iconst 1, 1) := by decide +kernel
theorem d_Line_joinNeighbours_72 : decode prog_4_method_3_code 72 = .ok (.goto 4, 3) := by decide +kernel
theorem d_Line_joinNeighbours_75 : decode prog_4_method_3_code 75 = .ok (.iconst 0, 1) := by decide +kernel
theorem d_Line_joinNeighbours_76 : decode prog_4_method_3_code 76 = .ok (.istore 5, 2) := by decide +kernel
theorem d_Line_joinNeighbours_78 : decode prog_4_method_3_code 78 = .ok (.iload 5, 2) := by decide +kernel
theorem d_Line_joinNeighbours_80 : decode prog_4_method_3_code 80 = .ok (.ifCond .eq 50, 3) := by decide +kernel
theorem d_Line_joinNeighbours_83 : decode prog_4_method_3_code 83 = .ok (.aload_n 1, 1) := by decide +kernel
theorem d_Line_joinNeighbours_84 : decode prog_4_method_3_code 84 = .ok (.getfield 77, 3) := by decide +kernel
theorem d_Line_joinNeighbours_87 : decode prog_4_method_3_code 87 = .ok (.aload_n 0, 1) := by decide +kernel
theorem d_Line_joinNeighbours_88 : decode prog_4_method_3_code 88 = .ok (.getfield 9, 3) := by decide +kernel
theorem d_Line_joinNeighbours_91 : decode prog_4_method_3_code 91 = .ok (.iload_n 3, 1) := by decide +kernel
theorem d_Line_joinNeighbours_92 : decode prog_4_method_3_code 92 = .ok (.iaload, 1) := by decide +kernel
theorem d_Line_joinNeighbours_93 : decode prog_4_method_3_code 93 = .ok (.iaload, 1) := by decide +kernel
theorem d_Line_joinNeighbours_94 : decode prog_4_method_3_code 94 = .ok (.iconst (-1), 1) := by decide +kernel
theorem d_Line_joinNeighbours_95 : decode prog_4_method_3_code 95 = .ok (.if_icmp .eq 35, 3) := by decide +kernel
theorem d_Line_joinNeighbours_98 : decode prog_4_method_3_code 98 = .ok (.aload_n 1, 1) := by decide +kernel
theorem d_Line_joinNeighbours_99 : decode prog_4_method_3_code 99 = .ok (.getfield 77, 3) := by decide +kernel
theorem d_Line_joinNeighbours_102 : decode prog_4_method_3_code 102 = .ok (.aload_n 0, 1) := by decide +kernel
theorem d_Line_joinNeighbours_103 : decode prog_4_method_3_code 103 = .ok (.getfield 9, 3) := by decide +kernel
theorem d_Line_joinNeighbours_106 : decode prog_4_method_3_code 106 = .ok (.iload 4, 2) := by decide +kernel
theorem d_Line_joinNeighbours_108 : decode prog_4_method_3_code 108 = .ok (.iaload, 1) := by decide +kernel
theorem d_Line_joinNeighbours_109 : decode prog_4_method_3_code 109 = .ok (.iaload, 1) := by decide +kernel
theorem d_Line_joinNeighbours_110 : decode prog_4_method_3_code 110 = .ok (.iconst (-1), 1) := by decide +kernel
theorem d_Line_joinNeighbours_111 : decode prog_4_method_3_code 111 = .ok (.if_icmp .eq 19, 3) := by decide +kernel
theorem d_Line_joinNeighbours_114 : decode prog_4_method_3_code 114 = .ok (.aload_n 0, 1) := by decide +kernel
theorem d_Line_joinNeighbours_115 : decode prog_4_method_3_code 115 = .ok (.getfield 24, 3) := by decide +kernel
theorem d_Line_joinNeighbours_118 : decode prog_4_method_3_code 118 = .ok (.iload_n 3, 1) := by decide +kernel
theorem d_Line_joinNeighbours_119 : decode prog_4_method_3_code 119 = .ok (.iload 4, 2) := by decide +kernel
theorem d_Line_joinNeighbours_121 : decode prog_4_method_3_code 121 = .ok (.iastore, 1) := by decide +kernel
theorem d_Line_joinNeighbours_122 : decode prog_4_method_3_code 122 = .ok (.aload_n 0, 1) := by decide +kernel
theorem d_Line_joinNeighbours_123 : decode prog_4_method_3_code 123 = .ok (.getfield 21, 3) := by decide +kernel
theorem d_Line_joinNeighbours_126 : decode prog_4_method_3_code 126 = .ok (.iload 4, 2) := by decide +kernel
theorem d_Line_joinNeighbours_128 : decode prog_4_method_3_code 128 = .ok (.iload_n 3, 1) := by decide +kernel
theorem d_Line_joinNeighbours_129 : decode prog_4_method_3_code 129 = .ok (.iastore, 1) := by decide +kernel
theorem d_Line_joinNeighbours_130 : decode prog_4_method_3_code 130 = .ok (.iinc 3 1, 3) := by decide +kernel
theorem d_Line_joinNeighbours_133 : decode prog_4_method_3_code 133 = .ok (.goto (-98), 3) := by decide +kernel
theorem d_Line_joinNeighbours_136 : decode prog_4_method_3_code 136 = .ok (.return_, 1) := by decide +kernel
abbrev rm_Line_joinNeighbours : Room := { frames := 1, cells := 0, slots := 0, locals := 23 }
set_option maxHeartbeats 4000000 in
set_option maxRecDepth 100000 in
theorem c_Line_joinNeighbours (l : Launch) (D : va_G) (cs : Nat → ClassId) (ad : Nat → Nat) (zt : Nat) (hi : cm_inj ad) (c I : Wo) (hw : wfN c) (hS : wfS c) (hV : wfV c) (hm : cmN c I) (v : Nat) (hv : v < 4) (hF : LnF c I v) (hB : LnB c I v) : cm_C l D cs ad zt y_Line_joinNeighbours ws_Line_joinNeighbours rm_Line_joinNeighbours [.ref (ad (12 + 6 * v)), .ref (ad 1)] I (mk_pv (fun J => LnN c J v ∧ ∀ a b, ¬ a = 16 + 6 * v → ¬ a = 17 + 6 * v → J a b = I a b)) := by
  refine mk_metv (own := "CanonMaker$Line") (Ts := wA) hi (Nat.le_refl _) (by decide) rfl (fun w h => List.mem_cons_of_mem _ h) rfl (Nat.le_of_ble_eq_true rfl) [(0, .ref (ad (12 + 6 * v))), (1, .ref (ad 1))] rfl ?_
  intro p_ e_ s_ m_ as_ bl_ me_ co_ Q_ X hret
  have hn := cn_e hw
  have hv5 := hV.1 v hv
  obtain ⟨hlo, hsc, hbt, hru, hrd, hst⟩ := id hS
  have hu := cbg_b hw hV hv (Nat.le_refl (cn c))
  have L35 : ∀ nf : Nat, ∀ (p : Nat) (cl : Int) (J : Wo), (p ≤ cn c) → ((cl = 1 ∧ cbg c v (cn c) = c 0 6) ∨ (cl = 0 ∧ ¬ cbg c v (cn c) = c 0 6)) → (JnI c I J v p) → 24 - p < nf → mk_A p_ l e_ rm_Line_joinNeighbours s_ m_ as_ bl_ me_ co_ Q_ 6 D cmcl (cm_sh cs ad) 48 48 ad J [(0, .ref (ad (12 + 6 * v))), (1, .ref (ad 1)), (2, .int (zi cl)), (3, .int (zi (p : Int)))] 35 [] := by
    intro nf
    induction nf with
    | zero => intro p cl J hp hcl hI hn; exact absurd hn (Nat.not_lt_zero _)
    | succ nf ih35 =>
      intro p cl J hp hcl hI hn35
      refine mk_iloadn (nx := 36) X 3 d_Line_joinNeighbours_35 rfl rfl ?_
      refine mk_aloadn (nx := 37) X 0 d_Line_joinNeighbours_36 rfl rfl ?_
      refine mk_get (nx := 40) (v := .int (zi (J (12 + 6 * v) 5))) X (12 + 6 * v) (by omega) (sh_Line cs ad (show v < 4 by omega) _) rfl in_Line 5 (by decide) wd_139 rfl rfl d_Line_joinNeighbours_37 rfl ?_
      rw [show J (12 + 6 * v) 5 = c 0 0 from ((hI.1 (12 + 6 * v) 5 (by omega) (by omega)).trans (hF.1))]
      refine mk_icmp_ge (tgt := 136) (nx := 43) X d_Line_joinNeighbours_40 (by omega) (by omega) (by decide) rfl (fun c40 => ?_) (fun c40 => ?_)
      · skip
        exact hret _ _ _ d_Line_joinNeighbours_136 (by exact ⟨jn_end (by rw [← show p = cn c by omega]; exact hI), hI.1⟩)
      · skip
        have hcl1 := cnt_lt (c := c) (v := v) (show p < cn c by omega)
        have hp0 := (hw.2 (cnt c v p) (by omega)).1
        refine mk_iloadn (nx := 44) X 3 d_Line_joinNeighbours_43 rfl rfl ?_
        refine mk_iconst (nx := 45) X d_Line_joinNeighbours_44 rfl ?_
        refine mk_iadd (nx := 46) X d_Line_joinNeighbours_45 rfl ?_
        refine mk_aloadn (nx := 47) X 0 d_Line_joinNeighbours_46 rfl rfl ?_
        refine mk_get (nx := 50) (v := .int (zi (J (12 + 6 * v) 5))) X (12 + 6 * v) (by omega) (sh_Line cs ad (show v < 4 by omega) _) rfl in_Line 5 (by decide) wd_139 rfl rfl d_Line_joinNeighbours_47 rfl ?_
        rw [show J (12 + 6 * v) 5 = c 0 0 from ((hI.1 (12 + 6 * v) 5 (by omega) (by omega)).trans (hF.1))]
        refine mk_icmp_ge (tgt := 59) (nx := 53) X d_Line_joinNeighbours_50 (by omega) (by omega) (by decide) rfl (fun c50 => ?_) (fun c50 => ?_)
        · skip
          refine mk_iconst (nx := 60) X d_Line_joinNeighbours_59 rfl ?_
          refine mk_istore (nx := 62) X [(4, .int (zi 0)), (0, .ref (ad (12 + 6 * v))), (1, .ref (ad 1)), (2, .int (zi cl)), (3, .int (zi (p : Int)))] d_Line_joinNeighbours_60 (by decide) rfl rfl ?_
          refine mk_iload (nx := 64) X 0 d_Line_joinNeighbours_62 rfl rfl ?_
          refine mk_if_gt (tgt := 71) (nx := 67) X d_Line_joinNeighbours_64 (by omega) (by decide) rfl (fun c64 => ?_) (fun c64 => ?_)
          · skip
            refine mk_iconst (nx := 72) X d_Line_joinNeighbours_71 rfl ?_
            refine mk_goto (tgt := 76) X d_Line_joinNeighbours_72 (by decide) ?_
            refine mk_istore (nx := 78) X [(5, .int (zi 1)), (4, .int (zi 0)), (0, .ref (ad (12 + 6 * v))), (1, .ref (ad 1)), (2, .int (zi cl)), (3, .int (zi (p : Int)))] d_Line_joinNeighbours_76 (by decide) rfl rfl ?_
            refine mk_iload (nx := 80) X 0 d_Line_joinNeighbours_78 rfl rfl ?_
            refine mk_if_eq (tgt := 130) (nx := 83) X d_Line_joinNeighbours_80 (by omega) (by decide) rfl (fun c80 => ?_) (fun c80 => ?_)
            · skip
              refine mk_iinc (nx := 133) X 5 [(3, .int (zi ((p : Int) + 1))), (5, .int (zi 1)), (4, .int (zi 0)), (0, .ref (ad (12 + 6 * v))), (1, .ref (ad 1)), (2, .int (zi cl))] d_Line_joinNeighbours_130 rfl (by decide) rfl rfl ?_
              refine mk_goto (tgt := 35) X d_Line_joinNeighbours_133 (by decide) ?_
              refine mk_lv [3, 4, 5, 0] rfl ?_
              exact ih35 (p + 1) cl J (by omega) (by omega) (by first | exact jn_init hn.2 hJA hJB | (exfalso; omega) | exact jn_no (jnd_f (by rw [nxp, if_pos (by omega)]; omega)) hI (by omega) (by omega) | exact jn_no (jnd_f (by rw [nxp, if_neg (by omega)]; omega)) hI (by omega) (by omega) | exact jn_yes (jnd_t (by omega) (by omega) (by rw [nxp, if_pos (by omega)]; omega)) hI (by omega) (by omega) (J1 := J) (by rw [nxp, if_pos (by omega)]; exact hJ) (by rw [nxp, if_pos (by omega)]; exact hJ) | exact jn_yes (jnd_t (by omega) (by omega) (by rw [nxp, if_neg (by omega)]; omega)) hI (by omega) (by omega) (J1 := J) (by rw [nxp, if_neg (by omega)]; exact hJ) (by rw [nxp, if_neg (by omega)]; exact hJ)) (by omega)
            · skip
              refine mk_aloadn (nx := 84) X 3 d_Line_joinNeighbours_83 rfl rfl ?_
              refine mk_get (nx := 87) (v := .ref (ad 2)) X 1 (by decide) (sh_Subject cs ad _) rfl in_Subject 0 (by decide) wd_66 rfl rfl d_Line_joinNeighbours_84 rfl ?_
              refine mk_aloadn (nx := 88) X 2 d_Line_joinNeighbours_87 rfl rfl ?_
              refine mk_get (nx := 91) (v := .ref (ad (13 + 6 * v))) X (12 + 6 * v) (by omega) (sh_Line cs ad (show v < 4 by omega) _) rfl in_Line 0 (by decide) wd_126 rfl rfl d_Line_joinNeighbours_88 rfl ?_
              refine mk_iloadn (nx := 92) X 5 d_Line_joinNeighbours_91 rfl rfl ?_
              refine mk_iald (nx := 93) (j := p) X (13 + 6 * v) 0 (by omega) (sh_Lnotes cs ad (show v < 4 by omega) _) rfl (by omega) (by omega) (by decide) rfl d_Line_joinNeighbours_92 rfl ?_
              rw [show J (13 + 6 * v) p = (cnt c v p : Int) from ((hI.1 (13 + 6 * v) p (by omega) (by omega)).trans ((hB p (by omega)).1))]
              refine mk_iald (nx := 94) (j := (cnt c v p)) X 2 0 (by decide) (sh_Spit cs ad _) rfl (by omega) (by omega) (by decide) rfl d_Line_joinNeighbours_93 rfl ?_
              rw [show J 2 (cnt c v p) = c 1 (cnt c v p) from ((hI.1 (2) (cnt c v p) (by omega) (by omega)).trans ((hm.2 (cnt c v p) (by omega)).1))]
              refine mk_iconst (nx := 95) X d_Line_joinNeighbours_94 rfl ?_
              refine mk_icmp_eq (tgt := 130) (nx := 98) X d_Line_joinNeighbours_95 (by omega) (by omega) (by decide) rfl (fun c95 => ?_) (fun c95 => ?_)
              · skip
                refine mk_iinc (nx := 133) X 5 [(3, .int (zi ((p : Int) + 1))), (5, .int (zi 1)), (4, .int (zi 0)), (0, .ref (ad (12 + 6 * v))), (1, .ref (ad 1)), (2, .int (zi cl))] d_Line_joinNeighbours_130 rfl (by decide) rfl rfl ?_
                refine mk_goto (tgt := 35) X d_Line_joinNeighbours_133 (by decide) ?_
                refine mk_lv [3, 4, 5, 0] rfl ?_
                exact ih35 (p + 1) cl J (by omega) (by omega) (by first | exact jn_init hn.2 hJA hJB | (exfalso; omega) | exact jn_no (jnd_f (by rw [nxp, if_pos (by omega)]; omega)) hI (by omega) (by omega) | exact jn_no (jnd_f (by rw [nxp, if_neg (by omega)]; omega)) hI (by omega) (by omega) | exact jn_yes (jnd_t (by omega) (by omega) (by rw [nxp, if_pos (by omega)]; omega)) hI (by omega) (by omega) (J1 := J) (by rw [nxp, if_pos (by omega)]; exact hJ) (by rw [nxp, if_pos (by omega)]; exact hJ) | exact jn_yes (jnd_t (by omega) (by omega) (by rw [nxp, if_neg (by omega)]; omega)) hI (by omega) (by omega) (J1 := J) (by rw [nxp, if_neg (by omega)]; exact hJ) (by rw [nxp, if_neg (by omega)]; exact hJ)) (by omega)
              · skip
                have hcl2 : ∀ q, q < cn c → cnt c v q < cn c ∧ -2 ≤ c 1 (cnt c v q) ∧ c 1 (cnt c v q) ≤ 127 := fun q hq => ⟨cnt_lt hq, (hw.2 (cnt c v q) (by have := cnt_lt (c := c) (v := v) hq; omega)).1⟩
                have hcl3 := hcl2 0 (by omega)
                have hcl4 : p + 1 < cn c → _ := fun h => hcl2 (p + 1) h
                refine mk_aloadn (nx := 99) X 3 d_Line_joinNeighbours_98 rfl rfl ?_
                refine mk_get (nx := 102) (v := .ref (ad 2)) X 1 (by decide) (sh_Subject cs ad _) rfl in_Subject 0 (by decide) wd_66 rfl rfl d_Line_joinNeighbours_99 rfl ?_
                refine mk_aloadn (nx := 103) X 2 d_Line_joinNeighbours_102 rfl rfl ?_
                refine mk_get (nx := 106) (v := .ref (ad (13 + 6 * v))) X (12 + 6 * v) (by omega) (sh_Line cs ad (show v < 4 by omega) _) rfl in_Line 0 (by decide) wd_126 rfl rfl d_Line_joinNeighbours_103 rfl ?_
                refine mk_iload (nx := 108) X 1 d_Line_joinNeighbours_106 rfl rfl ?_
                refine mk_iald (nx := 109) (j := 0) X (13 + 6 * v) 0 (by omega) (sh_Lnotes cs ad (show v < 4 by omega) _) rfl (by omega) (by omega) (by decide) rfl d_Line_joinNeighbours_108 rfl ?_
                rw [show J (13 + 6 * v) 0 = (cnt c v 0 : Int) from ((hI.1 (13 + 6 * v) 0 (by omega) (by omega)).trans ((hB 0 (by omega)).1))]
                refine mk_iald (nx := 110) (j := (cnt c v 0)) X 2 0 (by decide) (sh_Spit cs ad _) rfl (by omega) (by omega) (by decide) rfl d_Line_joinNeighbours_109 rfl ?_
                rw [show J 2 (cnt c v 0) = c 1 (cnt c v 0) from ((hI.1 (2) (cnt c v 0) (by omega) (by omega)).trans ((hm.2 (cnt c v 0) (by omega)).1))]
                refine mk_iconst (nx := 111) X d_Line_joinNeighbours_110 rfl ?_
                refine mk_icmp_eq (tgt := 130) (nx := 114) X d_Line_joinNeighbours_111 (by omega) (by omega) (by decide) rfl (fun c111 => ?_) (fun c111 => ?_)
                · skip
                  refine mk_iinc (nx := 133) X 5 [(3, .int (zi ((p : Int) + 1))), (5, .int (zi 1)), (4, .int (zi 0)), (0, .ref (ad (12 + 6 * v))), (1, .ref (ad 1)), (2, .int (zi cl))] d_Line_joinNeighbours_130 rfl (by decide) rfl rfl ?_
                  refine mk_goto (tgt := 35) X d_Line_joinNeighbours_133 (by decide) ?_
                  refine mk_lv [3, 4, 5, 0] rfl ?_
                  exact ih35 (p + 1) cl J (by omega) (by omega) (by first | exact jn_init hn.2 hJA hJB | (exfalso; omega) | exact jn_no (jnd_f (by rw [nxp, if_pos (by omega)]; omega)) hI (by omega) (by omega) | exact jn_no (jnd_f (by rw [nxp, if_neg (by omega)]; omega)) hI (by omega) (by omega) | exact jn_yes (jnd_t (by omega) (by omega) (by rw [nxp, if_pos (by omega)]; omega)) hI (by omega) (by omega) (J1 := J) (by rw [nxp, if_pos (by omega)]; exact hJ) (by rw [nxp, if_pos (by omega)]; exact hJ) | exact jn_yes (jnd_t (by omega) (by omega) (by rw [nxp, if_neg (by omega)]; omega)) hI (by omega) (by omega) (J1 := J) (by rw [nxp, if_neg (by omega)]; exact hJ) (by rw [nxp, if_neg (by omega)]; exact hJ)) (by omega)
                · skip
                  refine mk_aloadn (nx := 115) X 2 d_Line_joinNeighbours_114 rfl rfl ?_
                  refine mk_get (nx := 118) (v := .ref (ad (17 + 6 * v))) X (12 + 6 * v) (by omega) (sh_Line cs ad (show v < 4 by omega) _) rfl in_Line 4 (by decide) wd_136 rfl rfl d_Line_joinNeighbours_115 rfl ?_
                  refine mk_iloadn (nx := 119) X 5 d_Line_joinNeighbours_118 rfl rfl ?_
                  refine mk_iload (nx := 121) X 1 d_Line_joinNeighbours_119 rfl rfl ?_
                  refine mk_iast (nx := 122) (j := p) X (17 + 6 * v) 0 (by omega) (sh_Lbehind cs ad (show v < 4 by omega)) rfl (by omega) (by omega) (by decide) rfl d_Line_joinNeighbours_121 rfl ?_
                  obtain ⟨J1, hJ1⟩ : ∃ W_ : Wo, W_ = up2 J (17 + 6 * v) p 0 := ⟨_, rfl⟩
                  refine mk_same hJ1.symm ?_
                  have hJ1s : J1 (17 + 6 * v) p = 0 := hJ1 ▸ up2_ss J (17 + 6 * v) p 0
                  have hJ1o : ∀ a b, (a ≠ (17 + 6 * v) ∨ b ≠ p) → J1 a b = J a b := hJ1 ▸ up2_o J (17 + 6 * v) p 0
                  refine mk_aloadn (nx := 123) X 2 d_Line_joinNeighbours_122 rfl rfl ?_
                  refine mk_get (nx := 126) (v := .ref (ad (16 + 6 * v))) X (12 + 6 * v) (by omega) (sh_Line cs ad (show v < 4 by omega) _) rfl in_Line 3 (by decide) wd_133 rfl rfl d_Line_joinNeighbours_123 rfl ?_
                  refine mk_iload (nx := 128) X 1 d_Line_joinNeighbours_126 rfl rfl ?_
                  refine mk_iloadn (nx := 129) X 5 d_Line_joinNeighbours_128 rfl rfl ?_
                  refine mk_iast (nx := 130) (j := 0) X (16 + 6 * v) 0 (by omega) (sh_Lbefore cs ad (show v < 4 by omega)) rfl (by omega) (by omega) (by decide) rfl d_Line_joinNeighbours_129 rfl ?_
                  obtain ⟨J2, hJ2⟩ : ∃ W_ : Wo, W_ = up2 J1 (16 + 6 * v) 0 (p : Int) := ⟨_, rfl⟩
                  refine mk_same hJ2.symm ?_
                  have hJ2s : J2 (16 + 6 * v) 0 = (p : Int) := hJ2 ▸ up2_ss J1 (16 + 6 * v) 0 (p : Int)
                  have hJ2o : ∀ a b, (a ≠ (16 + 6 * v) ∨ b ≠ 0) → J2 a b = J1 a b := hJ2 ▸ up2_o J1 (16 + 6 * v) 0 (p : Int)
                  refine mk_iinc (nx := 133) X 5 [(3, .int (zi ((p : Int) + 1))), (5, .int (zi 1)), (4, .int (zi 0)), (0, .ref (ad (12 + 6 * v))), (1, .ref (ad 1)), (2, .int (zi cl))] d_Line_joinNeighbours_130 rfl (by decide) rfl rfl ?_
                  refine mk_goto (tgt := 35) X d_Line_joinNeighbours_133 (by decide) ?_
                  refine mk_lv [3, 4, 5, 0] rfl ?_
                  exact ih35 (p + 1) cl J2 (by omega) (by omega) (by first | exact jn_init hn.2 hJA hJB | (exfalso; omega) | exact jn_no (jnd_f (by rw [nxp, if_pos (by omega)]; omega)) hI (by omega) (by omega) | exact jn_no (jnd_f (by rw [nxp, if_neg (by omega)]; omega)) hI (by omega) (by omega) | exact jn_yes (jnd_t (by omega) (by omega) (by rw [nxp, if_pos (by omega)]; omega)) hI (by omega) (by omega) (J1 := J1) (by rw [nxp, if_pos (by omega)]; exact hJ1) (by rw [nxp, if_pos (by omega)]; exact hJ2) | exact jn_yes (jnd_t (by omega) (by omega) (by rw [nxp, if_neg (by omega)]; omega)) hI (by omega) (by omega) (J1 := J1) (by rw [nxp, if_neg (by omega)]; exact hJ1) (by rw [nxp, if_neg (by omega)]; exact hJ2)) (by omega)
          · skip
            refine mk_iloadn (nx := 68) X 3 d_Line_joinNeighbours_67 rfl rfl ?_
            refine mk_if_eq (tgt := 75) (nx := 71) X d_Line_joinNeighbours_68 (by omega) (by decide) rfl (fun c68 => ?_) (fun c68 => ?_)
            · skip
              refine mk_iconst (nx := 76) X d_Line_joinNeighbours_75 rfl ?_
              refine mk_istore (nx := 78) X [(5, .int (zi 0)), (4, .int (zi 0)), (0, .ref (ad (12 + 6 * v))), (1, .ref (ad 1)), (2, .int (zi cl)), (3, .int (zi (p : Int)))] d_Line_joinNeighbours_76 (by decide) rfl rfl ?_
              refine mk_iload (nx := 80) X 0 d_Line_joinNeighbours_78 rfl rfl ?_
              refine mk_if_eq (tgt := 130) (nx := 83) X d_Line_joinNeighbours_80 (by omega) (by decide) rfl (fun c80 => ?_) (fun c80 => ?_)
              · skip
                refine mk_iinc (nx := 133) X 5 [(3, .int (zi ((p : Int) + 1))), (5, .int (zi 0)), (4, .int (zi 0)), (0, .ref (ad (12 + 6 * v))), (1, .ref (ad 1)), (2, .int (zi cl))] d_Line_joinNeighbours_130 rfl (by decide) rfl rfl ?_
                refine mk_goto (tgt := 35) X d_Line_joinNeighbours_133 (by decide) ?_
                refine mk_lv [3, 4, 5, 0] rfl ?_
                exact ih35 (p + 1) cl J (by omega) (by omega) (by first | exact jn_init hn.2 hJA hJB | (exfalso; omega) | exact jn_no (jnd_f (by rw [nxp, if_pos (by omega)]; omega)) hI (by omega) (by omega) | exact jn_no (jnd_f (by rw [nxp, if_neg (by omega)]; omega)) hI (by omega) (by omega) | exact jn_yes (jnd_t (by omega) (by omega) (by rw [nxp, if_pos (by omega)]; omega)) hI (by omega) (by omega) (J1 := J) (by rw [nxp, if_pos (by omega)]; exact hJ) (by rw [nxp, if_pos (by omega)]; exact hJ) | exact jn_yes (jnd_t (by omega) (by omega) (by rw [nxp, if_neg (by omega)]; omega)) hI (by omega) (by omega) (J1 := J) (by rw [nxp, if_neg (by omega)]; exact hJ) (by rw [nxp, if_neg (by omega)]; exact hJ)) (by omega)
              · skip
                refine mk_aloadn (nx := 84) X 3 d_Line_joinNeighbours_83 rfl rfl ?_
                refine mk_get (nx := 87) (v := .ref (ad 2)) X 1 (by decide) (sh_Subject cs ad _) rfl in_Subject 0 (by decide) wd_66 rfl rfl d_Line_joinNeighbours_84 rfl ?_
                refine mk_aloadn (nx := 88) X 2 d_Line_joinNeighbours_87 rfl rfl ?_
                refine mk_get (nx := 91) (v := .ref (ad (13 + 6 * v))) X (12 + 6 * v) (by omega) (sh_Line cs ad (show v < 4 by omega) _) rfl in_Line 0 (by decide) wd_126 rfl rfl d_Line_joinNeighbours_88 rfl ?_
                refine mk_iloadn (nx := 92) X 5 d_Line_joinNeighbours_91 rfl rfl ?_
                refine mk_iald (nx := 93) (j := p) X (13 + 6 * v) 0 (by omega) (sh_Lnotes cs ad (show v < 4 by omega) _) rfl (by omega) (by omega) (by decide) rfl d_Line_joinNeighbours_92 rfl ?_
                rw [show J (13 + 6 * v) p = (cnt c v p : Int) from ((hI.1 (13 + 6 * v) p (by omega) (by omega)).trans ((hB p (by omega)).1))]
                refine mk_iald (nx := 94) (j := (cnt c v p)) X 2 0 (by decide) (sh_Spit cs ad _) rfl (by omega) (by omega) (by decide) rfl d_Line_joinNeighbours_93 rfl ?_
                rw [show J 2 (cnt c v p) = c 1 (cnt c v p) from ((hI.1 (2) (cnt c v p) (by omega) (by omega)).trans ((hm.2 (cnt c v p) (by omega)).1))]
                refine mk_iconst (nx := 95) X d_Line_joinNeighbours_94 rfl ?_
                refine mk_icmp_eq (tgt := 130) (nx := 98) X d_Line_joinNeighbours_95 (by omega) (by omega) (by decide) rfl (fun c95 => ?_) (fun c95 => ?_)
                · skip
                  refine mk_iinc (nx := 133) X 5 [(3, .int (zi ((p : Int) + 1))), (5, .int (zi 0)), (4, .int (zi 0)), (0, .ref (ad (12 + 6 * v))), (1, .ref (ad 1)), (2, .int (zi cl))] d_Line_joinNeighbours_130 rfl (by decide) rfl rfl ?_
                  refine mk_goto (tgt := 35) X d_Line_joinNeighbours_133 (by decide) ?_
                  refine mk_lv [3, 4, 5, 0] rfl ?_
                  exact ih35 (p + 1) cl J (by omega) (by omega) (by first | exact jn_init hn.2 hJA hJB | (exfalso; omega) | exact jn_no (jnd_f (by rw [nxp, if_pos (by omega)]; omega)) hI (by omega) (by omega) | exact jn_no (jnd_f (by rw [nxp, if_neg (by omega)]; omega)) hI (by omega) (by omega) | exact jn_yes (jnd_t (by omega) (by omega) (by rw [nxp, if_pos (by omega)]; omega)) hI (by omega) (by omega) (J1 := J) (by rw [nxp, if_pos (by omega)]; exact hJ) (by rw [nxp, if_pos (by omega)]; exact hJ) | exact jn_yes (jnd_t (by omega) (by omega) (by rw [nxp, if_neg (by omega)]; omega)) hI (by omega) (by omega) (J1 := J) (by rw [nxp, if_neg (by omega)]; exact hJ) (by rw [nxp, if_neg (by omega)]; exact hJ)) (by omega)
                · skip
                  have hcl2 : ∀ q, q < cn c → cnt c v q < cn c ∧ -2 ≤ c 1 (cnt c v q) ∧ c 1 (cnt c v q) ≤ 127 := fun q hq => ⟨cnt_lt hq, (hw.2 (cnt c v q) (by have := cnt_lt (c := c) (v := v) hq; omega)).1⟩
                  have hcl3 := hcl2 0 (by omega)
                  have hcl4 : p + 1 < cn c → _ := fun h => hcl2 (p + 1) h
                  refine mk_aloadn (nx := 99) X 3 d_Line_joinNeighbours_98 rfl rfl ?_
                  refine mk_get (nx := 102) (v := .ref (ad 2)) X 1 (by decide) (sh_Subject cs ad _) rfl in_Subject 0 (by decide) wd_66 rfl rfl d_Line_joinNeighbours_99 rfl ?_
                  refine mk_aloadn (nx := 103) X 2 d_Line_joinNeighbours_102 rfl rfl ?_
                  refine mk_get (nx := 106) (v := .ref (ad (13 + 6 * v))) X (12 + 6 * v) (by omega) (sh_Line cs ad (show v < 4 by omega) _) rfl in_Line 0 (by decide) wd_126 rfl rfl d_Line_joinNeighbours_103 rfl ?_
                  refine mk_iload (nx := 108) X 1 d_Line_joinNeighbours_106 rfl rfl ?_
                  refine mk_iald (nx := 109) (j := 0) X (13 + 6 * v) 0 (by omega) (sh_Lnotes cs ad (show v < 4 by omega) _) rfl (by omega) (by omega) (by decide) rfl d_Line_joinNeighbours_108 rfl ?_
                  rw [show J (13 + 6 * v) 0 = (cnt c v 0 : Int) from ((hI.1 (13 + 6 * v) 0 (by omega) (by omega)).trans ((hB 0 (by omega)).1))]
                  refine mk_iald (nx := 110) (j := (cnt c v 0)) X 2 0 (by decide) (sh_Spit cs ad _) rfl (by omega) (by omega) (by decide) rfl d_Line_joinNeighbours_109 rfl ?_
                  rw [show J 2 (cnt c v 0) = c 1 (cnt c v 0) from ((hI.1 (2) (cnt c v 0) (by omega) (by omega)).trans ((hm.2 (cnt c v 0) (by omega)).1))]
                  refine mk_iconst (nx := 111) X d_Line_joinNeighbours_110 rfl ?_
                  refine mk_icmp_eq (tgt := 130) (nx := 114) X d_Line_joinNeighbours_111 (by omega) (by omega) (by decide) rfl (fun c111 => ?_) (fun c111 => ?_)
                  · skip
                    refine mk_iinc (nx := 133) X 5 [(3, .int (zi ((p : Int) + 1))), (5, .int (zi 0)), (4, .int (zi 0)), (0, .ref (ad (12 + 6 * v))), (1, .ref (ad 1)), (2, .int (zi cl))] d_Line_joinNeighbours_130 rfl (by decide) rfl rfl ?_
                    refine mk_goto (tgt := 35) X d_Line_joinNeighbours_133 (by decide) ?_
                    refine mk_lv [3, 4, 5, 0] rfl ?_
                    exact ih35 (p + 1) cl J (by omega) (by omega) (by first | exact jn_init hn.2 hJA hJB | (exfalso; omega) | exact jn_no (jnd_f (by rw [nxp, if_pos (by omega)]; omega)) hI (by omega) (by omega) | exact jn_no (jnd_f (by rw [nxp, if_neg (by omega)]; omega)) hI (by omega) (by omega) | exact jn_yes (jnd_t (by omega) (by omega) (by rw [nxp, if_pos (by omega)]; omega)) hI (by omega) (by omega) (J1 := J) (by rw [nxp, if_pos (by omega)]; exact hJ) (by rw [nxp, if_pos (by omega)]; exact hJ) | exact jn_yes (jnd_t (by omega) (by omega) (by rw [nxp, if_neg (by omega)]; omega)) hI (by omega) (by omega) (J1 := J) (by rw [nxp, if_neg (by omega)]; exact hJ) (by rw [nxp, if_neg (by omega)]; exact hJ)) (by omega)
                  · skip
                    refine mk_aloadn (nx := 115) X 2 d_Line_joinNeighbours_114 rfl rfl ?_
                    refine mk_get (nx := 118) (v := .ref (ad (17 + 6 * v))) X (12 + 6 * v) (by omega) (sh_Line cs ad (show v < 4 by omega) _) rfl in_Line 4 (by decide) wd_136 rfl rfl d_Line_joinNeighbours_115 rfl ?_
                    refine mk_iloadn (nx := 119) X 5 d_Line_joinNeighbours_118 rfl rfl ?_
                    refine mk_iload (nx := 121) X 1 d_Line_joinNeighbours_119 rfl rfl ?_
                    refine mk_iast (nx := 122) (j := p) X (17 + 6 * v) 0 (by omega) (sh_Lbehind cs ad (show v < 4 by omega)) rfl (by omega) (by omega) (by decide) rfl d_Line_joinNeighbours_121 rfl ?_
                    obtain ⟨J3, hJ3⟩ : ∃ W_ : Wo, W_ = up2 J (17 + 6 * v) p 0 := ⟨_, rfl⟩
                    refine mk_same hJ3.symm ?_
                    have hJ3s : J3 (17 + 6 * v) p = 0 := hJ3 ▸ up2_ss J (17 + 6 * v) p 0
                    have hJ3o : ∀ a b, (a ≠ (17 + 6 * v) ∨ b ≠ p) → J3 a b = J a b := hJ3 ▸ up2_o J (17 + 6 * v) p 0
                    refine mk_aloadn (nx := 123) X 2 d_Line_joinNeighbours_122 rfl rfl ?_
                    refine mk_get (nx := 126) (v := .ref (ad (16 + 6 * v))) X (12 + 6 * v) (by omega) (sh_Line cs ad (show v < 4 by omega) _) rfl in_Line 3 (by decide) wd_133 rfl rfl d_Line_joinNeighbours_123 rfl ?_
                    refine mk_iload (nx := 128) X 1 d_Line_joinNeighbours_126 rfl rfl ?_
                    refine mk_iloadn (nx := 129) X 5 d_Line_joinNeighbours_128 rfl rfl ?_
                    refine mk_iast (nx := 130) (j := 0) X (16 + 6 * v) 0 (by omega) (sh_Lbefore cs ad (show v < 4 by omega)) rfl (by omega) (by omega) (by decide) rfl d_Line_joinNeighbours_129 rfl ?_
                    obtain ⟨J4, hJ4⟩ : ∃ W_ : Wo, W_ = up2 J3 (16 + 6 * v) 0 (p : Int) := ⟨_, rfl⟩
                    refine mk_same hJ4.symm ?_
                    have hJ4s : J4 (16 + 6 * v) 0 = (p : Int) := hJ4 ▸ up2_ss J3 (16 + 6 * v) 0 (p : Int)
                    have hJ4o : ∀ a b, (a ≠ (16 + 6 * v) ∨ b ≠ 0) → J4 a b = J3 a b := hJ4 ▸ up2_o J3 (16 + 6 * v) 0 (p : Int)
                    refine mk_iinc (nx := 133) X 5 [(3, .int (zi ((p : Int) + 1))), (5, .int (zi 0)), (4, .int (zi 0)), (0, .ref (ad (12 + 6 * v))), (1, .ref (ad 1)), (2, .int (zi cl))] d_Line_joinNeighbours_130 rfl (by decide) rfl rfl ?_
                    refine mk_goto (tgt := 35) X d_Line_joinNeighbours_133 (by decide) ?_
                    refine mk_lv [3, 4, 5, 0] rfl ?_
                    exact ih35 (p + 1) cl J4 (by omega) (by omega) (by first | exact jn_init hn.2 hJA hJB | (exfalso; omega) | exact jn_no (jnd_f (by rw [nxp, if_pos (by omega)]; omega)) hI (by omega) (by omega) | exact jn_no (jnd_f (by rw [nxp, if_neg (by omega)]; omega)) hI (by omega) (by omega) | exact jn_yes (jnd_t (by omega) (by omega) (by rw [nxp, if_pos (by omega)]; omega)) hI (by omega) (by omega) (J1 := J3) (by rw [nxp, if_pos (by omega)]; exact hJ3) (by rw [nxp, if_pos (by omega)]; exact hJ4) | exact jn_yes (jnd_t (by omega) (by omega) (by rw [nxp, if_neg (by omega)]; omega)) hI (by omega) (by omega) (J1 := J3) (by rw [nxp, if_neg (by omega)]; exact hJ3) (by rw [nxp, if_neg (by omega)]; exact hJ4)) (by omega)
            · skip
              refine mk_iconst (nx := 72) X d_Line_joinNeighbours_71 rfl ?_
              refine mk_goto (tgt := 76) X d_Line_joinNeighbours_72 (by decide) ?_
              refine mk_istore (nx := 78) X [(5, .int (zi 1)), (4, .int (zi 0)), (0, .ref (ad (12 + 6 * v))), (1, .ref (ad 1)), (2, .int (zi cl)), (3, .int (zi (p : Int)))] d_Line_joinNeighbours_76 (by decide) rfl rfl ?_
              refine mk_iload (nx := 80) X 0 d_Line_joinNeighbours_78 rfl rfl ?_
              refine mk_if_eq (tgt := 130) (nx := 83) X d_Line_joinNeighbours_80 (by omega) (by decide) rfl (fun c80 => ?_) (fun c80 => ?_)
              · skip
                refine mk_iinc (nx := 133) X 5 [(3, .int (zi ((p : Int) + 1))), (5, .int (zi 1)), (4, .int (zi 0)), (0, .ref (ad (12 + 6 * v))), (1, .ref (ad 1)), (2, .int (zi cl))] d_Line_joinNeighbours_130 rfl (by decide) rfl rfl ?_
                refine mk_goto (tgt := 35) X d_Line_joinNeighbours_133 (by decide) ?_
                refine mk_lv [3, 4, 5, 0] rfl ?_
                exact ih35 (p + 1) cl J (by omega) (by omega) (by first | exact jn_init hn.2 hJA hJB | (exfalso; omega) | exact jn_no (jnd_f (by rw [nxp, if_pos (by omega)]; omega)) hI (by omega) (by omega) | exact jn_no (jnd_f (by rw [nxp, if_neg (by omega)]; omega)) hI (by omega) (by omega) | exact jn_yes (jnd_t (by omega) (by omega) (by rw [nxp, if_pos (by omega)]; omega)) hI (by omega) (by omega) (J1 := J) (by rw [nxp, if_pos (by omega)]; exact hJ) (by rw [nxp, if_pos (by omega)]; exact hJ) | exact jn_yes (jnd_t (by omega) (by omega) (by rw [nxp, if_neg (by omega)]; omega)) hI (by omega) (by omega) (J1 := J) (by rw [nxp, if_neg (by omega)]; exact hJ) (by rw [nxp, if_neg (by omega)]; exact hJ)) (by omega)
              · skip
                refine mk_aloadn (nx := 84) X 3 d_Line_joinNeighbours_83 rfl rfl ?_
                refine mk_get (nx := 87) (v := .ref (ad 2)) X 1 (by decide) (sh_Subject cs ad _) rfl in_Subject 0 (by decide) wd_66 rfl rfl d_Line_joinNeighbours_84 rfl ?_
                refine mk_aloadn (nx := 88) X 2 d_Line_joinNeighbours_87 rfl rfl ?_
                refine mk_get (nx := 91) (v := .ref (ad (13 + 6 * v))) X (12 + 6 * v) (by omega) (sh_Line cs ad (show v < 4 by omega) _) rfl in_Line 0 (by decide) wd_126 rfl rfl d_Line_joinNeighbours_88 rfl ?_
                refine mk_iloadn (nx := 92) X 5 d_Line_joinNeighbours_91 rfl rfl ?_
                refine mk_iald (nx := 93) (j := p) X (13 + 6 * v) 0 (by omega) (sh_Lnotes cs ad (show v < 4 by omega) _) rfl (by omega) (by omega) (by decide) rfl d_Line_joinNeighbours_92 rfl ?_
                rw [show J (13 + 6 * v) p = (cnt c v p : Int) from ((hI.1 (13 + 6 * v) p (by omega) (by omega)).trans ((hB p (by omega)).1))]
                refine mk_iald (nx := 94) (j := (cnt c v p)) X 2 0 (by decide) (sh_Spit cs ad _) rfl (by omega) (by omega) (by decide) rfl d_Line_joinNeighbours_93 rfl ?_
                rw [show J 2 (cnt c v p) = c 1 (cnt c v p) from ((hI.1 (2) (cnt c v p) (by omega) (by omega)).trans ((hm.2 (cnt c v p) (by omega)).1))]
                refine mk_iconst (nx := 95) X d_Line_joinNeighbours_94 rfl ?_
                refine mk_icmp_eq (tgt := 130) (nx := 98) X d_Line_joinNeighbours_95 (by omega) (by omega) (by decide) rfl (fun c95 => ?_) (fun c95 => ?_)
                · skip
                  refine mk_iinc (nx := 133) X 5 [(3, .int (zi ((p : Int) + 1))), (5, .int (zi 1)), (4, .int (zi 0)), (0, .ref (ad (12 + 6 * v))), (1, .ref (ad 1)), (2, .int (zi cl))] d_Line_joinNeighbours_130 rfl (by decide) rfl rfl ?_
                  refine mk_goto (tgt := 35) X d_Line_joinNeighbours_133 (by decide) ?_
                  refine mk_lv [3, 4, 5, 0] rfl ?_
                  exact ih35 (p + 1) cl J (by omega) (by omega) (by first | exact jn_init hn.2 hJA hJB | (exfalso; omega) | exact jn_no (jnd_f (by rw [nxp, if_pos (by omega)]; omega)) hI (by omega) (by omega) | exact jn_no (jnd_f (by rw [nxp, if_neg (by omega)]; omega)) hI (by omega) (by omega) | exact jn_yes (jnd_t (by omega) (by omega) (by rw [nxp, if_pos (by omega)]; omega)) hI (by omega) (by omega) (J1 := J) (by rw [nxp, if_pos (by omega)]; exact hJ) (by rw [nxp, if_pos (by omega)]; exact hJ) | exact jn_yes (jnd_t (by omega) (by omega) (by rw [nxp, if_neg (by omega)]; omega)) hI (by omega) (by omega) (J1 := J) (by rw [nxp, if_neg (by omega)]; exact hJ) (by rw [nxp, if_neg (by omega)]; exact hJ)) (by omega)
                · skip
                  have hcl2 : ∀ q, q < cn c → cnt c v q < cn c ∧ -2 ≤ c 1 (cnt c v q) ∧ c 1 (cnt c v q) ≤ 127 := fun q hq => ⟨cnt_lt hq, (hw.2 (cnt c v q) (by have := cnt_lt (c := c) (v := v) hq; omega)).1⟩
                  have hcl3 := hcl2 0 (by omega)
                  have hcl4 : p + 1 < cn c → _ := fun h => hcl2 (p + 1) h
                  refine mk_aloadn (nx := 99) X 3 d_Line_joinNeighbours_98 rfl rfl ?_
                  refine mk_get (nx := 102) (v := .ref (ad 2)) X 1 (by decide) (sh_Subject cs ad _) rfl in_Subject 0 (by decide) wd_66 rfl rfl d_Line_joinNeighbours_99 rfl ?_
                  refine mk_aloadn (nx := 103) X 2 d_Line_joinNeighbours_102 rfl rfl ?_
                  refine mk_get (nx := 106) (v := .ref (ad (13 + 6 * v))) X (12 + 6 * v) (by omega) (sh_Line cs ad (show v < 4 by omega) _) rfl in_Line 0 (by decide) wd_126 rfl rfl d_Line_joinNeighbours_103 rfl ?_
                  refine mk_iload (nx := 108) X 1 d_Line_joinNeighbours_106 rfl rfl ?_
                  refine mk_iald (nx := 109) (j := 0) X (13 + 6 * v) 0 (by omega) (sh_Lnotes cs ad (show v < 4 by omega) _) rfl (by omega) (by omega) (by decide) rfl d_Line_joinNeighbours_108 rfl ?_
                  rw [show J (13 + 6 * v) 0 = (cnt c v 0 : Int) from ((hI.1 (13 + 6 * v) 0 (by omega) (by omega)).trans ((hB 0 (by omega)).1))]
                  refine mk_iald (nx := 110) (j := (cnt c v 0)) X 2 0 (by decide) (sh_Spit cs ad _) rfl (by omega) (by omega) (by decide) rfl d_Line_joinNeighbours_109 rfl ?_
                  rw [show J 2 (cnt c v 0) = c 1 (cnt c v 0) from ((hI.1 (2) (cnt c v 0) (by omega) (by omega)).trans ((hm.2 (cnt c v 0) (by omega)).1))]
                  refine mk_iconst (nx := 111) X d_Line_joinNeighbours_110 rfl ?_
                  refine mk_icmp_eq (tgt := 130) (nx := 114) X d_Line_joinNeighbours_111 (by omega) (by omega) (by decide) rfl (fun c111 => ?_) (fun c111 => ?_)
                  · skip
                    refine mk_iinc (nx := 133) X 5 [(3, .int (zi ((p : Int) + 1))), (5, .int (zi 1)), (4, .int (zi 0)), (0, .ref (ad (12 + 6 * v))), (1, .ref (ad 1)), (2, .int (zi cl))] d_Line_joinNeighbours_130 rfl (by decide) rfl rfl ?_
                    refine mk_goto (tgt := 35) X d_Line_joinNeighbours_133 (by decide) ?_
                    refine mk_lv [3, 4, 5, 0] rfl ?_
                    exact ih35 (p + 1) cl J (by omega) (by omega) (by first | exact jn_init hn.2 hJA hJB | (exfalso; omega) | exact jn_no (jnd_f (by rw [nxp, if_pos (by omega)]; omega)) hI (by omega) (by omega) | exact jn_no (jnd_f (by rw [nxp, if_neg (by omega)]; omega)) hI (by omega) (by omega) | exact jn_yes (jnd_t (by omega) (by omega) (by rw [nxp, if_pos (by omega)]; omega)) hI (by omega) (by omega) (J1 := J) (by rw [nxp, if_pos (by omega)]; exact hJ) (by rw [nxp, if_pos (by omega)]; exact hJ) | exact jn_yes (jnd_t (by omega) (by omega) (by rw [nxp, if_neg (by omega)]; omega)) hI (by omega) (by omega) (J1 := J) (by rw [nxp, if_neg (by omega)]; exact hJ) (by rw [nxp, if_neg (by omega)]; exact hJ)) (by omega)
                  · skip
                    refine mk_aloadn (nx := 115) X 2 d_Line_joinNeighbours_114 rfl rfl ?_
                    refine mk_get (nx := 118) (v := .ref (ad (17 + 6 * v))) X (12 + 6 * v) (by omega) (sh_Line cs ad (show v < 4 by omega) _) rfl in_Line 4 (by decide) wd_136 rfl rfl d_Line_joinNeighbours_115 rfl ?_
                    refine mk_iloadn (nx := 119) X 5 d_Line_joinNeighbours_118 rfl rfl ?_
                    refine mk_iload (nx := 121) X 1 d_Line_joinNeighbours_119 rfl rfl ?_
                    refine mk_iast (nx := 122) (j := p) X (17 + 6 * v) 0 (by omega) (sh_Lbehind cs ad (show v < 4 by omega)) rfl (by omega) (by omega) (by decide) rfl d_Line_joinNeighbours_121 rfl ?_
                    obtain ⟨J5, hJ5⟩ : ∃ W_ : Wo, W_ = up2 J (17 + 6 * v) p 0 := ⟨_, rfl⟩
                    refine mk_same hJ5.symm ?_
                    have hJ5s : J5 (17 + 6 * v) p = 0 := hJ5 ▸ up2_ss J (17 + 6 * v) p 0
                    have hJ5o : ∀ a b, (a ≠ (17 + 6 * v) ∨ b ≠ p) → J5 a b = J a b := hJ5 ▸ up2_o J (17 + 6 * v) p 0
                    refine mk_aloadn (nx := 123) X 2 d_Line_joinNeighbours_122 rfl rfl ?_
                    refine mk_get (nx := 126) (v := .ref (ad (16 + 6 * v))) X (12 + 6 * v) (by omega) (sh_Line cs ad (show v < 4 by omega) _) rfl in_Line 3 (by decide) wd_133 rfl rfl d_Line_joinNeighbours_123 rfl ?_
                    refine mk_iload (nx := 128) X 1 d_Line_joinNeighbours_126 rfl rfl ?_
                    refine mk_iloadn (nx := 129) X 5 d_Line_joinNeighbours_128 rfl rfl ?_
                    refine mk_iast (nx := 130) (j := 0) X (16 + 6 * v) 0 (by omega) (sh_Lbefore cs ad (show v < 4 by omega)) rfl (by omega) (by omega) (by decide) rfl d_Line_joinNeighbours_129 rfl ?_
                    obtain ⟨J6, hJ6⟩ : ∃ W_ : Wo, W_ = up2 J5 (16 + 6 * v) 0 (p : Int) := ⟨_, rfl⟩
                    refine mk_same hJ6.symm ?_
                    have hJ6s : J6 (16 + 6 * v) 0 = (p : Int) := hJ6 ▸ up2_ss J5 (16 + 6 * v) 0 (p : Int)
                    have hJ6o : ∀ a b, (a ≠ (16 + 6 * v) ∨ b ≠ 0) → J6 a b = J5 a b := hJ6 ▸ up2_o J5 (16 + 6 * v) 0 (p : Int)
                    refine mk_iinc (nx := 133) X 5 [(3, .int (zi ((p : Int) + 1))), (5, .int (zi 1)), (4, .int (zi 0)), (0, .ref (ad (12 + 6 * v))), (1, .ref (ad 1)), (2, .int (zi cl))] d_Line_joinNeighbours_130 rfl (by decide) rfl rfl ?_
                    refine mk_goto (tgt := 35) X d_Line_joinNeighbours_133 (by decide) ?_
                    refine mk_lv [3, 4, 5, 0] rfl ?_
                    exact ih35 (p + 1) cl J6 (by omega) (by omega) (by first | exact jn_init hn.2 hJA hJB | (exfalso; omega) | exact jn_no (jnd_f (by rw [nxp, if_pos (by omega)]; omega)) hI (by omega) (by omega) | exact jn_no (jnd_f (by rw [nxp, if_neg (by omega)]; omega)) hI (by omega) (by omega) | exact jn_yes (jnd_t (by omega) (by omega) (by rw [nxp, if_pos (by omega)]; omega)) hI (by omega) (by omega) (J1 := J5) (by rw [nxp, if_pos (by omega)]; exact hJ5) (by rw [nxp, if_pos (by omega)]; exact hJ6) | exact jn_yes (jnd_t (by omega) (by omega) (by rw [nxp, if_neg (by omega)]; omega)) hI (by omega) (by omega) (J1 := J5) (by rw [nxp, if_neg (by omega)]; exact hJ5) (by rw [nxp, if_neg (by omega)]; exact hJ6)) (by omega)
        · skip
          refine mk_iloadn (nx := 54) X 3 d_Line_joinNeighbours_53 rfl rfl ?_
          refine mk_iconst (nx := 55) X d_Line_joinNeighbours_54 rfl ?_
          refine mk_iadd (nx := 56) X d_Line_joinNeighbours_55 rfl ?_
          refine mk_goto (tgt := 60) X d_Line_joinNeighbours_56 (by decide) ?_
          refine mk_istore (nx := 62) X [(4, .int (zi ((p : Int) + 1))), (0, .ref (ad (12 + 6 * v))), (1, .ref (ad 1)), (2, .int (zi cl)), (3, .int (zi (p : Int)))] d_Line_joinNeighbours_60 (by decide) rfl rfl ?_
          refine mk_iload (nx := 64) X 0 d_Line_joinNeighbours_62 rfl rfl ?_
          refine mk_if_gt (tgt := 71) (nx := 67) X d_Line_joinNeighbours_64 (by omega) (by decide) rfl (fun c64 => ?_) (fun c64 => ?_)
          · skip
            refine mk_iconst (nx := 72) X d_Line_joinNeighbours_71 rfl ?_
            refine mk_goto (tgt := 76) X d_Line_joinNeighbours_72 (by decide) ?_
            refine mk_istore (nx := 78) X [(5, .int (zi 1)), (4, .int (zi ((p : Int) + 1))), (0, .ref (ad (12 + 6 * v))), (1, .ref (ad 1)), (2, .int (zi cl)), (3, .int (zi (p : Int)))] d_Line_joinNeighbours_76 (by decide) rfl rfl ?_
            refine mk_iload (nx := 80) X 0 d_Line_joinNeighbours_78 rfl rfl ?_
            refine mk_if_eq (tgt := 130) (nx := 83) X d_Line_joinNeighbours_80 (by omega) (by decide) rfl (fun c80 => ?_) (fun c80 => ?_)
            · skip
              refine mk_iinc (nx := 133) X 5 [(3, .int (zi ((p : Int) + 1))), (5, .int (zi 1)), (4, .int (zi ((p : Int) + 1))), (0, .ref (ad (12 + 6 * v))), (1, .ref (ad 1)), (2, .int (zi cl))] d_Line_joinNeighbours_130 rfl (by decide) rfl rfl ?_
              refine mk_goto (tgt := 35) X d_Line_joinNeighbours_133 (by decide) ?_
              refine mk_lv [3, 4, 5, 0] rfl ?_
              exact ih35 (p + 1) cl J (by omega) (by omega) (by first | exact jn_init hn.2 hJA hJB | (exfalso; omega) | exact jn_no (jnd_f (by rw [nxp, if_pos (by omega)]; omega)) hI (by omega) (by omega) | exact jn_no (jnd_f (by rw [nxp, if_neg (by omega)]; omega)) hI (by omega) (by omega) | exact jn_yes (jnd_t (by omega) (by omega) (by rw [nxp, if_pos (by omega)]; omega)) hI (by omega) (by omega) (J1 := J) (by rw [nxp, if_pos (by omega)]; exact hJ) (by rw [nxp, if_pos (by omega)]; exact hJ) | exact jn_yes (jnd_t (by omega) (by omega) (by rw [nxp, if_neg (by omega)]; omega)) hI (by omega) (by omega) (J1 := J) (by rw [nxp, if_neg (by omega)]; exact hJ) (by rw [nxp, if_neg (by omega)]; exact hJ)) (by omega)
            · skip
              refine mk_aloadn (nx := 84) X 3 d_Line_joinNeighbours_83 rfl rfl ?_
              refine mk_get (nx := 87) (v := .ref (ad 2)) X 1 (by decide) (sh_Subject cs ad _) rfl in_Subject 0 (by decide) wd_66 rfl rfl d_Line_joinNeighbours_84 rfl ?_
              refine mk_aloadn (nx := 88) X 2 d_Line_joinNeighbours_87 rfl rfl ?_
              refine mk_get (nx := 91) (v := .ref (ad (13 + 6 * v))) X (12 + 6 * v) (by omega) (sh_Line cs ad (show v < 4 by omega) _) rfl in_Line 0 (by decide) wd_126 rfl rfl d_Line_joinNeighbours_88 rfl ?_
              refine mk_iloadn (nx := 92) X 5 d_Line_joinNeighbours_91 rfl rfl ?_
              refine mk_iald (nx := 93) (j := p) X (13 + 6 * v) 0 (by omega) (sh_Lnotes cs ad (show v < 4 by omega) _) rfl (by omega) (by omega) (by decide) rfl d_Line_joinNeighbours_92 rfl ?_
              rw [show J (13 + 6 * v) p = (cnt c v p : Int) from ((hI.1 (13 + 6 * v) p (by omega) (by omega)).trans ((hB p (by omega)).1))]
              refine mk_iald (nx := 94) (j := (cnt c v p)) X 2 0 (by decide) (sh_Spit cs ad _) rfl (by omega) (by omega) (by decide) rfl d_Line_joinNeighbours_93 rfl ?_
              rw [show J 2 (cnt c v p) = c 1 (cnt c v p) from ((hI.1 (2) (cnt c v p) (by omega) (by omega)).trans ((hm.2 (cnt c v p) (by omega)).1))]
              refine mk_iconst (nx := 95) X d_Line_joinNeighbours_94 rfl ?_
              refine mk_icmp_eq (tgt := 130) (nx := 98) X d_Line_joinNeighbours_95 (by omega) (by omega) (by decide) rfl (fun c95 => ?_) (fun c95 => ?_)
              · skip
                refine mk_iinc (nx := 133) X 5 [(3, .int (zi ((p : Int) + 1))), (5, .int (zi 1)), (4, .int (zi ((p : Int) + 1))), (0, .ref (ad (12 + 6 * v))), (1, .ref (ad 1)), (2, .int (zi cl))] d_Line_joinNeighbours_130 rfl (by decide) rfl rfl ?_
                refine mk_goto (tgt := 35) X d_Line_joinNeighbours_133 (by decide) ?_
                refine mk_lv [3, 4, 5, 0] rfl ?_
                exact ih35 (p + 1) cl J (by omega) (by omega) (by first | exact jn_init hn.2 hJA hJB | (exfalso; omega) | exact jn_no (jnd_f (by rw [nxp, if_pos (by omega)]; omega)) hI (by omega) (by omega) | exact jn_no (jnd_f (by rw [nxp, if_neg (by omega)]; omega)) hI (by omega) (by omega) | exact jn_yes (jnd_t (by omega) (by omega) (by rw [nxp, if_pos (by omega)]; omega)) hI (by omega) (by omega) (J1 := J) (by rw [nxp, if_pos (by omega)]; exact hJ) (by rw [nxp, if_pos (by omega)]; exact hJ) | exact jn_yes (jnd_t (by omega) (by omega) (by rw [nxp, if_neg (by omega)]; omega)) hI (by omega) (by omega) (J1 := J) (by rw [nxp, if_neg (by omega)]; exact hJ) (by rw [nxp, if_neg (by omega)]; exact hJ)) (by omega)
              · skip
                have hcl2 : ∀ q, q < cn c → cnt c v q < cn c ∧ -2 ≤ c 1 (cnt c v q) ∧ c 1 (cnt c v q) ≤ 127 := fun q hq => ⟨cnt_lt hq, (hw.2 (cnt c v q) (by have := cnt_lt (c := c) (v := v) hq; omega)).1⟩
                have hcl3 := hcl2 0 (by omega)
                have hcl4 : p + 1 < cn c → _ := fun h => hcl2 (p + 1) h
                refine mk_aloadn (nx := 99) X 3 d_Line_joinNeighbours_98 rfl rfl ?_
                refine mk_get (nx := 102) (v := .ref (ad 2)) X 1 (by decide) (sh_Subject cs ad _) rfl in_Subject 0 (by decide) wd_66 rfl rfl d_Line_joinNeighbours_99 rfl ?_
                refine mk_aloadn (nx := 103) X 2 d_Line_joinNeighbours_102 rfl rfl ?_
                refine mk_get (nx := 106) (v := .ref (ad (13 + 6 * v))) X (12 + 6 * v) (by omega) (sh_Line cs ad (show v < 4 by omega) _) rfl in_Line 0 (by decide) wd_126 rfl rfl d_Line_joinNeighbours_103 rfl ?_
                refine mk_iload (nx := 108) X 1 d_Line_joinNeighbours_106 rfl rfl ?_
                refine mk_iald (nx := 109) (j := (p + 1)) X (13 + 6 * v) 0 (by omega) (sh_Lnotes cs ad (show v < 4 by omega) _) rfl (by omega) (by omega) (by decide) rfl d_Line_joinNeighbours_108 rfl ?_
                rw [show J (13 + 6 * v) (p + 1) = (cnt c v (p + 1) : Int) from ((hI.1 (13 + 6 * v) (p + 1) (by omega) (by omega)).trans ((hB (p + 1) (by omega)).1))]
                refine mk_iald (nx := 110) (j := (cnt c v (p + 1))) X 2 0 (by decide) (sh_Spit cs ad _) rfl (by omega) (by omega) (by decide) rfl d_Line_joinNeighbours_109 rfl ?_
                rw [show J 2 (cnt c v (p + 1)) = c 1 (cnt c v (p + 1)) from ((hI.1 (2) (cnt c v (p + 1)) (by omega) (by omega)).trans ((hm.2 (cnt c v (p + 1)) (by omega)).1))]
                refine mk_iconst (nx := 111) X d_Line_joinNeighbours_110 rfl ?_
                refine mk_icmp_eq (tgt := 130) (nx := 114) X d_Line_joinNeighbours_111 (by omega) (by omega) (by decide) rfl (fun c111 => ?_) (fun c111 => ?_)
                · skip
                  refine mk_iinc (nx := 133) X 5 [(3, .int (zi ((p : Int) + 1))), (5, .int (zi 1)), (4, .int (zi ((p : Int) + 1))), (0, .ref (ad (12 + 6 * v))), (1, .ref (ad 1)), (2, .int (zi cl))] d_Line_joinNeighbours_130 rfl (by decide) rfl rfl ?_
                  refine mk_goto (tgt := 35) X d_Line_joinNeighbours_133 (by decide) ?_
                  refine mk_lv [3, 4, 5, 0] rfl ?_
                  exact ih35 (p + 1) cl J (by omega) (by omega) (by first | exact jn_init hn.2 hJA hJB | (exfalso; omega) | exact jn_no (jnd_f (by rw [nxp, if_pos (by omega)]; omega)) hI (by omega) (by omega) | exact jn_no (jnd_f (by rw [nxp, if_neg (by omega)]; omega)) hI (by omega) (by omega) | exact jn_yes (jnd_t (by omega) (by omega) (by rw [nxp, if_pos (by omega)]; omega)) hI (by omega) (by omega) (J1 := J) (by rw [nxp, if_pos (by omega)]; exact hJ) (by rw [nxp, if_pos (by omega)]; exact hJ) | exact jn_yes (jnd_t (by omega) (by omega) (by rw [nxp, if_neg (by omega)]; omega)) hI (by omega) (by omega) (J1 := J) (by rw [nxp, if_neg (by omega)]; exact hJ) (by rw [nxp, if_neg (by omega)]; exact hJ)) (by omega)
                · skip
                  refine mk_aloadn (nx := 115) X 2 d_Line_joinNeighbours_114 rfl rfl ?_
                  refine mk_get (nx := 118) (v := .ref (ad (17 + 6 * v))) X (12 + 6 * v) (by omega) (sh_Line cs ad (show v < 4 by omega) _) rfl in_Line 4 (by decide) wd_136 rfl rfl d_Line_joinNeighbours_115 rfl ?_
                  refine mk_iloadn (nx := 119) X 5 d_Line_joinNeighbours_118 rfl rfl ?_
                  refine mk_iload (nx := 121) X 1 d_Line_joinNeighbours_119 rfl rfl ?_
                  refine mk_iast (nx := 122) (j := p) X (17 + 6 * v) 0 (by omega) (sh_Lbehind cs ad (show v < 4 by omega)) rfl (by omega) (by omega) (by decide) rfl d_Line_joinNeighbours_121 rfl ?_
                  obtain ⟨J7, hJ7⟩ : ∃ W_ : Wo, W_ = up2 J (17 + 6 * v) p ((p : Int) + 1) := ⟨_, rfl⟩
                  refine mk_same hJ7.symm ?_
                  have hJ7s : J7 (17 + 6 * v) p = (p : Int) + 1 := hJ7 ▸ up2_ss J (17 + 6 * v) p ((p : Int) + 1)
                  have hJ7o : ∀ a b, (a ≠ (17 + 6 * v) ∨ b ≠ p) → J7 a b = J a b := hJ7 ▸ up2_o J (17 + 6 * v) p ((p : Int) + 1)
                  refine mk_aloadn (nx := 123) X 2 d_Line_joinNeighbours_122 rfl rfl ?_
                  refine mk_get (nx := 126) (v := .ref (ad (16 + 6 * v))) X (12 + 6 * v) (by omega) (sh_Line cs ad (show v < 4 by omega) _) rfl in_Line 3 (by decide) wd_133 rfl rfl d_Line_joinNeighbours_123 rfl ?_
                  refine mk_iload (nx := 128) X 1 d_Line_joinNeighbours_126 rfl rfl ?_
                  refine mk_iloadn (nx := 129) X 5 d_Line_joinNeighbours_128 rfl rfl ?_
                  refine mk_iast (nx := 130) (j := (p + 1)) X (16 + 6 * v) 0 (by omega) (sh_Lbefore cs ad (show v < 4 by omega)) rfl (by omega) (by omega) (by decide) rfl d_Line_joinNeighbours_129 rfl ?_
                  obtain ⟨J8, hJ8⟩ : ∃ W_ : Wo, W_ = up2 J7 (16 + 6 * v) (p + 1) (p : Int) := ⟨_, rfl⟩
                  refine mk_same hJ8.symm ?_
                  have hJ8s : J8 (16 + 6 * v) (p + 1) = (p : Int) := hJ8 ▸ up2_ss J7 (16 + 6 * v) (p + 1) (p : Int)
                  have hJ8o : ∀ a b, (a ≠ (16 + 6 * v) ∨ b ≠ (p + 1)) → J8 a b = J7 a b := hJ8 ▸ up2_o J7 (16 + 6 * v) (p + 1) (p : Int)
                  refine mk_iinc (nx := 133) X 5 [(3, .int (zi ((p : Int) + 1))), (5, .int (zi 1)), (4, .int (zi ((p : Int) + 1))), (0, .ref (ad (12 + 6 * v))), (1, .ref (ad 1)), (2, .int (zi cl))] d_Line_joinNeighbours_130 rfl (by decide) rfl rfl ?_
                  refine mk_goto (tgt := 35) X d_Line_joinNeighbours_133 (by decide) ?_
                  refine mk_lv [3, 4, 5, 0] rfl ?_
                  exact ih35 (p + 1) cl J8 (by omega) (by omega) (by first | exact jn_init hn.2 hJA hJB | (exfalso; omega) | exact jn_no (jnd_f (by rw [nxp, if_pos (by omega)]; omega)) hI (by omega) (by omega) | exact jn_no (jnd_f (by rw [nxp, if_neg (by omega)]; omega)) hI (by omega) (by omega) | exact jn_yes (jnd_t (by omega) (by omega) (by rw [nxp, if_pos (by omega)]; omega)) hI (by omega) (by omega) (J1 := J7) (by rw [nxp, if_pos (by omega)]; exact hJ7) (by rw [nxp, if_pos (by omega)]; exact hJ8) | exact jn_yes (jnd_t (by omega) (by omega) (by rw [nxp, if_neg (by omega)]; omega)) hI (by omega) (by omega) (J1 := J7) (by rw [nxp, if_neg (by omega)]; exact hJ7) (by rw [nxp, if_neg (by omega)]; exact hJ8)) (by omega)
          · skip
            refine mk_iloadn (nx := 68) X 3 d_Line_joinNeighbours_67 rfl rfl ?_
            refine mk_if_eq (tgt := 75) (nx := 71) X d_Line_joinNeighbours_68 (by omega) (by decide) rfl (fun c68 => ?_) (fun c68 => ?_)
            · skip
              refine mk_iconst (nx := 76) X d_Line_joinNeighbours_75 rfl ?_
              refine mk_istore (nx := 78) X [(5, .int (zi 0)), (4, .int (zi ((p : Int) + 1))), (0, .ref (ad (12 + 6 * v))), (1, .ref (ad 1)), (2, .int (zi cl)), (3, .int (zi (p : Int)))] d_Line_joinNeighbours_76 (by decide) rfl rfl ?_
              refine mk_iload (nx := 80) X 0 d_Line_joinNeighbours_78 rfl rfl ?_
              refine mk_if_eq (tgt := 130) (nx := 83) X d_Line_joinNeighbours_80 (by omega) (by decide) rfl (fun c80 => ?_) (fun c80 => ?_)
              · skip
                refine mk_iinc (nx := 133) X 5 [(3, .int (zi ((p : Int) + 1))), (5, .int (zi 0)), (4, .int (zi ((p : Int) + 1))), (0, .ref (ad (12 + 6 * v))), (1, .ref (ad 1)), (2, .int (zi cl))] d_Line_joinNeighbours_130 rfl (by decide) rfl rfl ?_
                refine mk_goto (tgt := 35) X d_Line_joinNeighbours_133 (by decide) ?_
                refine mk_lv [3, 4, 5, 0] rfl ?_
                exact ih35 (p + 1) cl J (by omega) (by omega) (by first | exact jn_init hn.2 hJA hJB | (exfalso; omega) | exact jn_no (jnd_f (by rw [nxp, if_pos (by omega)]; omega)) hI (by omega) (by omega) | exact jn_no (jnd_f (by rw [nxp, if_neg (by omega)]; omega)) hI (by omega) (by omega) | exact jn_yes (jnd_t (by omega) (by omega) (by rw [nxp, if_pos (by omega)]; omega)) hI (by omega) (by omega) (J1 := J) (by rw [nxp, if_pos (by omega)]; exact hJ) (by rw [nxp, if_pos (by omega)]; exact hJ) | exact jn_yes (jnd_t (by omega) (by omega) (by rw [nxp, if_neg (by omega)]; omega)) hI (by omega) (by omega) (J1 := J) (by rw [nxp, if_neg (by omega)]; exact hJ) (by rw [nxp, if_neg (by omega)]; exact hJ)) (by omega)
              · skip
                refine mk_aloadn (nx := 84) X 3 d_Line_joinNeighbours_83 rfl rfl ?_
                refine mk_get (nx := 87) (v := .ref (ad 2)) X 1 (by decide) (sh_Subject cs ad _) rfl in_Subject 0 (by decide) wd_66 rfl rfl d_Line_joinNeighbours_84 rfl ?_
                refine mk_aloadn (nx := 88) X 2 d_Line_joinNeighbours_87 rfl rfl ?_
                refine mk_get (nx := 91) (v := .ref (ad (13 + 6 * v))) X (12 + 6 * v) (by omega) (sh_Line cs ad (show v < 4 by omega) _) rfl in_Line 0 (by decide) wd_126 rfl rfl d_Line_joinNeighbours_88 rfl ?_
                refine mk_iloadn (nx := 92) X 5 d_Line_joinNeighbours_91 rfl rfl ?_
                refine mk_iald (nx := 93) (j := p) X (13 + 6 * v) 0 (by omega) (sh_Lnotes cs ad (show v < 4 by omega) _) rfl (by omega) (by omega) (by decide) rfl d_Line_joinNeighbours_92 rfl ?_
                rw [show J (13 + 6 * v) p = (cnt c v p : Int) from ((hI.1 (13 + 6 * v) p (by omega) (by omega)).trans ((hB p (by omega)).1))]
                refine mk_iald (nx := 94) (j := (cnt c v p)) X 2 0 (by decide) (sh_Spit cs ad _) rfl (by omega) (by omega) (by decide) rfl d_Line_joinNeighbours_93 rfl ?_
                rw [show J 2 (cnt c v p) = c 1 (cnt c v p) from ((hI.1 (2) (cnt c v p) (by omega) (by omega)).trans ((hm.2 (cnt c v p) (by omega)).1))]
                refine mk_iconst (nx := 95) X d_Line_joinNeighbours_94 rfl ?_
                refine mk_icmp_eq (tgt := 130) (nx := 98) X d_Line_joinNeighbours_95 (by omega) (by omega) (by decide) rfl (fun c95 => ?_) (fun c95 => ?_)
                · skip
                  refine mk_iinc (nx := 133) X 5 [(3, .int (zi ((p : Int) + 1))), (5, .int (zi 0)), (4, .int (zi ((p : Int) + 1))), (0, .ref (ad (12 + 6 * v))), (1, .ref (ad 1)), (2, .int (zi cl))] d_Line_joinNeighbours_130 rfl (by decide) rfl rfl ?_
                  refine mk_goto (tgt := 35) X d_Line_joinNeighbours_133 (by decide) ?_
                  refine mk_lv [3, 4, 5, 0] rfl ?_
                  exact ih35 (p + 1) cl J (by omega) (by omega) (by first | exact jn_init hn.2 hJA hJB | (exfalso; omega) | exact jn_no (jnd_f (by rw [nxp, if_pos (by omega)]; omega)) hI (by omega) (by omega) | exact jn_no (jnd_f (by rw [nxp, if_neg (by omega)]; omega)) hI (by omega) (by omega) | exact jn_yes (jnd_t (by omega) (by omega) (by rw [nxp, if_pos (by omega)]; omega)) hI (by omega) (by omega) (J1 := J) (by rw [nxp, if_pos (by omega)]; exact hJ) (by rw [nxp, if_pos (by omega)]; exact hJ) | exact jn_yes (jnd_t (by omega) (by omega) (by rw [nxp, if_neg (by omega)]; omega)) hI (by omega) (by omega) (J1 := J) (by rw [nxp, if_neg (by omega)]; exact hJ) (by rw [nxp, if_neg (by omega)]; exact hJ)) (by omega)
                · skip
                  have hcl2 : ∀ q, q < cn c → cnt c v q < cn c ∧ -2 ≤ c 1 (cnt c v q) ∧ c 1 (cnt c v q) ≤ 127 := fun q hq => ⟨cnt_lt hq, (hw.2 (cnt c v q) (by have := cnt_lt (c := c) (v := v) hq; omega)).1⟩
                  have hcl3 := hcl2 0 (by omega)
                  have hcl4 : p + 1 < cn c → _ := fun h => hcl2 (p + 1) h
                  refine mk_aloadn (nx := 99) X 3 d_Line_joinNeighbours_98 rfl rfl ?_
                  refine mk_get (nx := 102) (v := .ref (ad 2)) X 1 (by decide) (sh_Subject cs ad _) rfl in_Subject 0 (by decide) wd_66 rfl rfl d_Line_joinNeighbours_99 rfl ?_
                  refine mk_aloadn (nx := 103) X 2 d_Line_joinNeighbours_102 rfl rfl ?_
                  refine mk_get (nx := 106) (v := .ref (ad (13 + 6 * v))) X (12 + 6 * v) (by omega) (sh_Line cs ad (show v < 4 by omega) _) rfl in_Line 0 (by decide) wd_126 rfl rfl d_Line_joinNeighbours_103 rfl ?_
                  refine mk_iload (nx := 108) X 1 d_Line_joinNeighbours_106 rfl rfl ?_
                  refine mk_iald (nx := 109) (j := (p + 1)) X (13 + 6 * v) 0 (by omega) (sh_Lnotes cs ad (show v < 4 by omega) _) rfl (by omega) (by omega) (by decide) rfl d_Line_joinNeighbours_108 rfl ?_
                  rw [show J (13 + 6 * v) (p + 1) = (cnt c v (p + 1) : Int) from ((hI.1 (13 + 6 * v) (p + 1) (by omega) (by omega)).trans ((hB (p + 1) (by omega)).1))]
                  refine mk_iald (nx := 110) (j := (cnt c v (p + 1))) X 2 0 (by decide) (sh_Spit cs ad _) rfl (by omega) (by omega) (by decide) rfl d_Line_joinNeighbours_109 rfl ?_
                  rw [show J 2 (cnt c v (p + 1)) = c 1 (cnt c v (p + 1)) from ((hI.1 (2) (cnt c v (p + 1)) (by omega) (by omega)).trans ((hm.2 (cnt c v (p + 1)) (by omega)).1))]
                  refine mk_iconst (nx := 111) X d_Line_joinNeighbours_110 rfl ?_
                  refine mk_icmp_eq (tgt := 130) (nx := 114) X d_Line_joinNeighbours_111 (by omega) (by omega) (by decide) rfl (fun c111 => ?_) (fun c111 => ?_)
                  · skip
                    refine mk_iinc (nx := 133) X 5 [(3, .int (zi ((p : Int) + 1))), (5, .int (zi 0)), (4, .int (zi ((p : Int) + 1))), (0, .ref (ad (12 + 6 * v))), (1, .ref (ad 1)), (2, .int (zi cl))] d_Line_joinNeighbours_130 rfl (by decide) rfl rfl ?_
                    refine mk_goto (tgt := 35) X d_Line_joinNeighbours_133 (by decide) ?_
                    refine mk_lv [3, 4, 5, 0] rfl ?_
                    exact ih35 (p + 1) cl J (by omega) (by omega) (by first | exact jn_init hn.2 hJA hJB | (exfalso; omega) | exact jn_no (jnd_f (by rw [nxp, if_pos (by omega)]; omega)) hI (by omega) (by omega) | exact jn_no (jnd_f (by rw [nxp, if_neg (by omega)]; omega)) hI (by omega) (by omega) | exact jn_yes (jnd_t (by omega) (by omega) (by rw [nxp, if_pos (by omega)]; omega)) hI (by omega) (by omega) (J1 := J) (by rw [nxp, if_pos (by omega)]; exact hJ) (by rw [nxp, if_pos (by omega)]; exact hJ) | exact jn_yes (jnd_t (by omega) (by omega) (by rw [nxp, if_neg (by omega)]; omega)) hI (by omega) (by omega) (J1 := J) (by rw [nxp, if_neg (by omega)]; exact hJ) (by rw [nxp, if_neg (by omega)]; exact hJ)) (by omega)
                  · skip
                    refine mk_aloadn (nx := 115) X 2 d_Line_joinNeighbours_114 rfl rfl ?_
                    refine mk_get (nx := 118) (v := .ref (ad (17 + 6 * v))) X (12 + 6 * v) (by omega) (sh_Line cs ad (show v < 4 by omega) _) rfl in_Line 4 (by decide) wd_136 rfl rfl d_Line_joinNeighbours_115 rfl ?_
                    refine mk_iloadn (nx := 119) X 5 d_Line_joinNeighbours_118 rfl rfl ?_
                    refine mk_iload (nx := 121) X 1 d_Line_joinNeighbours_119 rfl rfl ?_
                    refine mk_iast (nx := 122) (j := p) X (17 + 6 * v) 0 (by omega) (sh_Lbehind cs ad (show v < 4 by omega)) rfl (by omega) (by omega) (by decide) rfl d_Line_joinNeighbours_121 rfl ?_
                    obtain ⟨J9, hJ9⟩ : ∃ W_ : Wo, W_ = up2 J (17 + 6 * v) p ((p : Int) + 1) := ⟨_, rfl⟩
                    refine mk_same hJ9.symm ?_
                    have hJ9s : J9 (17 + 6 * v) p = (p : Int) + 1 := hJ9 ▸ up2_ss J (17 + 6 * v) p ((p : Int) + 1)
                    have hJ9o : ∀ a b, (a ≠ (17 + 6 * v) ∨ b ≠ p) → J9 a b = J a b := hJ9 ▸ up2_o J (17 + 6 * v) p ((p : Int) + 1)
                    refine mk_aloadn (nx := 123) X 2 d_Line_joinNeighbours_122 rfl rfl ?_
                    refine mk_get (nx := 126) (v := .ref (ad (16 + 6 * v))) X (12 + 6 * v) (by omega) (sh_Line cs ad (show v < 4 by omega) _) rfl in_Line 3 (by decide) wd_133 rfl rfl d_Line_joinNeighbours_123 rfl ?_
                    refine mk_iload (nx := 128) X 1 d_Line_joinNeighbours_126 rfl rfl ?_
                    refine mk_iloadn (nx := 129) X 5 d_Line_joinNeighbours_128 rfl rfl ?_
                    refine mk_iast (nx := 130) (j := (p + 1)) X (16 + 6 * v) 0 (by omega) (sh_Lbefore cs ad (show v < 4 by omega)) rfl (by omega) (by omega) (by decide) rfl d_Line_joinNeighbours_129 rfl ?_
                    obtain ⟨J10, hJ10⟩ : ∃ W_ : Wo, W_ = up2 J9 (16 + 6 * v) (p + 1) (p : Int) := ⟨_, rfl⟩
                    refine mk_same hJ10.symm ?_
                    have hJ10s : J10 (16 + 6 * v) (p + 1) = (p : Int) := hJ10 ▸ up2_ss J9 (16 + 6 * v) (p + 1) (p : Int)
                    have hJ10o : ∀ a b, (a ≠ (16 + 6 * v) ∨ b ≠ (p + 1)) → J10 a b = J9 a b := hJ10 ▸ up2_o J9 (16 + 6 * v) (p + 1) (p : Int)
                    refine mk_iinc (nx := 133) X 5 [(3, .int (zi ((p : Int) + 1))), (5, .int (zi 0)), (4, .int (zi ((p : Int) + 1))), (0, .ref (ad (12 + 6 * v))), (1, .ref (ad 1)), (2, .int (zi cl))] d_Line_joinNeighbours_130 rfl (by decide) rfl rfl ?_
                    refine mk_goto (tgt := 35) X d_Line_joinNeighbours_133 (by decide) ?_
                    refine mk_lv [3, 4, 5, 0] rfl ?_
                    exact ih35 (p + 1) cl J10 (by omega) (by omega) (by first | exact jn_init hn.2 hJA hJB | (exfalso; omega) | exact jn_no (jnd_f (by rw [nxp, if_pos (by omega)]; omega)) hI (by omega) (by omega) | exact jn_no (jnd_f (by rw [nxp, if_neg (by omega)]; omega)) hI (by omega) (by omega) | exact jn_yes (jnd_t (by omega) (by omega) (by rw [nxp, if_pos (by omega)]; omega)) hI (by omega) (by omega) (J1 := J9) (by rw [nxp, if_pos (by omega)]; exact hJ9) (by rw [nxp, if_pos (by omega)]; exact hJ10) | exact jn_yes (jnd_t (by omega) (by omega) (by rw [nxp, if_neg (by omega)]; omega)) hI (by omega) (by omega) (J1 := J9) (by rw [nxp, if_neg (by omega)]; exact hJ9) (by rw [nxp, if_neg (by omega)]; exact hJ10)) (by omega)
            · skip
              refine mk_iconst (nx := 72) X d_Line_joinNeighbours_71 rfl ?_
              refine mk_goto (tgt := 76) X d_Line_joinNeighbours_72 (by decide) ?_
              refine mk_istore (nx := 78) X [(5, .int (zi 1)), (4, .int (zi ((p : Int) + 1))), (0, .ref (ad (12 + 6 * v))), (1, .ref (ad 1)), (2, .int (zi cl)), (3, .int (zi (p : Int)))] d_Line_joinNeighbours_76 (by decide) rfl rfl ?_
              refine mk_iload (nx := 80) X 0 d_Line_joinNeighbours_78 rfl rfl ?_
              refine mk_if_eq (tgt := 130) (nx := 83) X d_Line_joinNeighbours_80 (by omega) (by decide) rfl (fun c80 => ?_) (fun c80 => ?_)
              · skip
                refine mk_iinc (nx := 133) X 5 [(3, .int (zi ((p : Int) + 1))), (5, .int (zi 1)), (4, .int (zi ((p : Int) + 1))), (0, .ref (ad (12 + 6 * v))), (1, .ref (ad 1)), (2, .int (zi cl))] d_Line_joinNeighbours_130 rfl (by decide) rfl rfl ?_
                refine mk_goto (tgt := 35) X d_Line_joinNeighbours_133 (by decide) ?_
                refine mk_lv [3, 4, 5, 0] rfl ?_
                exact ih35 (p + 1) cl J (by omega) (by omega) (by first | exact jn_init hn.2 hJA hJB | (exfalso; omega) | exact jn_no (jnd_f (by rw [nxp, if_pos (by omega)]; omega)) hI (by omega) (by omega) | exact jn_no (jnd_f (by rw [nxp, if_neg (by omega)]; omega)) hI (by omega) (by omega) | exact jn_yes (jnd_t (by omega) (by omega) (by rw [nxp, if_pos (by omega)]; omega)) hI (by omega) (by omega) (J1 := J) (by rw [nxp, if_pos (by omega)]; exact hJ) (by rw [nxp, if_pos (by omega)]; exact hJ) | exact jn_yes (jnd_t (by omega) (by omega) (by rw [nxp, if_neg (by omega)]; omega)) hI (by omega) (by omega) (J1 := J) (by rw [nxp, if_neg (by omega)]; exact hJ) (by rw [nxp, if_neg (by omega)]; exact hJ)) (by omega)
              · skip
                refine mk_aloadn (nx := 84) X 3 d_Line_joinNeighbours_83 rfl rfl ?_
                refine mk_get (nx := 87) (v := .ref (ad 2)) X 1 (by decide) (sh_Subject cs ad _) rfl in_Subject 0 (by decide) wd_66 rfl rfl d_Line_joinNeighbours_84 rfl ?_
                refine mk_aloadn (nx := 88) X 2 d_Line_joinNeighbours_87 rfl rfl ?_
                refine mk_get (nx := 91) (v := .ref (ad (13 + 6 * v))) X (12 + 6 * v) (by omega) (sh_Line cs ad (show v < 4 by omega) _) rfl in_Line 0 (by decide) wd_126 rfl rfl d_Line_joinNeighbours_88 rfl ?_
                refine mk_iloadn (nx := 92) X 5 d_Line_joinNeighbours_91 rfl rfl ?_
                refine mk_iald (nx := 93) (j := p) X (13 + 6 * v) 0 (by omega) (sh_Lnotes cs ad (show v < 4 by omega) _) rfl (by omega) (by omega) (by decide) rfl d_Line_joinNeighbours_92 rfl ?_
                rw [show J (13 + 6 * v) p = (cnt c v p : Int) from ((hI.1 (13 + 6 * v) p (by omega) (by omega)).trans ((hB p (by omega)).1))]
                refine mk_iald (nx := 94) (j := (cnt c v p)) X 2 0 (by decide) (sh_Spit cs ad _) rfl (by omega) (by omega) (by decide) rfl d_Line_joinNeighbours_93 rfl ?_
                rw [show J 2 (cnt c v p) = c 1 (cnt c v p) from ((hI.1 (2) (cnt c v p) (by omega) (by omega)).trans ((hm.2 (cnt c v p) (by omega)).1))]
                refine mk_iconst (nx := 95) X d_Line_joinNeighbours_94 rfl ?_
                refine mk_icmp_eq (tgt := 130) (nx := 98) X d_Line_joinNeighbours_95 (by omega) (by omega) (by decide) rfl (fun c95 => ?_) (fun c95 => ?_)
                · skip
                  refine mk_iinc (nx := 133) X 5 [(3, .int (zi ((p : Int) + 1))), (5, .int (zi 1)), (4, .int (zi ((p : Int) + 1))), (0, .ref (ad (12 + 6 * v))), (1, .ref (ad 1)), (2, .int (zi cl))] d_Line_joinNeighbours_130 rfl (by decide) rfl rfl ?_
                  refine mk_goto (tgt := 35) X d_Line_joinNeighbours_133 (by decide) ?_
                  refine mk_lv [3, 4, 5, 0] rfl ?_
                  exact ih35 (p + 1) cl J (by omega) (by omega) (by first | exact jn_init hn.2 hJA hJB | (exfalso; omega) | exact jn_no (jnd_f (by rw [nxp, if_pos (by omega)]; omega)) hI (by omega) (by omega) | exact jn_no (jnd_f (by rw [nxp, if_neg (by omega)]; omega)) hI (by omega) (by omega) | exact jn_yes (jnd_t (by omega) (by omega) (by rw [nxp, if_pos (by omega)]; omega)) hI (by omega) (by omega) (J1 := J) (by rw [nxp, if_pos (by omega)]; exact hJ) (by rw [nxp, if_pos (by omega)]; exact hJ) | exact jn_yes (jnd_t (by omega) (by omega) (by rw [nxp, if_neg (by omega)]; omega)) hI (by omega) (by omega) (J1 := J) (by rw [nxp, if_neg (by omega)]; exact hJ) (by rw [nxp, if_neg (by omega)]; exact hJ)) (by omega)
                · skip
                  have hcl2 : ∀ q, q < cn c → cnt c v q < cn c ∧ -2 ≤ c 1 (cnt c v q) ∧ c 1 (cnt c v q) ≤ 127 := fun q hq => ⟨cnt_lt hq, (hw.2 (cnt c v q) (by have := cnt_lt (c := c) (v := v) hq; omega)).1⟩
                  have hcl3 := hcl2 0 (by omega)
                  have hcl4 : p + 1 < cn c → _ := fun h => hcl2 (p + 1) h
                  refine mk_aloadn (nx := 99) X 3 d_Line_joinNeighbours_98 rfl rfl ?_
                  refine mk_get (nx := 102) (v := .ref (ad 2)) X 1 (by decide) (sh_Subject cs ad _) rfl in_Subject 0 (by decide) wd_66 rfl rfl d_Line_joinNeighbours_99 rfl ?_
                  refine mk_aloadn (nx := 103) X 2 d_Line_joinNeighbours_102 rfl rfl ?_
                  refine mk_get (nx := 106) (v := .ref (ad (13 + 6 * v))) X (12 + 6 * v) (by omega) (sh_Line cs ad (show v < 4 by omega) _) rfl in_Line 0 (by decide) wd_126 rfl rfl d_Line_joinNeighbours_103 rfl ?_
                  refine mk_iload (nx := 108) X 1 d_Line_joinNeighbours_106 rfl rfl ?_
                  refine mk_iald (nx := 109) (j := (p + 1)) X (13 + 6 * v) 0 (by omega) (sh_Lnotes cs ad (show v < 4 by omega) _) rfl (by omega) (by omega) (by decide) rfl d_Line_joinNeighbours_108 rfl ?_
                  rw [show J (13 + 6 * v) (p + 1) = (cnt c v (p + 1) : Int) from ((hI.1 (13 + 6 * v) (p + 1) (by omega) (by omega)).trans ((hB (p + 1) (by omega)).1))]
                  refine mk_iald (nx := 110) (j := (cnt c v (p + 1))) X 2 0 (by decide) (sh_Spit cs ad _) rfl (by omega) (by omega) (by decide) rfl d_Line_joinNeighbours_109 rfl ?_
                  rw [show J 2 (cnt c v (p + 1)) = c 1 (cnt c v (p + 1)) from ((hI.1 (2) (cnt c v (p + 1)) (by omega) (by omega)).trans ((hm.2 (cnt c v (p + 1)) (by omega)).1))]
                  refine mk_iconst (nx := 111) X d_Line_joinNeighbours_110 rfl ?_
                  refine mk_icmp_eq (tgt := 130) (nx := 114) X d_Line_joinNeighbours_111 (by omega) (by omega) (by decide) rfl (fun c111 => ?_) (fun c111 => ?_)
                  · skip
                    refine mk_iinc (nx := 133) X 5 [(3, .int (zi ((p : Int) + 1))), (5, .int (zi 1)), (4, .int (zi ((p : Int) + 1))), (0, .ref (ad (12 + 6 * v))), (1, .ref (ad 1)), (2, .int (zi cl))] d_Line_joinNeighbours_130 rfl (by decide) rfl rfl ?_
                    refine mk_goto (tgt := 35) X d_Line_joinNeighbours_133 (by decide) ?_
                    refine mk_lv [3, 4, 5, 0] rfl ?_
                    exact ih35 (p + 1) cl J (by omega) (by omega) (by first | exact jn_init hn.2 hJA hJB | (exfalso; omega) | exact jn_no (jnd_f (by rw [nxp, if_pos (by omega)]; omega)) hI (by omega) (by omega) | exact jn_no (jnd_f (by rw [nxp, if_neg (by omega)]; omega)) hI (by omega) (by omega) | exact jn_yes (jnd_t (by omega) (by omega) (by rw [nxp, if_pos (by omega)]; omega)) hI (by omega) (by omega) (J1 := J) (by rw [nxp, if_pos (by omega)]; exact hJ) (by rw [nxp, if_pos (by omega)]; exact hJ) | exact jn_yes (jnd_t (by omega) (by omega) (by rw [nxp, if_neg (by omega)]; omega)) hI (by omega) (by omega) (J1 := J) (by rw [nxp, if_neg (by omega)]; exact hJ) (by rw [nxp, if_neg (by omega)]; exact hJ)) (by omega)
                  · skip
                    refine mk_aloadn (nx := 115) X 2 d_Line_joinNeighbours_114 rfl rfl ?_
                    refine mk_get (nx := 118) (v := .ref (ad (17 + 6 * v))) X (12 + 6 * v) (by omega) (sh_Line cs ad (show v < 4 by omega) _) rfl in_Line 4 (by decide) wd_136 rfl rfl d_Line_joinNeighbours_115 rfl ?_
                    refine mk_iloadn (nx := 119) X 5 d_Line_joinNeighbours_118 rfl rfl ?_
                    refine mk_iload (nx := 121) X 1 d_Line_joinNeighbours_119 rfl rfl ?_
                    refine mk_iast (nx := 122) (j := p) X (17 + 6 * v) 0 (by omega) (sh_Lbehind cs ad (show v < 4 by omega)) rfl (by omega) (by omega) (by decide) rfl d_Line_joinNeighbours_121 rfl ?_
                    obtain ⟨J11, hJ11⟩ : ∃ W_ : Wo, W_ = up2 J (17 + 6 * v) p ((p : Int) + 1) := ⟨_, rfl⟩
                    refine mk_same hJ11.symm ?_
                    have hJ11s : J11 (17 + 6 * v) p = (p : Int) + 1 := hJ11 ▸ up2_ss J (17 + 6 * v) p ((p : Int) + 1)
                    have hJ11o : ∀ a b, (a ≠ (17 + 6 * v) ∨ b ≠ p) → J11 a b = J a b := hJ11 ▸ up2_o J (17 + 6 * v) p ((p : Int) + 1)
                    refine mk_aloadn (nx := 123) X 2 d_Line_joinNeighbours_122 rfl rfl ?_
                    refine mk_get (nx := 126) (v := .ref (ad (16 + 6 * v))) X (12 + 6 * v) (by omega) (sh_Line cs ad (show v < 4 by omega) _) rfl in_Line 3 (by decide) wd_133 rfl rfl d_Line_joinNeighbours_123 rfl ?_
                    refine mk_iload (nx := 128) X 1 d_Line_joinNeighbours_126 rfl rfl ?_
                    refine mk_iloadn (nx := 129) X 5 d_Line_joinNeighbours_128 rfl rfl ?_
                    refine mk_iast (nx := 130) (j := (p + 1)) X (16 + 6 * v) 0 (by omega) (sh_Lbefore cs ad (show v < 4 by omega)) rfl (by omega) (by omega) (by decide) rfl d_Line_joinNeighbours_129 rfl ?_
                    obtain ⟨J12, hJ12⟩ : ∃ W_ : Wo, W_ = up2 J11 (16 + 6 * v) (p + 1) (p : Int) := ⟨_, rfl⟩
                    refine mk_same hJ12.symm ?_
                    have hJ12s : J12 (16 + 6 * v) (p + 1) = (p : Int) := hJ12 ▸ up2_ss J11 (16 + 6 * v) (p + 1) (p : Int)
                    have hJ12o : ∀ a b, (a ≠ (16 + 6 * v) ∨ b ≠ (p + 1)) → J12 a b = J11 a b := hJ12 ▸ up2_o J11 (16 + 6 * v) (p + 1) (p : Int)
                    refine mk_iinc (nx := 133) X 5 [(3, .int (zi ((p : Int) + 1))), (5, .int (zi 1)), (4, .int (zi ((p : Int) + 1))), (0, .ref (ad (12 + 6 * v))), (1, .ref (ad 1)), (2, .int (zi cl))] d_Line_joinNeighbours_130 rfl (by decide) rfl rfl ?_
                    refine mk_goto (tgt := 35) X d_Line_joinNeighbours_133 (by decide) ?_
                    refine mk_lv [3, 4, 5, 0] rfl ?_
                    exact ih35 (p + 1) cl J12 (by omega) (by omega) (by first | exact jn_init hn.2 hJA hJB | (exfalso; omega) | exact jn_no (jnd_f (by rw [nxp, if_pos (by omega)]; omega)) hI (by omega) (by omega) | exact jn_no (jnd_f (by rw [nxp, if_neg (by omega)]; omega)) hI (by omega) (by omega) | exact jn_yes (jnd_t (by omega) (by omega) (by rw [nxp, if_pos (by omega)]; omega)) hI (by omega) (by omega) (J1 := J11) (by rw [nxp, if_pos (by omega)]; exact hJ11) (by rw [nxp, if_pos (by omega)]; exact hJ12) | exact jn_yes (jnd_t (by omega) (by omega) (by rw [nxp, if_neg (by omega)]; omega)) hI (by omega) (by omega) (J1 := J11) (by rw [nxp, if_neg (by omega)]; exact hJ11) (by rw [nxp, if_neg (by omega)]; exact hJ12)) (by omega)
  refine mk_aloadn (nx := 1) X 0 d_Line_joinNeighbours_0 rfl rfl ?_
  refine mk_get (nx := 4) (v := .ref (ad (16 + 6 * v))) X (12 + 6 * v) (by omega) (sh_Line cs ad (show v < 4 by omega) _) rfl in_Line 3 (by decide) wd_133 rfl rfl d_Line_joinNeighbours_1 rfl ?_
  refine mk_iconst (nx := 5) X d_Line_joinNeighbours_4 rfl ?_
  refine mk_callTv (nx := 8) (n := 2) (As := [.ref (ad (16 + 6 * v)), .int (zi (-1))]) (rest := []) X (c_Arrays_fill l D cs ad zt hi I (16 + 6 * v) 24 (by omega) (sh_Lbefore cs ad hv) (by decide) (-1)) (g_Arrays_fill wd_406) rfl ⟨rfl, rfl⟩ (by decide +kernel) ⟨by decide, by decide⟩ rfl (Nat.le_of_ble_eq_true rfl) rfl d_Line_joinNeighbours_5 rfl ?_
  intro JA hJA
  refine mk_aloadn (nx := 9) X 0 d_Line_joinNeighbours_8 rfl rfl ?_
  refine mk_get (nx := 12) (v := .ref (ad (17 + 6 * v))) X (12 + 6 * v) (by omega) (sh_Line cs ad (show v < 4 by omega) _) rfl in_Line 4 (by decide) wd_136 rfl rfl d_Line_joinNeighbours_9 rfl ?_
  refine mk_iconst (nx := 13) X d_Line_joinNeighbours_12 rfl ?_
  refine mk_callTv (nx := 16) (n := 2) (As := [.ref (ad (17 + 6 * v)), .int (zi (-1))]) (rest := []) X (c_Arrays_fill l D cs ad zt hi JA (17 + 6 * v) 24 (by omega) (sh_Lbehind cs ad hv) (by decide) (-1)) (g_Arrays_fill wd_406) rfl ⟨rfl, rfl⟩ (by decide +kernel) ⟨by decide, by decide⟩ rfl (Nat.le_of_ble_eq_true rfl) rfl d_Line_joinNeighbours_13 rfl ?_
  intro JB hJB
  have hO2 := (jn_init hn.2 hJA hJB).1
  refine mk_aloadn (nx := 17) X 0 d_Line_joinNeighbours_16 rfl rfl ?_
  refine mk_get (nx := 20) (v := .int (zi (JB (12 + 6 * v) 6))) X (12 + 6 * v) (by omega) (sh_Line cs ad (show v < 4 by omega) _) rfl in_Line 6 (by decide) wd_141 rfl rfl d_Line_joinNeighbours_17 rfl ?_
  rw [show JB (12 + 6 * v) 6 = cbg c v (cn c) from ((hO2 (12 + 6 * v) 6 (by omega) (by omega)).trans (hF.2.1))]
  refine mk_aloadn (nx := 21) X 0 d_Line_joinNeighbours_20 rfl rfl ?_
  refine mk_get (nx := 24) (v := .int (zi (JB (12 + 6 * v) 7))) X (12 + 6 * v) (by omega) (sh_Line cs ad (show v < 4 by omega) _) rfl in_Line 7 (by decide) wd_142 rfl rfl d_Line_joinNeighbours_21 rfl ?_
  rw [show JB (12 + 6 * v) 7 = c 0 6 from ((hO2 (12 + 6 * v) 7 (by omega) (by omega)).trans (hF.2.2.1))]
  refine mk_icmp_ne (tgt := 31) (nx := 27) X d_Line_joinNeighbours_24 (by omega) (by omega) (by decide) rfl (fun c24 => ?_) (fun c24 => ?_)
  · skip
    refine mk_iconst (nx := 32) X d_Line_joinNeighbours_31 rfl ?_
    refine mk_istoren (nx := 33) X [(2, .int (zi 0)), (0, .ref (ad (12 + 6 * v))), (1, .ref (ad 1))] d_Line_joinNeighbours_32 (by decide) rfl rfl ?_
    refine mk_iconst (nx := 34) X d_Line_joinNeighbours_33 rfl ?_
    refine mk_istoren (nx := 35) X [(3, .int (zi 0)), (2, .int (zi 0)), (0, .ref (ad (12 + 6 * v))), (1, .ref (ad 1))] d_Line_joinNeighbours_34 (by decide) rfl rfl ?_
    refine mk_lv [2, 3, 1, 0] rfl ?_
    exact L35 _ 0 0 JB (by omega) (by omega) (by first | exact jn_init hn.2 hJA hJB | (exfalso; omega) | exact jn_no (jnd_f (by rw [nxp, if_pos (by omega)]; omega)) hI (by omega) (by omega) | exact jn_no (jnd_f (by rw [nxp, if_neg (by omega)]; omega)) hI (by omega) (by omega) | exact jn_yes (jnd_t (by omega) (by omega) (by rw [nxp, if_pos (by omega)]; omega)) hI (by omega) (by omega) (J1 := JB) (by rw [nxp, if_pos (by omega)]; exact hJB) (by rw [nxp, if_pos (by omega)]; exact hJB) | exact jn_yes (jnd_t (by omega) (by omega) (by rw [nxp, if_neg (by omega)]; omega)) hI (by omega) (by omega) (J1 := JB) (by rw [nxp, if_neg (by omega)]; exact hJB) (by rw [nxp, if_neg (by omega)]; exact hJB)) (Nat.lt_succ_self _)
  · skip
    refine mk_iconst (nx := 28) X d_Line_joinNeighbours_27 rfl ?_
    refine mk_goto (tgt := 32) X d_Line_joinNeighbours_28 (by decide) ?_
    refine mk_istoren (nx := 33) X [(2, .int (zi 1)), (0, .ref (ad (12 + 6 * v))), (1, .ref (ad 1))] d_Line_joinNeighbours_32 (by decide) rfl rfl ?_
    refine mk_iconst (nx := 34) X d_Line_joinNeighbours_33 rfl ?_
    refine mk_istoren (nx := 35) X [(3, .int (zi 0)), (2, .int (zi 1)), (0, .ref (ad (12 + 6 * v))), (1, .ref (ad 1))] d_Line_joinNeighbours_34 (by decide) rfl rfl ?_
    refine mk_lv [2, 3, 1, 0] rfl ?_
    exact L35 _ 0 1 JB (by omega) (by omega) (by first | exact jn_init hn.2 hJA hJB | (exfalso; omega) | exact jn_no (jnd_f (by rw [nxp, if_pos (by omega)]; omega)) hI (by omega) (by omega) | exact jn_no (jnd_f (by rw [nxp, if_neg (by omega)]; omega)) hI (by omega) (by omega) | exact jn_yes (jnd_t (by omega) (by omega) (by rw [nxp, if_pos (by omega)]; omega)) hI (by omega) (by omega) (J1 := JB) (by rw [nxp, if_pos (by omega)]; exact hJB) (by rw [nxp, if_pos (by omega)]; exact hJB) | exact jn_yes (jnd_t (by omega) (by omega) (by rw [nxp, if_neg (by omega)]; omega)) hI (by omega) (by omega) (J1 := JB) (by rw [nxp, if_neg (by omega)]; exact hJB) (by rw [nxp, if_neg (by omega)]; exact hJB)) (Nat.lt_succ_self _)
end
section
theorem cmN_fr {c I J : Wo} (h : ∀ a b, a < 4 → J a b = I a b) (hm : cmN c I) : cmN c J := ⟨by rw [h 1 2 (by omega)]; exact hm.1, fun j hj => by rw [h 2 j (by omega), h 3 j (by omega)]; exact hm.2 j hj⟩
section LY2
variable {c I J K : Wo} {v : Nat} {x : Int}
theorem ly_init (e : J = up2 (up2 (up2 (up2 (up2 (up2 (up2 I (12 + 6 * v) 10 (c (3 + v) 0)) (12 + 6 * v) 11 x) (12 + 6 * v) 8 (c (3 + v) 1)) (12 + 6 * v) 9 (c (3 + v) 2)) (12 + 6 * v) 7 (c 0 6)) (12 + 6 * v) 5 (c 0 0)) (12 + 6 * v) 6 0) (hx : x = (if ziand (c (3 + v) 3) 1 = 0 then 0 else 1)) : LyI c I J v 0 := by
  subst e
  refine ⟨fun a b h => by simp only [up2_n (show a ≠ 12 + 6 * v by omega)], ?_, by rw [up2_s, up1_s, cbg_0], lt_0⟩
  simp only [up2_s]
  simpa [up1] using hx
theorem ly_F (h : LyI c I J v (cn c)) : LnF c J v := ⟨h.2.1.1, h.2.2.1, h.2.1.2.1, h.2.1.2.2.1, h.2.1.2.2.2.1, h.2.1.2.2.2.2.1, h.2.1.2.2.2.2.2⟩
theorem ly_B (h : LyI c I J v (cn c)) : LnB c J v := h.2.2.2
theorem LnF_fr (h : ∀ b, K (12 + 6 * v) b = J (12 + 6 * v) b) (hF : LnF c J v) : LnF c K v := by
  unfold LnF at hF ⊢
  simpa only [h] using hF
theorem LnB_fr (h : ∀ b, K (13 + 6 * v) b = J (13 + 6 * v) b ∧ K (14 + 6 * v) b = J (14 + 6 * v) b) (hB : LnB c J v) : LnB c K v := fun p hp => by rw [(h p).1, (h p).2]; exact hB p hp
end LY2

-- CanonMaker$Line.lay(LCanonMaker$Subject;LCanonMaker$Voice;I)V
theorem d_Line_lay_0 : decode prog_4_method_2_code 0 = .ok (.aload_n 2, 1) := by decide +kernel
theorem d_Line_lay_1 : decode prog_4_method_2_code 1 = .ok (.getfield 27, 3) := by decide +kernel
theorem d_Line_lay_4 : decode prog_4_method_2_code 4 = .ok (.iconst 2, 1) := by decide +kernel
theorem d_Line_lay_5 : decode prog_4_method_2_code 5 = .ok (.iand, 1) := by decide +kernel
theorem d_Line_lay_6 : decode prog_4_method_2_code 6 = .ok (.ifCond .eq 7, 3) := by decide +kernel
theorem d_Line_lay_9 : decode prog_4_method_2_code 9 = .ok (.iconst 1, 1) := by decide +kernel
theorem d_Line_lay_10 : decode prog_4_method_2_code 10 = .ok (.goto 4, 3) := by decide +kernel
theorem d_Line_lay_13 : decode prog_4_method_2_code 13 = .ok (.iconst 0, 1) := by decide +kernel
theorem d_Line_lay_14 : decode prog_4_method_2_code 14 = .ok (.istore 4, 2) := by decide +kernel
theorem d_Line_lay_16 : decode prog_4_method_2_code 16 = .ok (.aload_n 0, 1) := by decide +kernel
theorem d_Line_lay_17 : decode prog_4_method_2_code 17 = .ok (.aload_n 2, 1) := by decide +kernel
theorem d_Line_lay_18 : decode prog_4_method_2_code 18 = .ok (.getfield 33, 3) := by decide +kernel
theorem d_Line_lay_21 : decode prog_4_method_2_code 21 = .ok (.putfield 37, 3) := by decide +kernel
theorem d_Line_lay_24 : decode prog_4_method_2_code 24 = .ok (.aload_n 0, 1) := by decide +kernel
theorem d_Line_lay_25 : decode prog_4_method_2_code 25 = .ok (.aload_n 2, 1) := by decide +kernel
theorem d_Line_lay_26 : decode prog_4_method_2_code 26 = .ok (.getfield 27, 3) := by decide +kernel
theorem d_Line_lay_29 : decode prog_4_method_2_code 29 = .ok (.iconst 1, 1) := by decide +kernel
theorem d_Line_lay_30 : decode prog_4_method_2_code 30 = .ok (.iand, 1) := by decide +kernel
theorem d_Line_lay_31 : decode prog_4_method_2_code 31 = .ok (.ifCond .eq 7, 3) := by decide +kernel
theorem d_Line_lay_34 : decode prog_4_method_2_code 34 = .ok (.iconst 1, 1) := by decide +kernel
theorem d_Line_lay_35 : decode prog_4_method_2_code 35 = .ok (.goto 4, 3) := by decide +kernel
theorem d_Line_lay_38 : decode prog_4_method_2_code 38 = .ok (.iconst 0, 1) := by decide +kernel
theorem d_Line_lay_39 : decode prog_4_method_2_code 39 = .ok (.putfield 38, 3) := by decide +kernel
theorem d_Line_lay_42 : decode prog_4_method_2_code 42 = .ok (.aload_n 0, 1) := by decide +kernel
theorem d_Line_lay_43 : decode prog_4_method_2_code 43 = .ok (.aload_n 2, 1) := by decide +kernel
theorem d_Line_lay_44 : decode prog_4_method_2_code 44 = .ok (.getfield 41, 3) := by decide +kernel
theorem d_Line_lay_47 : decode prog_4_method_2_code 47 = .ok (.putfield 44, 3) := by decide +kernel
theorem d_Line_lay_50 : decode prog_4_method_2_code 50 = .ok (.aload_n 0, 1) := by decide +kernel
theorem d_Line_lay_51 : decode prog_4_method_2_code 51 = .ok (.aload_n 2, 1) := by decide +kernel
theorem d_Line_lay_52 : decode prog_4_method_2_code 52 = .ok (.getfield 45, 3) := by decide +kernel
theorem d_Line_lay_55 : decode prog_4_method_2_code 55 = .ok (.putfield 48, 3) := by decide +kernel
theorem d_Line_lay_58 : decode prog_4_method_2_code 58 = .ok (.aload_n 0, 1) := by decide +kernel
theorem d_Line_lay_59 : decode prog_4_method_2_code 59 = .ok (.iload_n 3, 1) := by decide +kernel
theorem d_Line_lay_60 : decode prog_4_method_2_code 60 = .ok (.putfield 49, 3) := by decide +kernel
theorem d_Line_lay_63 : decode prog_4_method_2_code 63 = .ok (.aload_n 0, 1) := by decide +kernel
theorem d_Line_lay_64 : decode prog_4_method_2_code 64 = .ok (.aload_n 1, 1) := by decide +kernel
theorem d_Line_lay_65 : decode prog_4_method_2_code 65 = .ok (.getfield 52, 3) := by decide +kernel
theorem d_Line_lay_68 : decode prog_4_method_2_code 68 = .ok (.putfield 57, 3) := by decide +kernel
theorem d_Line_lay_71 : decode prog_4_method_2_code 71 = .ok (.aload_n 0, 1) := by decide +kernel
theorem d_Line_lay_72 : decode prog_4_method_2_code 72 = .ok (.iconst 0, 1) := by decide +kernel
theorem d_Line_lay_73 : decode prog_4_method_2_code 73 = .ok (.putfield 58, 3) := by decide +kernel
theorem d_Line_lay_76 : decode prog_4_method_2_code 76 = .ok (.iconst 0, 1) := by decide +kernel
theorem d_Line_lay_77 : decode prog_4_method_2_code 77 = .ok (.istore 5, 2) := by decide +kernel
theorem d_Line_lay_79 : decode prog_4_method_2_code 79 = .ok (.iload 5, 2) := by decide +kernel
theorem d_Line_lay_81 : decode prog_4_method_2_code 81 = .ok (.aload_n 0, 1) := by decide +kernel
theorem d_Line_lay_82 : decode prog_4_method_2_code 82 = .ok (.getfield 57, 3) := by decide +kernel
theorem d_Line_lay_85 : decode prog_4_method_2_code 85 = .ok (.if_icmp .ge 72, 3) := by decide +kernel
theorem d_Line_lay_88 : decode prog_4_method_2_code 88 = .ok (.aload_n 0, 1) := by decide +kernel
theorem d_Line_lay_89 : decode prog_4_method_2_code 89 = .ok (.getfield 9, 3) := by decide +kernel
theorem d_Line_lay_92 : decode prog_4_method_2_code 92 = .ok (.iload 5, 2) := by decide +kernel
theorem d_Line_lay_94 : decode prog_4_method_2_code 94 = .ok (.iload 4, 2) := by decide +kernel
theorem d_Line_lay_96 : decode prog_4_method_2_code 96 = .ok (.ifCond .eq 15, 3) := by decide +kernel
theorem d_Line_lay_99 : decode prog_4_method_2_code 99 = .ok (.aload_n 0, 1) := by decide +kernel
theorem d_Line_lay_100 : decode prog_4_method_2_code 100 = .ok (.getfield 57, 3) := by decide +kernel
theorem d_Line_lay_103 : decode prog_4_method_2_code 103 = .ok (.iconst 1, 1) := by decide +kernel
theorem d_Line_lay_104 : decode prog_4_method_2_code 104 = .ok (.isub, 1) := by decide +kernel
theorem d_Line_lay_105 : decode prog_4_method_2_code 105 = .ok (.iload 5, 2) := by decide +kernel
theorem d_Line_lay_107 : decode prog_4_method_2_code 107 = .ok (.isub, 1) := by decide +kernel
theorem d_Line_lay_108 : decode prog_4_method_2_code 108 = .ok (.goto 5, 3) := by decide +kernel
theorem d_Line_lay_111 : decode prog_4_method_2_code 111 = .ok (.iload 5, 2) := by decide +kernel
theorem d_Line_lay_113 : decode prog_4_method_2_code 113 = .ok (.iastore, 1) := by decide +kernel
theorem d_Line_lay_114 : decode prog_4_method_2_code 114 = .ok (.aload_n 0, 1) := by decide +kernel
theorem d_Line_lay_115 : decode prog_4_method_2_code 115 = .ok (.getfield 15, 3) := by decide +kernel
theorem d_Line_lay_118 : decode prog_4_method_2_code 118 = .ok (.iload 5, 2) := by decide +kernel
theorem d_Line_lay_120 : decode prog_4_method_2_code 120 = .ok (.aload_n 0, 1) := by decide +kernel
theorem d_Line_lay_121 : decode prog_4_method_2_code 121 = .ok (.getfield 58, 3) := by decide +kernel
theorem d_Line_lay_124 : decode prog_4_method_2_code 124 = .ok (.iastore, 1) := by decide +kernel
theorem d_Line_lay_125 : decode prog_4_method_2_code 125 = .ok (.aload_n 0, 1) := by decide +kernel
theorem d_Line_lay_126 : decode prog_4_method_2_code 126 = .ok (.dup, 1) := by decide +kernel
theorem d_Line_lay_127 : decode prog_4_method_2_code 127 = .ok (.getfield 58, 3) := by decide +kernel
theorem d_Line_lay_130 : decode prog_4_method_2_code 130 = .ok (.aload_n 1, 1) := by decide +kernel
theorem d_Line_lay_131 : decode prog_4_method_2_code 131 = .ok (.getfield 61, 3) := by decide +kernel
theorem d_Line_lay_134 : decode prog_4_method_2_code 134 = .ok (.aload_n 0, 1) := by decide +kernel
theorem d_Line_lay_135 : decode prog_4_method_2_code 135 = .ok (.getfield 9, 3) := by decide +kernel
theorem d_Line_lay_138 : decode prog_4_method_2_code 138 = .ok (.iload 5, 2) := by decide +kernel
theorem d_Line_lay_140 : decode prog_4_method_2_code 140 = .ok (.iaload, 1) := by decide +kernel
theorem d_Line_lay_141 : decode prog_4_method_2_code 141 = .ok (.iaload, 1) := by decide +kernel
theorem d_Line_lay_142 : decode prog_4_method_2_code 142 = .ok (.aload_n 2, 1) := by decide +kernel
theorem d_Line_lay_143 : decode prog_4_method_2_code 143 = .ok (.getfield 64, 3) := by decide +kernel
theorem d_Line_lay_146 : decode prog_4_method_2_code 146 = .ok (.imul, 1) := by decide +kernel
theorem d_Line_lay_147 : decode prog_4_method_2_code 147 = .ok (.iadd, 1) := by decide +kernel
theorem d_Line_lay_148 : decode prog_4_method_2_code 148 = .ok (.putfield 58, 3) := by decide +kernel
theorem d_Line_lay_151 : decode prog_4_method_2_code 151 = .ok (.iinc 5 1, 3) := by decide +kernel
theorem d_Line_lay_154 : decode prog_4_method_2_code 154 = .ok (.goto (-75), 3) := by decide +kernel
theorem d_Line_lay_157 : decode prog_4_method_2_code 157 = .ok (.aload_n 0, 1) := by decide +kernel
theorem d_Line_lay_158 : decode prog_4_method_2_code 158 = .ok (.aload_n 1, 1) := by decide +kernel
theorem d_Line_lay_159 : decode prog_4_method_2_code 159 = .ok (.invokevirtual 67, 3) := by decide +kernel
theorem d_Line_lay_162 : decode prog_4_method_2_code 162 = .ok (.return_, 1) := by decide +kernel
abbrev rm_Line_lay : Room := { frames := 2, cells := 0, slots := 0, locals := 48 }
set_option maxHeartbeats 4000000 in
set_option maxRecDepth 100000 in
theorem c_Line_lay (l : Launch) (D : va_G) (cs : Nat → ClassId) (ad : Nat → Nat) (zt : Nat) (hi : cm_inj ad) (c I : Wo) (hw : wfN c) (hS : wfS c) (hV : wfV c) (hm : cmN c I) (v : Nat) (hv : v < 4) (hVo : I (44 + v) 0 = c (3 + v) 0 ∧ I (44 + v) 1 = c (3 + v) 1 ∧ I (44 + v) 2 = c (3 + v) 2 ∧ I (44 + v) 3 = c (3 + v) 3 ∧ I (44 + v) 4 = c (3 + v) 4) : cm_C l D cs ad zt y_Line_lay ws_Line_lay rm_Line_lay [.ref (ad (12 + 6 * v)), .ref (ad 1), .ref (ad (44 + v)), .int (zi (c 0 6))] I (mk_pv (fun J => LnF c J v ∧ LnB c J v ∧ LnN c J v ∧ (∀ a b, (a < 12 + 6 * v ∨ 17 + 6 * v < a) → J a b = I a b))) := by
  refine mk_metv (own := "CanonMaker$Line") (Ts := wA) hi (Nat.le_refl _) (by decide) rfl (fun w h => List.mem_cons_of_mem _ h) rfl (Nat.le_of_ble_eq_true rfl) [(0, .ref (ad (12 + 6 * v))), (1, .ref (ad 1)), (2, .ref (ad (44 + v))), (3, .int (zi (c 0 6)))] rfl ?_
  intro p_ e_ s_ m_ as_ bl_ me_ co_ Q_ X hret
  have hn := cn_e hw
  have hv5 := hV.1 v hv
  obtain ⟨hlo, hsc, hbt, hru, hrd, hst⟩ := id hS
  have L79 : ∀ nf : Nat, ∀ (p : Nat) (bk : Int) (J : Wo), (p ≤ cn c) → ((bk = 0 ∧ ziand (c (3 + v) 3) 2 = 0) ∨ (bk = 1 ∧ ¬ ziand (c (3 + v) 3) 2 = 0)) → (LyI c I J v p) → 24 - p < nf → mk_A p_ l e_ rm_Line_lay s_ m_ as_ bl_ me_ co_ Q_ 6 D cmcl (cm_sh cs ad) 48 48 ad J [(0, .ref (ad (12 + 6 * v))), (1, .ref (ad 1)), (2, .ref (ad (44 + v))), (3, .int (zi (c 0 6))), (4, .int (zi bk)), (5, .int (zi (p : Int)))] 79 [] := by
    intro nf
    induction nf with
    | zero => intro p bk J hp hbk hI hn; exact absurd hn (Nat.not_lt_zero _)
    | succ nf ih79 =>
      intro p bk J hp hbk hI hn79
      refine mk_iload (nx := 81) X 5 d_Line_lay_79 rfl rfl ?_
      refine mk_aloadn (nx := 82) X 0 d_Line_lay_81 rfl rfl ?_
      refine mk_get (nx := 85) (v := .int (zi (J (12 + 6 * v) 5))) X (12 + 6 * v) (by omega) (sh_Line cs ad (show v < 4 by omega) _) rfl in_Line 5 (by decide) wd_139 rfl rfl d_Line_lay_82 rfl ?_
      rw [show J (12 + 6 * v) 5 = c 0 0 from hI.2.1.1]
      refine mk_icmp_ge (tgt := 157) (nx := 88) X d_Line_lay_85 (by omega) (by omega) (by decide) rfl (fun c85 => ?_) (fun c85 => ?_)
      · skip
        have epn : p = cn c := by omega
        have hI : LyI c I J v (cn c) := by rw [← epn]; exact hI
        refine mk_aloadn (nx := 158) X 0 d_Line_lay_157 rfl rfl ?_
        refine mk_aloadn (nx := 159) X 1 d_Line_lay_158 rfl rfl ?_
        refine mk_callVv (nx := 162) (n := 1) (As := [.ref (ad 1)]) (rest := []) X (12 + 6 * v) (by omega) (sh_Line cs ad (show v < 4 by omega) _) rfl (c_Line_joinNeighbours l D cs ad zt hi c J hw hS hV (cmN_fr (fun a b h => hI.1 a b (Or.inl (by omega))) hm) v hv (ly_F hI) (ly_B hI)) (g_Line_joinNeighbours wd_402) rfl ⟨rfl, rfl⟩ (by decide +kernel) ⟨by decide, by decide⟩ rfl (Nat.le_of_ble_eq_true rfl) rfl d_Line_lay_159 rfl ?_
        intro JA hJA
        exact hret _ _ _ d_Line_lay_162 (by exact ⟨LnF_fr (fun b => hJA.2 _ b (by omega) (by omega)) (ly_F hI), LnB_fr (fun b => ⟨hJA.2 _ b (by omega) (by omega), hJA.2 _ b (by omega) (by omega)⟩) (ly_B hI), hJA.1, fun a b h => (hJA.2 a b (by omega) (by omega)).trans (hI.1 a b (by omega))⟩)
      · skip
        have hcl := cnt_lt (c := c) (v := v) (show p < cn c by omega)
        have hln := (hw.2 (cnt c v p) (by omega)).2
        have hbb := cbg_b hw hV hv (show p ≤ cn c by omega)
        refine mk_aloadn (nx := 89) X 0 d_Line_lay_88 rfl rfl ?_
        refine mk_get (nx := 92) (v := .ref (ad (13 + 6 * v))) X (12 + 6 * v) (by omega) (sh_Line cs ad (show v < 4 by omega) _) rfl in_Line 0 (by decide) wd_126 rfl rfl d_Line_lay_89 rfl ?_
        refine mk_iload (nx := 94) X 5 d_Line_lay_92 rfl rfl ?_
        refine mk_iload (nx := 96) X 4 d_Line_lay_94 rfl rfl ?_
        refine mk_if_eq (tgt := 111) (nx := 99) X d_Line_lay_96 (by omega) (by decide) rfl (fun c96 => ?_) (fun c96 => ?_)
        · skip
          refine mk_iload (nx := 113) X 5 d_Line_lay_111 rfl rfl ?_
          refine mk_nm (fun nn hnn => ?_)
          obtain rfl : nn = (cnt c v p : Int) := by
            first | (unfold cnt nt; rw [if_pos (by omega)]; omega) | (unfold cnt nt; rw [if_neg (by omega)]; omega)
          refine mk_iast (nx := 114) (j := p) X (13 + 6 * v) 0 (by omega) (sh_Lnotes cs ad (show v < 4 by omega)) rfl (by omega) (by omega) (by decide) rfl d_Line_lay_113 rfl ?_
          obtain ⟨J1, hJ1⟩ : ∃ W_ : Wo, W_ = up2 J (13 + 6 * v) p (cnt c v p : Int) := ⟨_, rfl⟩
          refine mk_same hJ1.symm ?_
          have hJ1s : J1 (13 + 6 * v) p = (cnt c v p : Int) := hJ1 ▸ up2_ss J (13 + 6 * v) p (cnt c v p : Int)
          have hJ1o : ∀ a b, (a ≠ (13 + 6 * v) ∨ b ≠ p) → J1 a b = J a b := hJ1 ▸ up2_o J (13 + 6 * v) p (cnt c v p : Int)
          refine mk_aloadn (nx := 115) X 0 d_Line_lay_114 rfl rfl ?_
          refine mk_get (nx := 118) (v := .ref (ad (14 + 6 * v))) X (12 + 6 * v) (by omega) (sh_Line cs ad (show v < 4 by omega) _) rfl in_Line 1 (by decide) wd_128 rfl rfl d_Line_lay_115 rfl ?_
          refine mk_iload (nx := 120) X 5 d_Line_lay_118 rfl rfl ?_
          refine mk_aloadn (nx := 121) X 0 d_Line_lay_120 rfl rfl ?_
          refine mk_get (nx := 124) (v := .int (zi (J1 (12 + 6 * v) 6))) X (12 + 6 * v) (by omega) (sh_Line cs ad (show v < 4 by omega) _) rfl in_Line 6 (by decide) wd_141 rfl rfl d_Line_lay_121 rfl ?_
          rw [show J1 (12 + 6 * v) 6 = J (12 + 6 * v) 6 from hJ1o (12 + 6 * v) 6 (Or.inl (by omega))]
          rw [show J (12 + 6 * v) 6 = cbg c v p from hI.2.2.1]
          refine mk_iast (nx := 125) (j := p) X (14 + 6 * v) 0 (by omega) (sh_Lbegins cs ad (show v < 4 by omega)) rfl (by omega) (by omega) (by decide) rfl d_Line_lay_124 rfl ?_
          obtain ⟨J2, hJ2⟩ : ∃ W_ : Wo, W_ = up2 J1 (14 + 6 * v) p (cbg c v p) := ⟨_, rfl⟩
          refine mk_same hJ2.symm ?_
          have hJ2s : J2 (14 + 6 * v) p = cbg c v p := hJ2 ▸ up2_ss J1 (14 + 6 * v) p (cbg c v p)
          have hJ2o : ∀ a b, (a ≠ (14 + 6 * v) ∨ b ≠ p) → J2 a b = J1 a b := hJ2 ▸ up2_o J1 (14 + 6 * v) p (cbg c v p)
          refine mk_aloadn (nx := 126) X 0 d_Line_lay_125 rfl rfl ?_
          refine mk_dup (nx := 127) X d_Line_lay_126 rfl rfl ?_
          refine mk_get (nx := 130) (v := .int (zi (J2 (12 + 6 * v) 6))) X (12 + 6 * v) (by omega) (sh_Line cs ad (show v < 4 by omega) _) rfl in_Line 6 (by decide) wd_141 rfl rfl d_Line_lay_127 rfl ?_
          rw [show J2 (12 + 6 * v) 6 = J1 (12 + 6 * v) 6 from hJ2o (12 + 6 * v) 6 (Or.inl (by omega))]
          rw [show J1 (12 + 6 * v) 6 = J (12 + 6 * v) 6 from hJ1o (12 + 6 * v) 6 (Or.inl (by omega))]
          rw [show J (12 + 6 * v) 6 = cbg c v p from hI.2.2.1]
          refine mk_aloadn (nx := 131) X 1 d_Line_lay_130 rfl rfl ?_
          refine mk_get (nx := 134) (v := .ref (ad 3)) X 1 (by decide) (sh_Subject cs ad _) rfl in_Subject 1 (by decide) wd_69 rfl rfl d_Line_lay_131 rfl ?_
          refine mk_aloadn (nx := 135) X 0 d_Line_lay_134 rfl rfl ?_
          refine mk_get (nx := 138) (v := .ref (ad (13 + 6 * v))) X (12 + 6 * v) (by omega) (sh_Line cs ad (show v < 4 by omega) _) rfl in_Line 0 (by decide) wd_126 rfl rfl d_Line_lay_135 rfl ?_
          refine mk_iload (nx := 140) X 5 d_Line_lay_138 rfl rfl ?_
          refine mk_iald (nx := 141) (j := p) X (13 + 6 * v) 0 (by omega) (sh_Lnotes cs ad (show v < 4 by omega) _) rfl (by omega) (by omega) (by decide) rfl d_Line_lay_140 rfl ?_
          rw [show J2 (13 + 6 * v) p = J1 (13 + 6 * v) p from hJ2o (13 + 6 * v) p (Or.inl (by omega))]
          rw [hJ1s]
          refine mk_iald (nx := 142) (j := (cnt c v p)) X 3 0 (by decide) (sh_Slen cs ad _) rfl (by omega) (by omega) (by decide) rfl d_Line_lay_141 rfl ?_
          rw [show J2 3 (cnt c v p) = J1 3 (cnt c v p) from hJ2o 3 (cnt c v p) (Or.inl (by omega))]
          rw [show J1 3 (cnt c v p) = J 3 (cnt c v p) from hJ1o 3 (cnt c v p) (Or.inl (by omega))]
          rw [show J 3 (cnt c v p) = c 2 (cnt c v p) from ((hI.1 (3) (cnt c v p) (Or.inl (by omega))).trans ((hm.2 (cnt c v p) (by omega)).2))]
          refine mk_aloadn (nx := 143) X 2 d_Line_lay_142 rfl rfl ?_
          refine mk_get (nx := 146) (v := .int (zi (J2 (44 + v) 4))) X (44 + v) (by omega) (sh_Voice cs ad (show v < 4 by omega) _) rfl in_Voice 4 (by decide) wd_274 rfl rfl d_Line_lay_143 rfl ?_
          rw [show J2 (44 + v) 4 = J1 (44 + v) 4 from hJ2o (44 + v) 4 (Or.inl (by omega))]
          rw [show J1 (44 + v) 4 = J (44 + v) 4 from hJ1o (44 + v) 4 (Or.inl (by omega))]
          rw [show J (44 + v) 4 = c (3 + v) 4 from ((hI.1 (44 + v) 4 (Or.inr (by omega))).trans (hVo.2.2.2.2))]
          refine mk_imul (nx := 147) X d_Line_lay_146 rfl ?_
          refine mk_iadd (nx := 148) X d_Line_lay_147 rfl ?_
          refine mk_putf (nx := 151) (ty := .int) X t_Line t_Line_ok n_Line (12 + 6 * v) (by omega) (sh_Line cs ad (show v < 4 by omega) _) rfl in_Line 6 (by decide) wd_141 rfl rfl (by decide +kernel) rfl rfl (Nat.le_of_ble_eq_true rfl) ((sh_Line cs ad (show v < 4 by omega) _).trans rfl) d_Line_lay_148 rfl ?_
          obtain ⟨J3, hJ3⟩ : ∃ W_ : Wo, W_ = up2 J2 (12 + 6 * v) 6 ((cbg c v p) + ((c 2 (cnt c v p)) * (c (3 + v) 4))) := ⟨_, rfl⟩
          refine mk_same hJ3.symm ?_
          have hJ3s : J3 (12 + 6 * v) 6 = (cbg c v p) + ((c 2 (cnt c v p)) * (c (3 + v) 4)) := hJ3 ▸ up2_ss J2 (12 + 6 * v) 6 ((cbg c v p) + ((c 2 (cnt c v p)) * (c (3 + v) 4)))
          have hJ3o : ∀ a b, (a ≠ (12 + 6 * v) ∨ b ≠ 6) → J3 a b = J2 a b := hJ3 ▸ up2_o J2 (12 + 6 * v) 6 ((cbg c v p) + ((c 2 (cnt c v p)) * (c (3 + v) 4)))
          refine mk_iinc (nx := 154) X 5 [(5, .int (zi ((p : Int) + 1))), (0, .ref (ad (12 + 6 * v))), (1, .ref (ad 1)), (2, .ref (ad (44 + v))), (3, .int (zi (c 0 6))), (4, .int (zi bk))] d_Line_lay_151 rfl (by decide) rfl rfl ?_
          refine mk_goto (tgt := 79) X d_Line_lay_154 (by decide) ?_
          refine mk_lv [1, 2, 3, 4, 5, 0] rfl ?_
          exact ih79 (p + 1) bk J3 (by omega) (by omega) (by first | exact ly_init (by rw [hJ3, hJ2, hJ1]) (by rw [if_pos (by omega)]) | exact ly_init (by rw [hJ3, hJ2, hJ1]) (by rw [if_neg (by omega)]) | (rw [hJ3, hJ2, hJ1]; exact ly_step hI rfl rfl rfl)) (by omega)
        · skip
          refine mk_aloadn (nx := 100) X 0 d_Line_lay_99 rfl rfl ?_
          refine mk_get (nx := 103) (v := .int (zi (J (12 + 6 * v) 5))) X (12 + 6 * v) (by omega) (sh_Line cs ad (show v < 4 by omega) _) rfl in_Line 5 (by decide) wd_139 rfl rfl d_Line_lay_100 rfl ?_
          rw [show J (12 + 6 * v) 5 = c 0 0 from hI.2.1.1]
          refine mk_iconst (nx := 104) X d_Line_lay_103 rfl ?_
          refine mk_isub (nx := 105) X d_Line_lay_104 rfl ?_
          refine mk_iload (nx := 107) X 5 d_Line_lay_105 rfl rfl ?_
          refine mk_isub (nx := 108) X d_Line_lay_107 rfl ?_
          refine mk_goto (tgt := 113) X d_Line_lay_108 (by decide) ?_
          refine mk_nm (fun nn hnn => ?_)
          obtain rfl : nn = (cnt c v p : Int) := by
            first | (unfold cnt nt; rw [if_pos (by omega)]; omega) | (unfold cnt nt; rw [if_neg (by omega)]; omega)
          refine mk_iast (nx := 114) (j := p) X (13 + 6 * v) 0 (by omega) (sh_Lnotes cs ad (show v < 4 by omega)) rfl (by omega) (by omega) (by decide) rfl d_Line_lay_113 rfl ?_
          obtain ⟨J4, hJ4⟩ : ∃ W_ : Wo, W_ = up2 J (13 + 6 * v) p (cnt c v p : Int) := ⟨_, rfl⟩
          refine mk_same hJ4.symm ?_
          have hJ4s : J4 (13 + 6 * v) p = (cnt c v p : Int) := hJ4 ▸ up2_ss J (13 + 6 * v) p (cnt c v p : Int)
          have hJ4o : ∀ a b, (a ≠ (13 + 6 * v) ∨ b ≠ p) → J4 a b = J a b := hJ4 ▸ up2_o J (13 + 6 * v) p (cnt c v p : Int)
          refine mk_aloadn (nx := 115) X 0 d_Line_lay_114 rfl rfl ?_
          refine mk_get (nx := 118) (v := .ref (ad (14 + 6 * v))) X (12 + 6 * v) (by omega) (sh_Line cs ad (show v < 4 by omega) _) rfl in_Line 1 (by decide) wd_128 rfl rfl d_Line_lay_115 rfl ?_
          refine mk_iload (nx := 120) X 5 d_Line_lay_118 rfl rfl ?_
          refine mk_aloadn (nx := 121) X 0 d_Line_lay_120 rfl rfl ?_
          refine mk_get (nx := 124) (v := .int (zi (J4 (12 + 6 * v) 6))) X (12 + 6 * v) (by omega) (sh_Line cs ad (show v < 4 by omega) _) rfl in_Line 6 (by decide) wd_141 rfl rfl d_Line_lay_121 rfl ?_
          rw [show J4 (12 + 6 * v) 6 = J (12 + 6 * v) 6 from hJ4o (12 + 6 * v) 6 (Or.inl (by omega))]
          rw [show J (12 + 6 * v) 6 = cbg c v p from hI.2.2.1]
          refine mk_iast (nx := 125) (j := p) X (14 + 6 * v) 0 (by omega) (sh_Lbegins cs ad (show v < 4 by omega)) rfl (by omega) (by omega) (by decide) rfl d_Line_lay_124 rfl ?_
          obtain ⟨J5, hJ5⟩ : ∃ W_ : Wo, W_ = up2 J4 (14 + 6 * v) p (cbg c v p) := ⟨_, rfl⟩
          refine mk_same hJ5.symm ?_
          have hJ5s : J5 (14 + 6 * v) p = cbg c v p := hJ5 ▸ up2_ss J4 (14 + 6 * v) p (cbg c v p)
          have hJ5o : ∀ a b, (a ≠ (14 + 6 * v) ∨ b ≠ p) → J5 a b = J4 a b := hJ5 ▸ up2_o J4 (14 + 6 * v) p (cbg c v p)
          refine mk_aloadn (nx := 126) X 0 d_Line_lay_125 rfl rfl ?_
          refine mk_dup (nx := 127) X d_Line_lay_126 rfl rfl ?_
          refine mk_get (nx := 130) (v := .int (zi (J5 (12 + 6 * v) 6))) X (12 + 6 * v) (by omega) (sh_Line cs ad (show v < 4 by omega) _) rfl in_Line 6 (by decide) wd_141 rfl rfl d_Line_lay_127 rfl ?_
          rw [show J5 (12 + 6 * v) 6 = J4 (12 + 6 * v) 6 from hJ5o (12 + 6 * v) 6 (Or.inl (by omega))]
          rw [show J4 (12 + 6 * v) 6 = J (12 + 6 * v) 6 from hJ4o (12 + 6 * v) 6 (Or.inl (by omega))]
          rw [show J (12 + 6 * v) 6 = cbg c v p from hI.2.2.1]
          refine mk_aloadn (nx := 131) X 1 d_Line_lay_130 rfl rfl ?_
          refine mk_get (nx := 134) (v := .ref (ad 3)) X 1 (by decide) (sh_Subject cs ad _) rfl in_Subject 1 (by decide) wd_69 rfl rfl d_Line_lay_131 rfl ?_
          refine mk_aloadn (nx := 135) X 0 d_Line_lay_134 rfl rfl ?_
          refine mk_get (nx := 138) (v := .ref (ad (13 + 6 * v))) X (12 + 6 * v) (by omega) (sh_Line cs ad (show v < 4 by omega) _) rfl in_Line 0 (by decide) wd_126 rfl rfl d_Line_lay_135 rfl ?_
          refine mk_iload (nx := 140) X 5 d_Line_lay_138 rfl rfl ?_
          refine mk_iald (nx := 141) (j := p) X (13 + 6 * v) 0 (by omega) (sh_Lnotes cs ad (show v < 4 by omega) _) rfl (by omega) (by omega) (by decide) rfl d_Line_lay_140 rfl ?_
          rw [show J5 (13 + 6 * v) p = J4 (13 + 6 * v) p from hJ5o (13 + 6 * v) p (Or.inl (by omega))]
          rw [hJ4s]
          refine mk_iald (nx := 142) (j := (cnt c v p)) X 3 0 (by decide) (sh_Slen cs ad _) rfl (by omega) (by omega) (by decide) rfl d_Line_lay_141 rfl ?_
          rw [show J5 3 (cnt c v p) = J4 3 (cnt c v p) from hJ5o 3 (cnt c v p) (Or.inl (by omega))]
          rw [show J4 3 (cnt c v p) = J 3 (cnt c v p) from hJ4o 3 (cnt c v p) (Or.inl (by omega))]
          rw [show J 3 (cnt c v p) = c 2 (cnt c v p) from ((hI.1 (3) (cnt c v p) (Or.inl (by omega))).trans ((hm.2 (cnt c v p) (by omega)).2))]
          refine mk_aloadn (nx := 143) X 2 d_Line_lay_142 rfl rfl ?_
          refine mk_get (nx := 146) (v := .int (zi (J5 (44 + v) 4))) X (44 + v) (by omega) (sh_Voice cs ad (show v < 4 by omega) _) rfl in_Voice 4 (by decide) wd_274 rfl rfl d_Line_lay_143 rfl ?_
          rw [show J5 (44 + v) 4 = J4 (44 + v) 4 from hJ5o (44 + v) 4 (Or.inl (by omega))]
          rw [show J4 (44 + v) 4 = J (44 + v) 4 from hJ4o (44 + v) 4 (Or.inl (by omega))]
          rw [show J (44 + v) 4 = c (3 + v) 4 from ((hI.1 (44 + v) 4 (Or.inr (by omega))).trans (hVo.2.2.2.2))]
          refine mk_imul (nx := 147) X d_Line_lay_146 rfl ?_
          refine mk_iadd (nx := 148) X d_Line_lay_147 rfl ?_
          refine mk_putf (nx := 151) (ty := .int) X t_Line t_Line_ok n_Line (12 + 6 * v) (by omega) (sh_Line cs ad (show v < 4 by omega) _) rfl in_Line 6 (by decide) wd_141 rfl rfl (by decide +kernel) rfl rfl (Nat.le_of_ble_eq_true rfl) ((sh_Line cs ad (show v < 4 by omega) _).trans rfl) d_Line_lay_148 rfl ?_
          obtain ⟨J6, hJ6⟩ : ∃ W_ : Wo, W_ = up2 J5 (12 + 6 * v) 6 ((cbg c v p) + ((c 2 (cnt c v p)) * (c (3 + v) 4))) := ⟨_, rfl⟩
          refine mk_same hJ6.symm ?_
          have hJ6s : J6 (12 + 6 * v) 6 = (cbg c v p) + ((c 2 (cnt c v p)) * (c (3 + v) 4)) := hJ6 ▸ up2_ss J5 (12 + 6 * v) 6 ((cbg c v p) + ((c 2 (cnt c v p)) * (c (3 + v) 4)))
          have hJ6o : ∀ a b, (a ≠ (12 + 6 * v) ∨ b ≠ 6) → J6 a b = J5 a b := hJ6 ▸ up2_o J5 (12 + 6 * v) 6 ((cbg c v p) + ((c 2 (cnt c v p)) * (c (3 + v) 4)))
          refine mk_iinc (nx := 154) X 5 [(5, .int (zi ((p : Int) + 1))), (0, .ref (ad (12 + 6 * v))), (1, .ref (ad 1)), (2, .ref (ad (44 + v))), (3, .int (zi (c 0 6))), (4, .int (zi bk))] d_Line_lay_151 rfl (by decide) rfl rfl ?_
          refine mk_goto (tgt := 79) X d_Line_lay_154 (by decide) ?_
          refine mk_lv [1, 2, 3, 4, 5, 0] rfl ?_
          exact ih79 (p + 1) bk J6 (by omega) (by omega) (by first | exact ly_init (by rw [hJ6, hJ5, hJ4]) (by rw [if_pos (by omega)]) | exact ly_init (by rw [hJ6, hJ5, hJ4]) (by rw [if_neg (by omega)]) | (rw [hJ6, hJ5, hJ4]; exact ly_step hI rfl rfl rfl)) (by omega)
  refine mk_aloadn (nx := 1) X 2 d_Line_lay_0 rfl rfl ?_
  refine mk_get (nx := 4) (v := .int (zi (I (44 + v) 3))) X (44 + v) (by omega) (sh_Voice cs ad (show v < 4 by omega) _) rfl in_Voice 3 (by decide) wd_271 rfl rfl d_Line_lay_1 rfl ?_
  rw [show I (44 + v) 3 = c (3 + v) 3 from hVo.2.2.2.1]
  refine mk_iconst (nx := 5) X d_Line_lay_4 rfl ?_
  refine mk_iand (nx := 6) X d_Line_lay_5 rfl ?_
  refine mk_if_eq (tgt := 13) (nx := 9) X d_Line_lay_6 (by exact zi_rng _) (by decide) rfl (fun c6 => ?_) (fun c6 => ?_)
  · skip
    refine mk_iconst (nx := 14) X d_Line_lay_13 rfl ?_
    refine mk_istore (nx := 16) X [(4, .int (zi 0)), (0, .ref (ad (12 + 6 * v))), (1, .ref (ad 1)), (2, .ref (ad (44 + v))), (3, .int (zi (c 0 6)))] d_Line_lay_14 (by decide) rfl rfl ?_
    refine mk_aloadn (nx := 17) X 1 d_Line_lay_16 rfl rfl ?_
    refine mk_aloadn (nx := 18) X 3 d_Line_lay_17 rfl rfl ?_
    refine mk_get (nx := 21) (v := .int (zi (I (44 + v) 0))) X (44 + v) (by omega) (sh_Voice cs ad (show v < 4 by omega) _) rfl in_Voice 0 (by decide) wd_266 rfl rfl d_Line_lay_18 rfl ?_
    rw [show I (44 + v) 0 = c (3 + v) 0 from hVo.1]
    refine mk_putf (nx := 24) (ty := .boolean) X t_Line t_Line_ok n_Line (12 + 6 * v) (by omega) (sh_Line cs ad (show v < 4 by omega) _) rfl in_Line 10 (by decide) wd_148 rfl rfl (by decide +kernel) (zi_nb (by omega)) (zi_fb (by omega)) (Nat.le_of_ble_eq_true rfl) ((sh_Line cs ad (show v < 4 by omega) _).trans rfl) d_Line_lay_21 rfl ?_
    obtain ⟨J7, hJ7⟩ : ∃ W_ : Wo, W_ = up2 I (12 + 6 * v) 10 (c (3 + v) 0) := ⟨_, rfl⟩
    refine mk_same hJ7.symm ?_
    have hJ7s : J7 (12 + 6 * v) 10 = c (3 + v) 0 := hJ7 ▸ up2_ss I (12 + 6 * v) 10 (c (3 + v) 0)
    have hJ7o : ∀ a b, (a ≠ (12 + 6 * v) ∨ b ≠ 10) → J7 a b = I a b := hJ7 ▸ up2_o I (12 + 6 * v) 10 (c (3 + v) 0)
    refine mk_aloadn (nx := 25) X 1 d_Line_lay_24 rfl rfl ?_
    refine mk_aloadn (nx := 26) X 3 d_Line_lay_25 rfl rfl ?_
    refine mk_get (nx := 29) (v := .int (zi (J7 (44 + v) 3))) X (44 + v) (by omega) (sh_Voice cs ad (show v < 4 by omega) _) rfl in_Voice 3 (by decide) wd_271 rfl rfl d_Line_lay_26 rfl ?_
    rw [show J7 (44 + v) 3 = I (44 + v) 3 from hJ7o (44 + v) 3 (Or.inl (by omega))]
    rw [show I (44 + v) 3 = c (3 + v) 3 from hVo.2.2.2.1]
    refine mk_iconst (nx := 30) X d_Line_lay_29 rfl ?_
    refine mk_iand (nx := 31) X d_Line_lay_30 rfl ?_
    refine mk_if_eq (tgt := 38) (nx := 34) X d_Line_lay_31 (by exact zi_rng _) (by decide) rfl (fun c31 => ?_) (fun c31 => ?_)
    · skip
      refine mk_iconst (nx := 39) X d_Line_lay_38 rfl ?_
      refine mk_putf (nx := 42) (ty := .boolean) X t_Line t_Line_ok n_Line (12 + 6 * v) (by omega) (sh_Line cs ad (show v < 4 by omega) _) rfl in_Line 11 (by decide) wd_150 rfl rfl (by decide +kernel) (zi_nb (by omega)) (zi_fb (by omega)) (Nat.le_of_ble_eq_true rfl) ((sh_Line cs ad (show v < 4 by omega) _).trans rfl) d_Line_lay_39 rfl ?_
      obtain ⟨J8, hJ8⟩ : ∃ W_ : Wo, W_ = up2 J7 (12 + 6 * v) 11 0 := ⟨_, rfl⟩
      refine mk_same hJ8.symm ?_
      have hJ8s : J8 (12 + 6 * v) 11 = 0 := hJ8 ▸ up2_ss J7 (12 + 6 * v) 11 0
      have hJ8o : ∀ a b, (a ≠ (12 + 6 * v) ∨ b ≠ 11) → J8 a b = J7 a b := hJ8 ▸ up2_o J7 (12 + 6 * v) 11 0
      refine mk_aloadn (nx := 43) X 1 d_Line_lay_42 rfl rfl ?_
      refine mk_aloadn (nx := 44) X 3 d_Line_lay_43 rfl rfl ?_
      refine mk_get (nx := 47) (v := .int (zi (J8 (44 + v) 1))) X (44 + v) (by omega) (sh_Voice cs ad (show v < 4 by omega) _) rfl in_Voice 1 (by decide) wd_267 rfl rfl d_Line_lay_44 rfl ?_
      rw [show J8 (44 + v) 1 = J7 (44 + v) 1 from hJ8o (44 + v) 1 (Or.inl (by omega))]
      rw [show J7 (44 + v) 1 = I (44 + v) 1 from hJ7o (44 + v) 1 (Or.inl (by omega))]
      rw [show I (44 + v) 1 = c (3 + v) 1 from hVo.2.1]
      refine mk_putf (nx := 50) (ty := .int) X t_Line t_Line_ok n_Line (12 + 6 * v) (by omega) (sh_Line cs ad (show v < 4 by omega) _) rfl in_Line 8 (by decide) wd_143 rfl rfl (by decide +kernel) rfl rfl (Nat.le_of_ble_eq_true rfl) ((sh_Line cs ad (show v < 4 by omega) _).trans rfl) d_Line_lay_47 rfl ?_
      obtain ⟨J9, hJ9⟩ : ∃ W_ : Wo, W_ = up2 J8 (12 + 6 * v) 8 (c (3 + v) 1) := ⟨_, rfl⟩
      refine mk_same hJ9.symm ?_
      have hJ9s : J9 (12 + 6 * v) 8 = c (3 + v) 1 := hJ9 ▸ up2_ss J8 (12 + 6 * v) 8 (c (3 + v) 1)
      have hJ9o : ∀ a b, (a ≠ (12 + 6 * v) ∨ b ≠ 8) → J9 a b = J8 a b := hJ9 ▸ up2_o J8 (12 + 6 * v) 8 (c (3 + v) 1)
      refine mk_aloadn (nx := 51) X 1 d_Line_lay_50 rfl rfl ?_
      refine mk_aloadn (nx := 52) X 3 d_Line_lay_51 rfl rfl ?_
      refine mk_get (nx := 55) (v := .int (zi (J9 (44 + v) 2))) X (44 + v) (by omega) (sh_Voice cs ad (show v < 4 by omega) _) rfl in_Voice 2 (by decide) wd_269 rfl rfl d_Line_lay_52 rfl ?_
      rw [show J9 (44 + v) 2 = J8 (44 + v) 2 from hJ9o (44 + v) 2 (Or.inl (by omega))]
      rw [show J8 (44 + v) 2 = J7 (44 + v) 2 from hJ8o (44 + v) 2 (Or.inl (by omega))]
      rw [show J7 (44 + v) 2 = I (44 + v) 2 from hJ7o (44 + v) 2 (Or.inl (by omega))]
      rw [show I (44 + v) 2 = c (3 + v) 2 from hVo.2.2.1]
      refine mk_putf (nx := 58) (ty := .int) X t_Line t_Line_ok n_Line (12 + 6 * v) (by omega) (sh_Line cs ad (show v < 4 by omega) _) rfl in_Line 9 (by decide) wd_145 rfl rfl (by decide +kernel) rfl rfl (Nat.le_of_ble_eq_true rfl) ((sh_Line cs ad (show v < 4 by omega) _).trans rfl) d_Line_lay_55 rfl ?_
      obtain ⟨J10, hJ10⟩ : ∃ W_ : Wo, W_ = up2 J9 (12 + 6 * v) 9 (c (3 + v) 2) := ⟨_, rfl⟩
      refine mk_same hJ10.symm ?_
      have hJ10s : J10 (12 + 6 * v) 9 = c (3 + v) 2 := hJ10 ▸ up2_ss J9 (12 + 6 * v) 9 (c (3 + v) 2)
      have hJ10o : ∀ a b, (a ≠ (12 + 6 * v) ∨ b ≠ 9) → J10 a b = J9 a b := hJ10 ▸ up2_o J9 (12 + 6 * v) 9 (c (3 + v) 2)
      refine mk_aloadn (nx := 59) X 1 d_Line_lay_58 rfl rfl ?_
      refine mk_iloadn (nx := 60) X 4 d_Line_lay_59 rfl rfl ?_
      refine mk_putf (nx := 63) (ty := .int) X t_Line t_Line_ok n_Line (12 + 6 * v) (by omega) (sh_Line cs ad (show v < 4 by omega) _) rfl in_Line 7 (by decide) wd_142 rfl rfl (by decide +kernel) rfl rfl (Nat.le_of_ble_eq_true rfl) ((sh_Line cs ad (show v < 4 by omega) _).trans rfl) d_Line_lay_60 rfl ?_
      obtain ⟨J11, hJ11⟩ : ∃ W_ : Wo, W_ = up2 J10 (12 + 6 * v) 7 (c 0 6) := ⟨_, rfl⟩
      refine mk_same hJ11.symm ?_
      have hJ11s : J11 (12 + 6 * v) 7 = c 0 6 := hJ11 ▸ up2_ss J10 (12 + 6 * v) 7 (c 0 6)
      have hJ11o : ∀ a b, (a ≠ (12 + 6 * v) ∨ b ≠ 7) → J11 a b = J10 a b := hJ11 ▸ up2_o J10 (12 + 6 * v) 7 (c 0 6)
      refine mk_aloadn (nx := 64) X 1 d_Line_lay_63 rfl rfl ?_
      refine mk_aloadn (nx := 65) X 2 d_Line_lay_64 rfl rfl ?_
      refine mk_get (nx := 68) (v := .int (zi (J11 1 2))) X 1 (by decide) (sh_Subject cs ad _) rfl in_Subject 2 (by decide) wd_72 rfl rfl d_Line_lay_65 rfl ?_
      rw [show J11 1 2 = J10 1 2 from hJ11o 1 2 (Or.inl (by omega))]
      rw [show J10 1 2 = J9 1 2 from hJ10o 1 2 (Or.inl (by omega))]
      rw [show J9 1 2 = J8 1 2 from hJ9o 1 2 (Or.inl (by omega))]
      rw [show J8 1 2 = J7 1 2 from hJ8o 1 2 (Or.inl (by omega))]
      rw [show J7 1 2 = I 1 2 from hJ7o 1 2 (Or.inl (by omega))]
      rw [show I 1 2 = c 0 0 from hm.1]
      refine mk_putf (nx := 71) (ty := .int) X t_Line t_Line_ok n_Line (12 + 6 * v) (by omega) (sh_Line cs ad (show v < 4 by omega) _) rfl in_Line 5 (by decide) wd_139 rfl rfl (by decide +kernel) rfl rfl (Nat.le_of_ble_eq_true rfl) ((sh_Line cs ad (show v < 4 by omega) _).trans rfl) d_Line_lay_68 rfl ?_
      obtain ⟨J12, hJ12⟩ : ∃ W_ : Wo, W_ = up2 J11 (12 + 6 * v) 5 (c 0 0) := ⟨_, rfl⟩
      refine mk_same hJ12.symm ?_
      have hJ12s : J12 (12 + 6 * v) 5 = c 0 0 := hJ12 ▸ up2_ss J11 (12 + 6 * v) 5 (c 0 0)
      have hJ12o : ∀ a b, (a ≠ (12 + 6 * v) ∨ b ≠ 5) → J12 a b = J11 a b := hJ12 ▸ up2_o J11 (12 + 6 * v) 5 (c 0 0)
      refine mk_aloadn (nx := 72) X 1 d_Line_lay_71 rfl rfl ?_
      refine mk_iconst (nx := 73) X d_Line_lay_72 rfl ?_
      refine mk_putf (nx := 76) (ty := .int) X t_Line t_Line_ok n_Line (12 + 6 * v) (by omega) (sh_Line cs ad (show v < 4 by omega) _) rfl in_Line 6 (by decide) wd_141 rfl rfl (by decide +kernel) rfl rfl (Nat.le_of_ble_eq_true rfl) ((sh_Line cs ad (show v < 4 by omega) _).trans rfl) d_Line_lay_73 rfl ?_
      obtain ⟨J13, hJ13⟩ : ∃ W_ : Wo, W_ = up2 J12 (12 + 6 * v) 6 0 := ⟨_, rfl⟩
      refine mk_same hJ13.symm ?_
      have hJ13s : J13 (12 + 6 * v) 6 = 0 := hJ13 ▸ up2_ss J12 (12 + 6 * v) 6 0
      have hJ13o : ∀ a b, (a ≠ (12 + 6 * v) ∨ b ≠ 6) → J13 a b = J12 a b := hJ13 ▸ up2_o J12 (12 + 6 * v) 6 0
      refine mk_iconst (nx := 77) X d_Line_lay_76 rfl ?_
      refine mk_istore (nx := 79) X [(5, .int (zi 0)), (4, .int (zi 0)), (0, .ref (ad (12 + 6 * v))), (1, .ref (ad 1)), (2, .ref (ad (44 + v))), (3, .int (zi (c 0 6)))] d_Line_lay_77 (by decide) rfl rfl ?_
      refine mk_lv [2, 3, 4, 5, 1, 0] rfl ?_
      exact L79 _ 0 0 J13 (by omega) (by omega) (by first | exact ly_init (by rw [hJ13, hJ12, hJ11, hJ10, hJ9, hJ8, hJ7]) (by rw [if_pos (by omega)]) | exact ly_init (by rw [hJ13, hJ12, hJ11, hJ10, hJ9, hJ8, hJ7]) (by rw [if_neg (by omega)]) | (rw [hJ13, hJ12, hJ11, hJ10, hJ9, hJ8, hJ7]; exact ly_step hI rfl rfl rfl)) (Nat.lt_succ_self _)
    · skip
      refine mk_iconst (nx := 35) X d_Line_lay_34 rfl ?_
      refine mk_goto (tgt := 39) X d_Line_lay_35 (by decide) ?_
      refine mk_putf (nx := 42) (ty := .boolean) X t_Line t_Line_ok n_Line (12 + 6 * v) (by omega) (sh_Line cs ad (show v < 4 by omega) _) rfl in_Line 11 (by decide) wd_150 rfl rfl (by decide +kernel) (zi_nb (by omega)) (zi_fb (by omega)) (Nat.le_of_ble_eq_true rfl) ((sh_Line cs ad (show v < 4 by omega) _).trans rfl) d_Line_lay_39 rfl ?_
      obtain ⟨J14, hJ14⟩ : ∃ W_ : Wo, W_ = up2 J7 (12 + 6 * v) 11 1 := ⟨_, rfl⟩
      refine mk_same hJ14.symm ?_
      have hJ14s : J14 (12 + 6 * v) 11 = 1 := hJ14 ▸ up2_ss J7 (12 + 6 * v) 11 1
      have hJ14o : ∀ a b, (a ≠ (12 + 6 * v) ∨ b ≠ 11) → J14 a b = J7 a b := hJ14 ▸ up2_o J7 (12 + 6 * v) 11 1
      refine mk_aloadn (nx := 43) X 1 d_Line_lay_42 rfl rfl ?_
      refine mk_aloadn (nx := 44) X 3 d_Line_lay_43 rfl rfl ?_
      refine mk_get (nx := 47) (v := .int (zi (J14 (44 + v) 1))) X (44 + v) (by omega) (sh_Voice cs ad (show v < 4 by omega) _) rfl in_Voice 1 (by decide) wd_267 rfl rfl d_Line_lay_44 rfl ?_
      rw [show J14 (44 + v) 1 = J7 (44 + v) 1 from hJ14o (44 + v) 1 (Or.inl (by omega))]
      rw [show J7 (44 + v) 1 = I (44 + v) 1 from hJ7o (44 + v) 1 (Or.inl (by omega))]
      rw [show I (44 + v) 1 = c (3 + v) 1 from hVo.2.1]
      refine mk_putf (nx := 50) (ty := .int) X t_Line t_Line_ok n_Line (12 + 6 * v) (by omega) (sh_Line cs ad (show v < 4 by omega) _) rfl in_Line 8 (by decide) wd_143 rfl rfl (by decide +kernel) rfl rfl (Nat.le_of_ble_eq_true rfl) ((sh_Line cs ad (show v < 4 by omega) _).trans rfl) d_Line_lay_47 rfl ?_
      obtain ⟨J15, hJ15⟩ : ∃ W_ : Wo, W_ = up2 J14 (12 + 6 * v) 8 (c (3 + v) 1) := ⟨_, rfl⟩
      refine mk_same hJ15.symm ?_
      have hJ15s : J15 (12 + 6 * v) 8 = c (3 + v) 1 := hJ15 ▸ up2_ss J14 (12 + 6 * v) 8 (c (3 + v) 1)
      have hJ15o : ∀ a b, (a ≠ (12 + 6 * v) ∨ b ≠ 8) → J15 a b = J14 a b := hJ15 ▸ up2_o J14 (12 + 6 * v) 8 (c (3 + v) 1)
      refine mk_aloadn (nx := 51) X 1 d_Line_lay_50 rfl rfl ?_
      refine mk_aloadn (nx := 52) X 3 d_Line_lay_51 rfl rfl ?_
      refine mk_get (nx := 55) (v := .int (zi (J15 (44 + v) 2))) X (44 + v) (by omega) (sh_Voice cs ad (show v < 4 by omega) _) rfl in_Voice 2 (by decide) wd_269 rfl rfl d_Line_lay_52 rfl ?_
      rw [show J15 (44 + v) 2 = J14 (44 + v) 2 from hJ15o (44 + v) 2 (Or.inl (by omega))]
      rw [show J14 (44 + v) 2 = J7 (44 + v) 2 from hJ14o (44 + v) 2 (Or.inl (by omega))]
      rw [show J7 (44 + v) 2 = I (44 + v) 2 from hJ7o (44 + v) 2 (Or.inl (by omega))]
      rw [show I (44 + v) 2 = c (3 + v) 2 from hVo.2.2.1]
      refine mk_putf (nx := 58) (ty := .int) X t_Line t_Line_ok n_Line (12 + 6 * v) (by omega) (sh_Line cs ad (show v < 4 by omega) _) rfl in_Line 9 (by decide) wd_145 rfl rfl (by decide +kernel) rfl rfl (Nat.le_of_ble_eq_true rfl) ((sh_Line cs ad (show v < 4 by omega) _).trans rfl) d_Line_lay_55 rfl ?_
      obtain ⟨J16, hJ16⟩ : ∃ W_ : Wo, W_ = up2 J15 (12 + 6 * v) 9 (c (3 + v) 2) := ⟨_, rfl⟩
      refine mk_same hJ16.symm ?_
      have hJ16s : J16 (12 + 6 * v) 9 = c (3 + v) 2 := hJ16 ▸ up2_ss J15 (12 + 6 * v) 9 (c (3 + v) 2)
      have hJ16o : ∀ a b, (a ≠ (12 + 6 * v) ∨ b ≠ 9) → J16 a b = J15 a b := hJ16 ▸ up2_o J15 (12 + 6 * v) 9 (c (3 + v) 2)
      refine mk_aloadn (nx := 59) X 1 d_Line_lay_58 rfl rfl ?_
      refine mk_iloadn (nx := 60) X 4 d_Line_lay_59 rfl rfl ?_
      refine mk_putf (nx := 63) (ty := .int) X t_Line t_Line_ok n_Line (12 + 6 * v) (by omega) (sh_Line cs ad (show v < 4 by omega) _) rfl in_Line 7 (by decide) wd_142 rfl rfl (by decide +kernel) rfl rfl (Nat.le_of_ble_eq_true rfl) ((sh_Line cs ad (show v < 4 by omega) _).trans rfl) d_Line_lay_60 rfl ?_
      obtain ⟨J17, hJ17⟩ : ∃ W_ : Wo, W_ = up2 J16 (12 + 6 * v) 7 (c 0 6) := ⟨_, rfl⟩
      refine mk_same hJ17.symm ?_
      have hJ17s : J17 (12 + 6 * v) 7 = c 0 6 := hJ17 ▸ up2_ss J16 (12 + 6 * v) 7 (c 0 6)
      have hJ17o : ∀ a b, (a ≠ (12 + 6 * v) ∨ b ≠ 7) → J17 a b = J16 a b := hJ17 ▸ up2_o J16 (12 + 6 * v) 7 (c 0 6)
      refine mk_aloadn (nx := 64) X 1 d_Line_lay_63 rfl rfl ?_
      refine mk_aloadn (nx := 65) X 2 d_Line_lay_64 rfl rfl ?_
      refine mk_get (nx := 68) (v := .int (zi (J17 1 2))) X 1 (by decide) (sh_Subject cs ad _) rfl in_Subject 2 (by decide) wd_72 rfl rfl d_Line_lay_65 rfl ?_
      rw [show J17 1 2 = J16 1 2 from hJ17o 1 2 (Or.inl (by omega))]
      rw [show J16 1 2 = J15 1 2 from hJ16o 1 2 (Or.inl (by omega))]
      rw [show J15 1 2 = J14 1 2 from hJ15o 1 2 (Or.inl (by omega))]
      rw [show J14 1 2 = J7 1 2 from hJ14o 1 2 (Or.inl (by omega))]
      rw [show J7 1 2 = I 1 2 from hJ7o 1 2 (Or.inl (by omega))]
      rw [show I 1 2 = c 0 0 from hm.1]
      refine mk_putf (nx := 71) (ty := .int) X t_Line t_Line_ok n_Line (12 + 6 * v) (by omega) (sh_Line cs ad (show v < 4 by omega) _) rfl in_Line 5 (by decide) wd_139 rfl rfl (by decide +kernel) rfl rfl (Nat.le_of_ble_eq_true rfl) ((sh_Line cs ad (show v < 4 by omega) _).trans rfl) d_Line_lay_68 rfl ?_
      obtain ⟨J18, hJ18⟩ : ∃ W_ : Wo, W_ = up2 J17 (12 + 6 * v) 5 (c 0 0) := ⟨_, rfl⟩
      refine mk_same hJ18.symm ?_
      have hJ18s : J18 (12 + 6 * v) 5 = c 0 0 := hJ18 ▸ up2_ss J17 (12 + 6 * v) 5 (c 0 0)
      have hJ18o : ∀ a b, (a ≠ (12 + 6 * v) ∨ b ≠ 5) → J18 a b = J17 a b := hJ18 ▸ up2_o J17 (12 + 6 * v) 5 (c 0 0)
      refine mk_aloadn (nx := 72) X 1 d_Line_lay_71 rfl rfl ?_
      refine mk_iconst (nx := 73) X d_Line_lay_72 rfl ?_
      refine mk_putf (nx := 76) (ty := .int) X t_Line t_Line_ok n_Line (12 + 6 * v) (by omega) (sh_Line cs ad (show v < 4 by omega) _) rfl in_Line 6 (by decide) wd_141 rfl rfl (by decide +kernel) rfl rfl (Nat.le_of_ble_eq_true rfl) ((sh_Line cs ad (show v < 4 by omega) _).trans rfl) d_Line_lay_73 rfl ?_
      obtain ⟨J19, hJ19⟩ : ∃ W_ : Wo, W_ = up2 J18 (12 + 6 * v) 6 0 := ⟨_, rfl⟩
      refine mk_same hJ19.symm ?_
      have hJ19s : J19 (12 + 6 * v) 6 = 0 := hJ19 ▸ up2_ss J18 (12 + 6 * v) 6 0
      have hJ19o : ∀ a b, (a ≠ (12 + 6 * v) ∨ b ≠ 6) → J19 a b = J18 a b := hJ19 ▸ up2_o J18 (12 + 6 * v) 6 0
      refine mk_iconst (nx := 77) X d_Line_lay_76 rfl ?_
      refine mk_istore (nx := 79) X [(5, .int (zi 0)), (4, .int (zi 0)), (0, .ref (ad (12 + 6 * v))), (1, .ref (ad 1)), (2, .ref (ad (44 + v))), (3, .int (zi (c 0 6)))] d_Line_lay_77 (by decide) rfl rfl ?_
      refine mk_lv [2, 3, 4, 5, 1, 0] rfl ?_
      exact L79 _ 0 0 J19 (by omega) (by omega) (by first | exact ly_init (by rw [hJ19, hJ18, hJ17, hJ16, hJ15, hJ14, hJ7]) (by rw [if_pos (by omega)]) | exact ly_init (by rw [hJ19, hJ18, hJ17, hJ16, hJ15, hJ14, hJ7]) (by rw [if_neg (by omega)]) | (rw [hJ19, hJ18, hJ17, hJ16, hJ15, hJ14, hJ7]; exact ly_step hI rfl rfl rfl)) (Nat.lt_succ_self _)
  · skip
    refine mk_iconst (nx := 10) X d_Line_lay_9 rfl ?_
    refine mk_goto (tgt := 14) X d_Line_lay_10 (by decide) ?_
    refine mk_istore (nx := 16) X [(4, .int (zi 1)), (0, .ref (ad (12 + 6 * v))), (1, .ref (ad 1)), (2, .ref (ad (44 + v))), (3, .int (zi (c 0 6)))] d_Line_lay_14 (by decide) rfl rfl ?_
    refine mk_aloadn (nx := 17) X 1 d_Line_lay_16 rfl rfl ?_
    refine mk_aloadn (nx := 18) X 3 d_Line_lay_17 rfl rfl ?_
    refine mk_get (nx := 21) (v := .int (zi (I (44 + v) 0))) X (44 + v) (by omega) (sh_Voice cs ad (show v < 4 by omega) _) rfl in_Voice 0 (by decide) wd_266 rfl rfl d_Line_lay_18 rfl ?_
    rw [show I (44 + v) 0 = c (3 + v) 0 from hVo.1]
    refine mk_putf (nx := 24) (ty := .boolean) X t_Line t_Line_ok n_Line (12 + 6 * v) (by omega) (sh_Line cs ad (show v < 4 by omega) _) rfl in_Line 10 (by decide) wd_148 rfl rfl (by decide +kernel) (zi_nb (by omega)) (zi_fb (by omega)) (Nat.le_of_ble_eq_true rfl) ((sh_Line cs ad (show v < 4 by omega) _).trans rfl) d_Line_lay_21 rfl ?_
    obtain ⟨J20, hJ20⟩ : ∃ W_ : Wo, W_ = up2 I (12 + 6 * v) 10 (c (3 + v) 0) := ⟨_, rfl⟩
    refine mk_same hJ20.symm ?_
    have hJ20s : J20 (12 + 6 * v) 10 = c (3 + v) 0 := hJ20 ▸ up2_ss I (12 + 6 * v) 10 (c (3 + v) 0)
    have hJ20o : ∀ a b, (a ≠ (12 + 6 * v) ∨ b ≠ 10) → J20 a b = I a b := hJ20 ▸ up2_o I (12 + 6 * v) 10 (c (3 + v) 0)
    refine mk_aloadn (nx := 25) X 1 d_Line_lay_24 rfl rfl ?_
    refine mk_aloadn (nx := 26) X 3 d_Line_lay_25 rfl rfl ?_
    refine mk_get (nx := 29) (v := .int (zi (J20 (44 + v) 3))) X (44 + v) (by omega) (sh_Voice cs ad (show v < 4 by omega) _) rfl in_Voice 3 (by decide) wd_271 rfl rfl d_Line_lay_26 rfl ?_
    rw [show J20 (44 + v) 3 = I (44 + v) 3 from hJ20o (44 + v) 3 (Or.inl (by omega))]
    rw [show I (44 + v) 3 = c (3 + v) 3 from hVo.2.2.2.1]
    refine mk_iconst (nx := 30) X d_Line_lay_29 rfl ?_
    refine mk_iand (nx := 31) X d_Line_lay_30 rfl ?_
    refine mk_if_eq (tgt := 38) (nx := 34) X d_Line_lay_31 (by exact zi_rng _) (by decide) rfl (fun c31 => ?_) (fun c31 => ?_)
    · skip
      refine mk_iconst (nx := 39) X d_Line_lay_38 rfl ?_
      refine mk_putf (nx := 42) (ty := .boolean) X t_Line t_Line_ok n_Line (12 + 6 * v) (by omega) (sh_Line cs ad (show v < 4 by omega) _) rfl in_Line 11 (by decide) wd_150 rfl rfl (by decide +kernel) (zi_nb (by omega)) (zi_fb (by omega)) (Nat.le_of_ble_eq_true rfl) ((sh_Line cs ad (show v < 4 by omega) _).trans rfl) d_Line_lay_39 rfl ?_
      obtain ⟨J21, hJ21⟩ : ∃ W_ : Wo, W_ = up2 J20 (12 + 6 * v) 11 0 := ⟨_, rfl⟩
      refine mk_same hJ21.symm ?_
      have hJ21s : J21 (12 + 6 * v) 11 = 0 := hJ21 ▸ up2_ss J20 (12 + 6 * v) 11 0
      have hJ21o : ∀ a b, (a ≠ (12 + 6 * v) ∨ b ≠ 11) → J21 a b = J20 a b := hJ21 ▸ up2_o J20 (12 + 6 * v) 11 0
      refine mk_aloadn (nx := 43) X 1 d_Line_lay_42 rfl rfl ?_
      refine mk_aloadn (nx := 44) X 3 d_Line_lay_43 rfl rfl ?_
      refine mk_get (nx := 47) (v := .int (zi (J21 (44 + v) 1))) X (44 + v) (by omega) (sh_Voice cs ad (show v < 4 by omega) _) rfl in_Voice 1 (by decide) wd_267 rfl rfl d_Line_lay_44 rfl ?_
      rw [show J21 (44 + v) 1 = J20 (44 + v) 1 from hJ21o (44 + v) 1 (Or.inl (by omega))]
      rw [show J20 (44 + v) 1 = I (44 + v) 1 from hJ20o (44 + v) 1 (Or.inl (by omega))]
      rw [show I (44 + v) 1 = c (3 + v) 1 from hVo.2.1]
      refine mk_putf (nx := 50) (ty := .int) X t_Line t_Line_ok n_Line (12 + 6 * v) (by omega) (sh_Line cs ad (show v < 4 by omega) _) rfl in_Line 8 (by decide) wd_143 rfl rfl (by decide +kernel) rfl rfl (Nat.le_of_ble_eq_true rfl) ((sh_Line cs ad (show v < 4 by omega) _).trans rfl) d_Line_lay_47 rfl ?_
      obtain ⟨J22, hJ22⟩ : ∃ W_ : Wo, W_ = up2 J21 (12 + 6 * v) 8 (c (3 + v) 1) := ⟨_, rfl⟩
      refine mk_same hJ22.symm ?_
      have hJ22s : J22 (12 + 6 * v) 8 = c (3 + v) 1 := hJ22 ▸ up2_ss J21 (12 + 6 * v) 8 (c (3 + v) 1)
      have hJ22o : ∀ a b, (a ≠ (12 + 6 * v) ∨ b ≠ 8) → J22 a b = J21 a b := hJ22 ▸ up2_o J21 (12 + 6 * v) 8 (c (3 + v) 1)
      refine mk_aloadn (nx := 51) X 1 d_Line_lay_50 rfl rfl ?_
      refine mk_aloadn (nx := 52) X 3 d_Line_lay_51 rfl rfl ?_
      refine mk_get (nx := 55) (v := .int (zi (J22 (44 + v) 2))) X (44 + v) (by omega) (sh_Voice cs ad (show v < 4 by omega) _) rfl in_Voice 2 (by decide) wd_269 rfl rfl d_Line_lay_52 rfl ?_
      rw [show J22 (44 + v) 2 = J21 (44 + v) 2 from hJ22o (44 + v) 2 (Or.inl (by omega))]
      rw [show J21 (44 + v) 2 = J20 (44 + v) 2 from hJ21o (44 + v) 2 (Or.inl (by omega))]
      rw [show J20 (44 + v) 2 = I (44 + v) 2 from hJ20o (44 + v) 2 (Or.inl (by omega))]
      rw [show I (44 + v) 2 = c (3 + v) 2 from hVo.2.2.1]
      refine mk_putf (nx := 58) (ty := .int) X t_Line t_Line_ok n_Line (12 + 6 * v) (by omega) (sh_Line cs ad (show v < 4 by omega) _) rfl in_Line 9 (by decide) wd_145 rfl rfl (by decide +kernel) rfl rfl (Nat.le_of_ble_eq_true rfl) ((sh_Line cs ad (show v < 4 by omega) _).trans rfl) d_Line_lay_55 rfl ?_
      obtain ⟨J23, hJ23⟩ : ∃ W_ : Wo, W_ = up2 J22 (12 + 6 * v) 9 (c (3 + v) 2) := ⟨_, rfl⟩
      refine mk_same hJ23.symm ?_
      have hJ23s : J23 (12 + 6 * v) 9 = c (3 + v) 2 := hJ23 ▸ up2_ss J22 (12 + 6 * v) 9 (c (3 + v) 2)
      have hJ23o : ∀ a b, (a ≠ (12 + 6 * v) ∨ b ≠ 9) → J23 a b = J22 a b := hJ23 ▸ up2_o J22 (12 + 6 * v) 9 (c (3 + v) 2)
      refine mk_aloadn (nx := 59) X 1 d_Line_lay_58 rfl rfl ?_
      refine mk_iloadn (nx := 60) X 4 d_Line_lay_59 rfl rfl ?_
      refine mk_putf (nx := 63) (ty := .int) X t_Line t_Line_ok n_Line (12 + 6 * v) (by omega) (sh_Line cs ad (show v < 4 by omega) _) rfl in_Line 7 (by decide) wd_142 rfl rfl (by decide +kernel) rfl rfl (Nat.le_of_ble_eq_true rfl) ((sh_Line cs ad (show v < 4 by omega) _).trans rfl) d_Line_lay_60 rfl ?_
      obtain ⟨J24, hJ24⟩ : ∃ W_ : Wo, W_ = up2 J23 (12 + 6 * v) 7 (c 0 6) := ⟨_, rfl⟩
      refine mk_same hJ24.symm ?_
      have hJ24s : J24 (12 + 6 * v) 7 = c 0 6 := hJ24 ▸ up2_ss J23 (12 + 6 * v) 7 (c 0 6)
      have hJ24o : ∀ a b, (a ≠ (12 + 6 * v) ∨ b ≠ 7) → J24 a b = J23 a b := hJ24 ▸ up2_o J23 (12 + 6 * v) 7 (c 0 6)
      refine mk_aloadn (nx := 64) X 1 d_Line_lay_63 rfl rfl ?_
      refine mk_aloadn (nx := 65) X 2 d_Line_lay_64 rfl rfl ?_
      refine mk_get (nx := 68) (v := .int (zi (J24 1 2))) X 1 (by decide) (sh_Subject cs ad _) rfl in_Subject 2 (by decide) wd_72 rfl rfl d_Line_lay_65 rfl ?_
      rw [show J24 1 2 = J23 1 2 from hJ24o 1 2 (Or.inl (by omega))]
      rw [show J23 1 2 = J22 1 2 from hJ23o 1 2 (Or.inl (by omega))]
      rw [show J22 1 2 = J21 1 2 from hJ22o 1 2 (Or.inl (by omega))]
      rw [show J21 1 2 = J20 1 2 from hJ21o 1 2 (Or.inl (by omega))]
      rw [show J20 1 2 = I 1 2 from hJ20o 1 2 (Or.inl (by omega))]
      rw [show I 1 2 = c 0 0 from hm.1]
      refine mk_putf (nx := 71) (ty := .int) X t_Line t_Line_ok n_Line (12 + 6 * v) (by omega) (sh_Line cs ad (show v < 4 by omega) _) rfl in_Line 5 (by decide) wd_139 rfl rfl (by decide +kernel) rfl rfl (Nat.le_of_ble_eq_true rfl) ((sh_Line cs ad (show v < 4 by omega) _).trans rfl) d_Line_lay_68 rfl ?_
      obtain ⟨J25, hJ25⟩ : ∃ W_ : Wo, W_ = up2 J24 (12 + 6 * v) 5 (c 0 0) := ⟨_, rfl⟩
      refine mk_same hJ25.symm ?_
      have hJ25s : J25 (12 + 6 * v) 5 = c 0 0 := hJ25 ▸ up2_ss J24 (12 + 6 * v) 5 (c 0 0)
      have hJ25o : ∀ a b, (a ≠ (12 + 6 * v) ∨ b ≠ 5) → J25 a b = J24 a b := hJ25 ▸ up2_o J24 (12 + 6 * v) 5 (c 0 0)
      refine mk_aloadn (nx := 72) X 1 d_Line_lay_71 rfl rfl ?_
      refine mk_iconst (nx := 73) X d_Line_lay_72 rfl ?_
      refine mk_putf (nx := 76) (ty := .int) X t_Line t_Line_ok n_Line (12 + 6 * v) (by omega) (sh_Line cs ad (show v < 4 by omega) _) rfl in_Line 6 (by decide) wd_141 rfl rfl (by decide +kernel) rfl rfl (Nat.le_of_ble_eq_true rfl) ((sh_Line cs ad (show v < 4 by omega) _).trans rfl) d_Line_lay_73 rfl ?_
      obtain ⟨J26, hJ26⟩ : ∃ W_ : Wo, W_ = up2 J25 (12 + 6 * v) 6 0 := ⟨_, rfl⟩
      refine mk_same hJ26.symm ?_
      have hJ26s : J26 (12 + 6 * v) 6 = 0 := hJ26 ▸ up2_ss J25 (12 + 6 * v) 6 0
      have hJ26o : ∀ a b, (a ≠ (12 + 6 * v) ∨ b ≠ 6) → J26 a b = J25 a b := hJ26 ▸ up2_o J25 (12 + 6 * v) 6 0
      refine mk_iconst (nx := 77) X d_Line_lay_76 rfl ?_
      refine mk_istore (nx := 79) X [(5, .int (zi 0)), (4, .int (zi 1)), (0, .ref (ad (12 + 6 * v))), (1, .ref (ad 1)), (2, .ref (ad (44 + v))), (3, .int (zi (c 0 6)))] d_Line_lay_77 (by decide) rfl rfl ?_
      refine mk_lv [2, 3, 4, 5, 1, 0] rfl ?_
      exact L79 _ 0 1 J26 (by omega) (by omega) (by first | exact ly_init (by rw [hJ26, hJ25, hJ24, hJ23, hJ22, hJ21, hJ20]) (by rw [if_pos (by omega)]) | exact ly_init (by rw [hJ26, hJ25, hJ24, hJ23, hJ22, hJ21, hJ20]) (by rw [if_neg (by omega)]) | (rw [hJ26, hJ25, hJ24, hJ23, hJ22, hJ21, hJ20]; exact ly_step hI rfl rfl rfl)) (Nat.lt_succ_self _)
    · skip
      refine mk_iconst (nx := 35) X d_Line_lay_34 rfl ?_
      refine mk_goto (tgt := 39) X d_Line_lay_35 (by decide) ?_
      refine mk_putf (nx := 42) (ty := .boolean) X t_Line t_Line_ok n_Line (12 + 6 * v) (by omega) (sh_Line cs ad (show v < 4 by omega) _) rfl in_Line 11 (by decide) wd_150 rfl rfl (by decide +kernel) (zi_nb (by omega)) (zi_fb (by omega)) (Nat.le_of_ble_eq_true rfl) ((sh_Line cs ad (show v < 4 by omega) _).trans rfl) d_Line_lay_39 rfl ?_
      obtain ⟨J27, hJ27⟩ : ∃ W_ : Wo, W_ = up2 J20 (12 + 6 * v) 11 1 := ⟨_, rfl⟩
      refine mk_same hJ27.symm ?_
      have hJ27s : J27 (12 + 6 * v) 11 = 1 := hJ27 ▸ up2_ss J20 (12 + 6 * v) 11 1
      have hJ27o : ∀ a b, (a ≠ (12 + 6 * v) ∨ b ≠ 11) → J27 a b = J20 a b := hJ27 ▸ up2_o J20 (12 + 6 * v) 11 1
      refine mk_aloadn (nx := 43) X 1 d_Line_lay_42 rfl rfl ?_
      refine mk_aloadn (nx := 44) X 3 d_Line_lay_43 rfl rfl ?_
      refine mk_get (nx := 47) (v := .int (zi (J27 (44 + v) 1))) X (44 + v) (by omega) (sh_Voice cs ad (show v < 4 by omega) _) rfl in_Voice 1 (by decide) wd_267 rfl rfl d_Line_lay_44 rfl ?_
      rw [show J27 (44 + v) 1 = J20 (44 + v) 1 from hJ27o (44 + v) 1 (Or.inl (by omega))]
      rw [show J20 (44 + v) 1 = I (44 + v) 1 from hJ20o (44 + v) 1 (Or.inl (by omega))]
      rw [show I (44 + v) 1 = c (3 + v) 1 from hVo.2.1]
      refine mk_putf (nx := 50) (ty := .int) X t_Line t_Line_ok n_Line (12 + 6 * v) (by omega) (sh_Line cs ad (show v < 4 by omega) _) rfl in_Line 8 (by decide) wd_143 rfl rfl (by decide +kernel) rfl rfl (Nat.le_of_ble_eq_true rfl) ((sh_Line cs ad (show v < 4 by omega) _).trans rfl) d_Line_lay_47 rfl ?_
      obtain ⟨J28, hJ28⟩ : ∃ W_ : Wo, W_ = up2 J27 (12 + 6 * v) 8 (c (3 + v) 1) := ⟨_, rfl⟩
      refine mk_same hJ28.symm ?_
      have hJ28s : J28 (12 + 6 * v) 8 = c (3 + v) 1 := hJ28 ▸ up2_ss J27 (12 + 6 * v) 8 (c (3 + v) 1)
      have hJ28o : ∀ a b, (a ≠ (12 + 6 * v) ∨ b ≠ 8) → J28 a b = J27 a b := hJ28 ▸ up2_o J27 (12 + 6 * v) 8 (c (3 + v) 1)
      refine mk_aloadn (nx := 51) X 1 d_Line_lay_50 rfl rfl ?_
      refine mk_aloadn (nx := 52) X 3 d_Line_lay_51 rfl rfl ?_
      refine mk_get (nx := 55) (v := .int (zi (J28 (44 + v) 2))) X (44 + v) (by omega) (sh_Voice cs ad (show v < 4 by omega) _) rfl in_Voice 2 (by decide) wd_269 rfl rfl d_Line_lay_52 rfl ?_
      rw [show J28 (44 + v) 2 = J27 (44 + v) 2 from hJ28o (44 + v) 2 (Or.inl (by omega))]
      rw [show J27 (44 + v) 2 = J20 (44 + v) 2 from hJ27o (44 + v) 2 (Or.inl (by omega))]
      rw [show J20 (44 + v) 2 = I (44 + v) 2 from hJ20o (44 + v) 2 (Or.inl (by omega))]
      rw [show I (44 + v) 2 = c (3 + v) 2 from hVo.2.2.1]
      refine mk_putf (nx := 58) (ty := .int) X t_Line t_Line_ok n_Line (12 + 6 * v) (by omega) (sh_Line cs ad (show v < 4 by omega) _) rfl in_Line 9 (by decide) wd_145 rfl rfl (by decide +kernel) rfl rfl (Nat.le_of_ble_eq_true rfl) ((sh_Line cs ad (show v < 4 by omega) _).trans rfl) d_Line_lay_55 rfl ?_
      obtain ⟨J29, hJ29⟩ : ∃ W_ : Wo, W_ = up2 J28 (12 + 6 * v) 9 (c (3 + v) 2) := ⟨_, rfl⟩
      refine mk_same hJ29.symm ?_
      have hJ29s : J29 (12 + 6 * v) 9 = c (3 + v) 2 := hJ29 ▸ up2_ss J28 (12 + 6 * v) 9 (c (3 + v) 2)
      have hJ29o : ∀ a b, (a ≠ (12 + 6 * v) ∨ b ≠ 9) → J29 a b = J28 a b := hJ29 ▸ up2_o J28 (12 + 6 * v) 9 (c (3 + v) 2)
      refine mk_aloadn (nx := 59) X 1 d_Line_lay_58 rfl rfl ?_
      refine mk_iloadn (nx := 60) X 4 d_Line_lay_59 rfl rfl ?_
      refine mk_putf (nx := 63) (ty := .int) X t_Line t_Line_ok n_Line (12 + 6 * v) (by omega) (sh_Line cs ad (show v < 4 by omega) _) rfl in_Line 7 (by decide) wd_142 rfl rfl (by decide +kernel) rfl rfl (Nat.le_of_ble_eq_true rfl) ((sh_Line cs ad (show v < 4 by omega) _).trans rfl) d_Line_lay_60 rfl ?_
      obtain ⟨J30, hJ30⟩ : ∃ W_ : Wo, W_ = up2 J29 (12 + 6 * v) 7 (c 0 6) := ⟨_, rfl⟩
      refine mk_same hJ30.symm ?_
      have hJ30s : J30 (12 + 6 * v) 7 = c 0 6 := hJ30 ▸ up2_ss J29 (12 + 6 * v) 7 (c 0 6)
      have hJ30o : ∀ a b, (a ≠ (12 + 6 * v) ∨ b ≠ 7) → J30 a b = J29 a b := hJ30 ▸ up2_o J29 (12 + 6 * v) 7 (c 0 6)
      refine mk_aloadn (nx := 64) X 1 d_Line_lay_63 rfl rfl ?_
      refine mk_aloadn (nx := 65) X 2 d_Line_lay_64 rfl rfl ?_
      refine mk_get (nx := 68) (v := .int (zi (J30 1 2))) X 1 (by decide) (sh_Subject cs ad _) rfl in_Subject 2 (by decide) wd_72 rfl rfl d_Line_lay_65 rfl ?_
      rw [show J30 1 2 = J29 1 2 from hJ30o 1 2 (Or.inl (by omega))]
      rw [show J29 1 2 = J28 1 2 from hJ29o 1 2 (Or.inl (by omega))]
      rw [show J28 1 2 = J27 1 2 from hJ28o 1 2 (Or.inl (by omega))]
      rw [show J27 1 2 = J20 1 2 from hJ27o 1 2 (Or.inl (by omega))]
      rw [show J20 1 2 = I 1 2 from hJ20o 1 2 (Or.inl (by omega))]
      rw [show I 1 2 = c 0 0 from hm.1]
      refine mk_putf (nx := 71) (ty := .int) X t_Line t_Line_ok n_Line (12 + 6 * v) (by omega) (sh_Line cs ad (show v < 4 by omega) _) rfl in_Line 5 (by decide) wd_139 rfl rfl (by decide +kernel) rfl rfl (Nat.le_of_ble_eq_true rfl) ((sh_Line cs ad (show v < 4 by omega) _).trans rfl) d_Line_lay_68 rfl ?_
      obtain ⟨J31, hJ31⟩ : ∃ W_ : Wo, W_ = up2 J30 (12 + 6 * v) 5 (c 0 0) := ⟨_, rfl⟩
      refine mk_same hJ31.symm ?_
      have hJ31s : J31 (12 + 6 * v) 5 = c 0 0 := hJ31 ▸ up2_ss J30 (12 + 6 * v) 5 (c 0 0)
      have hJ31o : ∀ a b, (a ≠ (12 + 6 * v) ∨ b ≠ 5) → J31 a b = J30 a b := hJ31 ▸ up2_o J30 (12 + 6 * v) 5 (c 0 0)
      refine mk_aloadn (nx := 72) X 1 d_Line_lay_71 rfl rfl ?_
      refine mk_iconst (nx := 73) X d_Line_lay_72 rfl ?_
      refine mk_putf (nx := 76) (ty := .int) X t_Line t_Line_ok n_Line (12 + 6 * v) (by omega) (sh_Line cs ad (show v < 4 by omega) _) rfl in_Line 6 (by decide) wd_141 rfl rfl (by decide +kernel) rfl rfl (Nat.le_of_ble_eq_true rfl) ((sh_Line cs ad (show v < 4 by omega) _).trans rfl) d_Line_lay_73 rfl ?_
      obtain ⟨J32, hJ32⟩ : ∃ W_ : Wo, W_ = up2 J31 (12 + 6 * v) 6 0 := ⟨_, rfl⟩
      refine mk_same hJ32.symm ?_
      have hJ32s : J32 (12 + 6 * v) 6 = 0 := hJ32 ▸ up2_ss J31 (12 + 6 * v) 6 0
      have hJ32o : ∀ a b, (a ≠ (12 + 6 * v) ∨ b ≠ 6) → J32 a b = J31 a b := hJ32 ▸ up2_o J31 (12 + 6 * v) 6 0
      refine mk_iconst (nx := 77) X d_Line_lay_76 rfl ?_
      refine mk_istore (nx := 79) X [(5, .int (zi 0)), (4, .int (zi 1)), (0, .ref (ad (12 + 6 * v))), (1, .ref (ad 1)), (2, .ref (ad (44 + v))), (3, .int (zi (c 0 6)))] d_Line_lay_77 (by decide) rfl rfl ?_
      refine mk_lv [2, 3, 4, 5, 1, 0] rfl ?_
      exact L79 _ 0 1 J32 (by omega) (by omega) (by first | exact ly_init (by rw [hJ32, hJ31, hJ30, hJ29, hJ28, hJ27, hJ20]) (by rw [if_pos (by omega)]) | exact ly_init (by rw [hJ32, hJ31, hJ30, hJ29, hJ28, hJ27, hJ20]) (by rw [if_neg (by omega)]) | (rw [hJ32, hJ31, hJ30, hJ29, hJ28, hJ27, hJ20]; exact ly_step hI rfl rfl rfl)) (Nat.lt_succ_self _)
end
section
/-- a VOICE's PITCH at a time, as its LINE tells it; STRUCK there -/
def cpt (c : Wo) (v : Nat) (t : Int) : Int := if cpl c v t = -1 then 1000 else clp c v (cpl c v t).toNat
def csk (c : Wo) (v : Nat) (t : Int) : Int := if cpl c v t = -1 then 0 else if csn c v t = cbg c v (cpl c v t).toNat ∧ ¬ clp c v (cpl c v t).toNat = 1000 then 1 else 0
def an_at (c : Wo) (v t : Int) : Int := if v < 0 ∨ 3 < v ∨ c (3 + v.toNat) 0 = 0 then 1002 else if t < 0 ∨ an_end c ≤ t then 1000 else cpt c v.toNat t
theorem an_end_b {c : Wo} (h : wfN c) (hS : wfS c) (hV : wfV c) : 0 ≤ an_end c ∧ an_end c ≤ 1252 := by
  have h1 := eo_b h hV 4 (Nat.le_refl _)
  have h2 := hS.2.2.2.2.1
  unfold an_end
  split <;> omega
theorem cpl_b {c : Wo} {v : Nat} (h : wfN c) (hV : wfV c) (hv : v < 4) (t : Int) : cpl c v t = -1 ∨ (0 ≤ cpl c v t ∧ cpl c v t < cn c) := by
  unfold cpl
  rcases plc_spec h hV hv (csn c v t) with q | ⟨p, a, b, _⟩
  · exact Or.inl q.2
  · rw [b]; exact Or.inr (by omega)
theorem cmR_fr {c I J : Wo} (h : ∀ a b, (a < 6 ∨ 42 < a) → ¬ (a = 0 ∧ b = 8) → J a b = I a b) (hR : cmR c I) : cmR c J := by
  obtain ⟨hw, h1, h2, h3, h4⟩ := hR
  refine ⟨hw, ⟨by rw [h 1 2 (by omega) (by omega)]; exact h1.1, fun j hj => by rw [h 2 j (by omega) (by omega), h 3 j (by omega) (by omega)]; exact h1.2 j hj⟩, ?_, fun v hv => ?_, ⟨by rw [h 0 10 (by omega) (by omega)]; exact h4.1, fun k hk => by rw [h 43 k (by omega) (by omega)]; exact h4.2 k hk⟩⟩
  · unfold cmS at h2 ⊢
    rw [h 5 0 (by omega) (by omega), h 5 1 (by omega) (by omega), h 5 2 (by omega) (by omega), h 5 3 (by omega) (by omega), h 5 4 (by omega) (by omega), h 0 7 (by omega) (by omega), h 0 9 (by omega) (by omega)]
    exact h2
  · have := h3 v hv
    rw [h (44 + v) 0 (by omega) (by omega), h (44 + v) 1 (by omega) (by omega), h (44 + v) 2 (by omega) (by omega), h (44 + v) 3 (by omega) (by omega), h (44 + v) 4 (by omega) (by omega)]
    exact this

-- CanonMaker.at(II)I
theorem d_CM_at_0 : decode prog_1_method_15_code 0 = .ok (.iload_n 1, 1) := by decide +kernel
theorem d_CM_at_1 : decode prog_1_method_15_code 1 = .ok (.ifCond .lt 20, 3) := by decide +kernel
theorem d_CM_at_4 : decode prog_1_method_15_code 4 = .ok (.iload_n 1, 1) := by decide +kernel
theorem d_CM_at_5 : decode prog_1_method_15_code 5 = .ok (.iconst 4, 1) := by decide +kernel
theorem d_CM_at_6 : decode prog_1_method_15_code 6 = .ok (.if_icmp .ge 15, 3) := by decide +kernel
theorem d_CM_at_9 : decode prog_1_method_15_code 9 = .ok (.aload_n 0, 1) := by decide +kernel
theorem d_CM_at_10 : decode prog_1_method_15_code 10 = .ok (.getfield 18, 3) := by decide +kernel
theorem d_CM_at_13 : decode prog_1_method_15_code 13 = .ok (.iload_n 1, 1) := by decide +kernel
theorem d_CM_at_14 : decode prog_1_method_15_code 14 = .ok (.aaload, 1) := by decide +kernel
theorem d_CM_at_15 : decode prog_1_method_15_code 15 = .ok (.getfield 53, 3) := by decide +kernel
theorem d_CM_at_18 : decode prog_1_method_15_code 18 = .ok (.ifCond .ne 7, 3) := by decide +kernel
theorem d_CM_at_21 : decode prog_1_method_15_code 21 = .ok (.sipush 1002, 3) := by decide +kernel
theorem d_CM_at_24 : decode prog_1_method_15_code 24 = .ok (.ireturn, 1) := by decide +kernel
theorem d_CM_at_25 : decode prog_1_method_15_code 25 = .ok (.iload_n 2, 1) := by decide +kernel
theorem d_CM_at_26 : decode prog_1_method_15_code 26 = .ok (.ifCond .lt 11, 3) := by decide +kernel
theorem d_CM_at_29 : decode prog_1_method_15_code 29 = .ok (.iload_n 2, 1) := by decide +kernel
theorem d_CM_at_30 : decode prog_1_method_15_code 30 = .ok (.aload_n 0, 1) := by decide +kernel
theorem d_CM_at_31 : decode prog_1_method_15_code 31 = .ok (.invokevirtual 111, 3) := by decide +kernel
theorem d_CM_at_34 : decode prog_1_method_15_code 34 = .ok (.if_icmp .lt 7, 3) := by decide +kernel
theorem d_CM_at_37 : decode prog_1_method_15_code 37 = .ok (.sipush 1000, 3) := by decide +kernel
theorem d_CM_at_40 : decode prog_1_method_15_code 40 = .ok (.ireturn, 1) := by decide +kernel
theorem d_CM_at_41 : decode prog_1_method_15_code 41 = .ok (.aload_n 0, 1) := by decide +kernel
theorem d_CM_at_42 : decode prog_1_method_15_code 42 = .ok (.getfield 32, 3) := by decide +kernel
theorem d_CM_at_45 : decode prog_1_method_15_code 45 = .ok (.getfield 114, 3) := by decide +kernel
theorem d_CM_at_48 : decode prog_1_method_15_code 48 = .ok (.iload_n 1, 1) := by decide +kernel
theorem d_CM_at_49 : decode prog_1_method_15_code 49 = .ok (.aaload, 1) := by decide +kernel
theorem d_CM_at_50 : decode prog_1_method_15_code 50 = .ok (.astore_n 3, 1) := by decide +kernel
theorem d_CM_at_51 : decode prog_1_method_15_code 51 = .ok (.aload_n 3, 1) := by decide +kernel
theorem d_CM_at_52 : decode prog_1_method_15_code 52 = .ok (.aload_n 0, 1) := by decide +kernel
theorem d_CM_at_53 : decode prog_1_method_15_code 53 = .ok (.getfield 12, 3) := by decide +kernel
theorem d_CM_at_56 : decode prog_1_method_15_code 56 = .ok (.aload_n 0, 1) := by decide +kernel
theorem d_CM_at_57 : decode prog_1_method_15_code 57 = .ok (.getfield 18, 3) := by decide +kernel
theorem d_CM_at_60 : decode prog_1_method_15_code 60 = .ok (.iload_n 1, 1) := by decide +kernel
theorem d_CM_at_61 : decode prog_1_method_15_code 61 = .ok (.aaload, 1) := by decide +kernel
theorem d_CM_at_62 : decode prog_1_method_15_code 62 = .ok (.aload_n 0, 1) := by decide +kernel
theorem d_CM_at_63 : decode prog_1_method_15_code 63 = .ok (.getfield 105, 3) := by decide +kernel
theorem d_CM_at_66 : decode prog_1_method_15_code 66 = .ok (.invokevirtual 118, 3) := by decide +kernel
theorem d_CM_at_69 : decode prog_1_method_15_code 69 = .ok (.aload_n 3, 1) := by decide +kernel
theorem d_CM_at_70 : decode prog_1_method_15_code 70 = .ok (.aload_n 0, 1) := by decide +kernel
theorem d_CM_at_71 : decode prog_1_method_15_code 71 = .ok (.getfield 12, 3) := by decide +kernel
theorem d_CM_at_74 : decode prog_1_method_15_code 74 = .ok (.invokevirtual 124, 3) := by decide +kernel
theorem d_CM_at_77 : decode prog_1_method_15_code 77 = .ok (.aload_n 3, 1) := by decide +kernel
theorem d_CM_at_78 : decode prog_1_method_15_code 78 = .ok (.iload_n 2, 1) := by decide +kernel
theorem d_CM_at_79 : decode prog_1_method_15_code 79 = .ok (.invokevirtual 128, 3) := by decide +kernel
theorem d_CM_at_82 : decode prog_1_method_15_code 82 = .ok (.istore 4, 2) := by decide +kernel
theorem d_CM_at_84 : decode prog_1_method_15_code 84 = .ok (.iload 4, 2) := by decide +kernel
theorem d_CM_at_86 : decode prog_1_method_15_code 86 = .ok (.iconst (-1), 1) := by decide +kernel
theorem d_CM_at_87 : decode prog_1_method_15_code 87 = .ok (.if_icmp .ne 9, 3) := by decide +kernel
theorem d_CM_at_90 : decode prog_1_method_15_code 90 = .ok (.sipush 1000, 3) := by decide +kernel
theorem d_CM_at_93 : decode prog_1_method_15_code 93 = .ok (.goto 10, 3) := by decide +kernel
theorem d_CM_at_96 : decode prog_1_method_15_code 96 = .ok (.aload_n 3, 1) := by decide +kernel
theorem d_CM_at_97 : decode prog_1_method_15_code 97 = .ok (.getfield 132, 3) := by decide +kernel
theorem d_CM_at_100 : decode prog_1_method_15_code 100 = .ok (.iload 4, 2) := by decide +kernel
theorem d_CM_at_102 : decode prog_1_method_15_code 102 = .ok (.iaload, 1) := by decide +kernel
theorem d_CM_at_103 : decode prog_1_method_15_code 103 = .ok (.ireturn, 1) := by decide +kernel
abbrev rm_CM_at : Room := { frames := 3, cells := 0, slots := 0, locals := 73 }
set_option maxHeartbeats 4000000 in
set_option maxRecDepth 100000 in
theorem c_CM_at (l : Launch) (D : va_G) (cs : Nat → ClassId) (ad : Nat → Nat) (zt : Nat) (hi : cm_inj ad) (c I : Wo) (h : cmR c I) (v : Int) (h_v : -2147483648 ≤ v ∧ v < 2147483648) (t : Int) (h_t : -2147483648 ≤ t ∧ t < 2147483648) : cm_C l D cs ad zt y_CM_at ws_CM_at rm_CM_at [.ref (ad 0), .int (zi v), .int (zi t)] I (mk_pi (fun r J => r = an_at c v t ∧ cmR c J)) := by
  refine mk_meti (own := "CanonMaker") (Ts := wA) hi (Nat.le_refl _) (by decide) rfl (fun w h => List.mem_cons_of_mem _ h) rfl (Nat.le_of_ble_eq_true rfl) [(0, .ref (ad 0)), (1, .int (zi v)), (2, .int (zi t))] rfl ?_
  intro p_ e_ s_ m_ as_ bl_ me_ co_ Q_ X hret
  obtain ⟨⟨⟨hn, hN⟩, ⟨hlo, hsc, hbt, hru, hrd, hst⟩, ⟨hV, hV0⟩, ⟨hfc, hF⟩⟩, ⟨i12, iN⟩, ⟨⟨i50, i51, i52, i53, i54⟩, i07, i09⟩, iV, ⟨i010, iF⟩⟩ := id h
  refine mk_iloadn (nx := 1) X 1 d_CM_at_0 rfl rfl ?_
  refine mk_if_lt (tgt := 21) (nx := 4) X d_CM_at_1 (by omega) (by decide) rfl (fun c1 => ?_) (fun c1 => ?_)
  · skip
    refine mk_sipush (nx := 24) X d_CM_at_21 (by decide) rfl ?_
    exact hret _ _ _ _ d_CM_at_24 (by exact ⟨by rw [an_at, if_pos (by omega)], h⟩)
  · skip
    refine mk_iloadn (nx := 5) X 1 d_CM_at_4 rfl rfl ?_
    refine mk_iconst (nx := 6) X d_CM_at_5 rfl ?_
    refine mk_icmp_ge (tgt := 21) (nx := 9) X d_CM_at_6 (by omega) (by omega) (by decide) rfl (fun c6 => ?_) (fun c6 => ?_)
    · skip
      refine mk_sipush (nx := 24) X d_CM_at_21 (by decide) rfl ?_
      exact hret _ _ _ _ d_CM_at_24 (by exact ⟨by rw [an_at, if_pos (by omega)], h⟩)
    · skip
      have hv4 := iV v.toNat (by omega)
      have hv5 := hV v.toNat (by omega)
      refine mk_aloadn (nx := 10) X 0 d_CM_at_9 rfl rfl ?_
      refine mk_get (nx := 13) (v := .ref (ad 4)) X 0 (by decide) (sh_CM cs ad _) rfl in_CM 1 (by decide) wd_288 rfl rfl d_CM_at_10 rfl ?_
      refine mk_iloadn (nx := 14) X 1 d_CM_at_13 rfl rfl ?_
      refine mk_aald (nx := 15) (j := v.toNat) X 4 2 (by decide) (sh_voices cs ad _) rfl (by omega) (by omega) (by decide) rfl rfl d_CM_at_14 rfl ?_
      refine mk_get (nx := 18) (v := .int (zi (I (44 + v.toNat) 0))) X (44 + v.toNat) (by omega) (sh_Voice cs ad (show v.toNat < 4 by omega) _) rfl in_Voice 0 (by decide) wd_265 rfl rfl d_CM_at_15 rfl ?_
      refine mk_if_ne (tgt := 25) (nx := 21) X d_CM_at_18 (by omega) (by decide) rfl (fun c18 => ?_) (fun c18 => ?_)
      · skip
        have heb := an_end_b h.1.1 h.1.2.1 h.1.2.2.1
        have hcn := cn_e h.1.1
        have hplb := cpl_b h.1.1 h.1.2.2.1 (show v.toNat < 4 by omega) t
        refine mk_iloadn (nx := 26) X 2 d_CM_at_25 rfl rfl ?_
        refine mk_if_lt (tgt := 37) (nx := 29) X d_CM_at_26 (by omega) (by decide) rfl (fun c26 => ?_) (fun c26 => ?_)
        · skip
          refine mk_sipush (nx := 40) X d_CM_at_37 (by decide) rfl ?_
          exact hret _ _ _ _ d_CM_at_40 (by exact ⟨by rw [an_at, if_neg (by omega), if_pos (by omega)], h⟩)
        · skip
          refine mk_iloadn (nx := 30) X 2 d_CM_at_29 rfl rfl ?_
          refine mk_aloadn (nx := 31) X 0 d_CM_at_30 rfl rfl ?_
          refine mk_callVi (nx := 34) (n := 0) (As := []) (rest := [.int (zi t)]) X 0 (by decide) (sh_CM cs ad _) rfl (c_CM_countTimes l D cs ad zt hi c I h) (g_CM_countTimes wd_387) rfl ⟨rfl, rfl⟩ (by decide +kernel) ⟨by decide, by decide⟩ rfl (Nat.le_of_ble_eq_true rfl) rfl d_CM_at_31 rfl ?_
          intro r31 J1 hJ1
          obtain ⟨rfl, rfl⟩ := hJ1
          refine mk_icmp_lt (tgt := 41) (nx := 37) X d_CM_at_34 (by omega) (by omega) (by decide) rfl (fun c34 => ?_) (fun c34 => ?_)
          · skip
            refine mk_aloadn (nx := 42) X 0 d_CM_at_41 rfl rfl ?_
            refine mk_get (nx := 45) (v := .ref (ad 6)) X 0 (by decide) (sh_CM cs ad _) rfl in_CM 3 (by decide) wd_290 rfl rfl d_CM_at_42 rfl ?_
            refine mk_get (nx := 48) (v := .ref (ad 7)) X 6 (by decide) (sh_Score cs ad _) rfl in_Score 0 (by decide) wd_179 rfl rfl d_CM_at_45 rfl ?_
            refine mk_iloadn (nx := 49) X 1 d_CM_at_48 rfl rfl ?_
            refine mk_aald (nx := 50) (j := v.toNat) X 7 3 (by decide) (sh_lines cs ad _) rfl (by omega) (by omega) (by decide) rfl rfl d_CM_at_49 rfl ?_
            refine mk_astoren (nx := 51) X [(3, .ref (ad (12 + 6 * v.toNat))), (0, .ref (ad 0)), (1, .int (zi v)), (2, .int (zi t))] d_CM_at_50 (by decide) rfl rfl ?_
            refine mk_aloadn (nx := 52) X 0 d_CM_at_51 rfl rfl ?_
            refine mk_aloadn (nx := 53) X 1 d_CM_at_52 rfl rfl ?_
            refine mk_get (nx := 56) (v := .ref (ad 1)) X 0 (by decide) (sh_CM cs ad _) rfl in_CM 0 (by decide) wd_287 rfl rfl d_CM_at_53 rfl ?_
            refine mk_aloadn (nx := 57) X 1 d_CM_at_56 rfl rfl ?_
            refine mk_get (nx := 60) (v := .ref (ad 4)) X 0 (by decide) (sh_CM cs ad _) rfl in_CM 1 (by decide) wd_288 rfl rfl d_CM_at_57 rfl ?_
            refine mk_iloadn (nx := 61) X 2 d_CM_at_60 rfl rfl ?_
            refine mk_aald (nx := 62) (j := v.toNat) X 4 2 (by decide) (sh_voices cs ad _) rfl (by omega) (by omega) (by decide) rfl rfl d_CM_at_61 rfl ?_
            refine mk_aloadn (nx := 63) X 1 d_CM_at_62 rfl rfl ?_
            refine mk_get (nx := 66) (v := .int (zi (I 0 7))) X 0 (by decide) (sh_CM cs ad _) rfl in_CM 7 (by decide) wd_294 rfl rfl d_CM_at_63 rfl ?_
            rw [show I 0 7 = c 0 6 from i07]
            refine mk_callVv (nx := 69) (n := 3) (As := [.ref (ad 1), .ref (ad (44 + v.toNat)), .int (zi (c 0 6))]) (rest := []) X (12 + 6 * v.toNat) (by omega) (sh_Line cs ad (show v.toNat < 4 by omega) _) rfl (c_Line_lay l D cs ad zt hi c I h.1.1 h.1.2.1 h.1.2.2.1 h.2.1 v.toNat (by omega) (iV v.toNat (by omega))) (g_Line_lay wd_398) rfl ⟨rfl, rfl⟩ (by decide +kernel) ⟨by decide, by decide⟩ rfl (Nat.le_of_ble_eq_true rfl) rfl d_CM_at_66 rfl ?_
            intro JA hJA
            refine mk_aloadn (nx := 70) X 0 d_CM_at_69 rfl rfl ?_
            refine mk_aloadn (nx := 71) X 1 d_CM_at_70 rfl rfl ?_
            refine mk_get (nx := 74) (v := .ref (ad 1)) X 0 (by decide) (sh_CM cs ad _) rfl in_CM 0 (by decide) wd_287 rfl rfl d_CM_at_71 rfl ?_
            refine mk_callVv (nx := 77) (n := 1) (As := [.ref (ad 1)]) (rest := []) X (12 + 6 * v.toNat) (by omega) (sh_Line cs ad (show v.toNat < 4 by omega) _) rfl (c_Line_tune l D cs ad zt hi c JA h.1.1 h.1.2.1 h.1.2.2.1 (cmN_fr (fun a b x => hJA.2.2.2 a b (Or.inl (by omega))) h.2.1) v.toNat (by omega) hJA.1 hJA.2.1) (g_Line_tune wd_409) rfl ⟨rfl, rfl⟩ (by decide +kernel) ⟨by decide, by decide⟩ rfl (Nat.le_of_ble_eq_true rfl) rfl d_CM_at_74 rfl ?_
            intro JB hJB
            refine mk_aloadn (nx := 78) X 0 d_CM_at_77 rfl rfl ?_
            refine mk_iloadn (nx := 79) X 3 d_CM_at_78 rfl rfl ?_
            refine mk_callVi (nx := 82) (n := 1) (As := [.int (zi t)]) (rest := []) X (12 + 6 * v.toNat) (by omega) (sh_Line cs ad (show v.toNat < 4 by omega) _) rfl (c_Line_placeAt l D cs ad zt hi c JB h.1.1 h.1.2.1 h.1.2.2.1 v.toNat (by omega) (LnF_fr (fun b => hJB.2 _ b (by omega)) hJA.1) (LnB_fr (fun b => ⟨hJB.2 _ b (by omega), hJB.2 _ b (by omega)⟩) hJA.2.1) t (by omega)) (g_Line_placeAt wd_417) rfl ⟨rfl, rfl⟩ (by decide +kernel) ⟨by decide, by decide⟩ rfl (Nat.le_of_ble_eq_true rfl) rfl d_CM_at_79 rfl ?_
            intro r79 J2 hJ2
            obtain ⟨rfl, rfl⟩ := hJ2
            refine mk_istore (nx := 84) X [(4, .int (zi (cpl c v.toNat t))), (3, .ref (ad (12 + 6 * v.toNat))), (0, .ref (ad 0)), (1, .int (zi v)), (2, .int (zi t))] d_CM_at_82 (by decide) rfl rfl ?_
            refine mk_iload (nx := 86) X 0 d_CM_at_84 rfl rfl ?_
            refine mk_iconst (nx := 87) X d_CM_at_86 rfl ?_
            refine mk_icmp_ne (tgt := 96) (nx := 90) X d_CM_at_87 (by omega) (by omega) (by decide) rfl (fun c87 => ?_) (fun c87 => ?_)
            · skip
              refine mk_aloadn (nx := 97) X 1 d_CM_at_96 rfl rfl ?_
              refine mk_get (nx := 100) (v := .ref (ad (15 + 6 * v.toNat))) X (12 + 6 * v.toNat) (by omega) (sh_Line cs ad (show v.toNat < 4 by omega) _) rfl in_Line 2 (by decide) wd_132 rfl rfl d_CM_at_97 rfl ?_
              refine mk_iload (nx := 102) X 0 d_CM_at_100 rfl rfl ?_
              refine mk_iald (nx := 103) (j := (cpl c v.toNat t).toNat) X (15 + 6 * v.toNat) 0 (by omega) (sh_Lpit cs ad (show v.toNat < 4 by omega) _) rfl (by omega) (by omega) (by decide) rfl d_CM_at_102 rfl ?_
              rw [show JB (15 + 6 * v.toNat) ((cpl c v.toNat t).toNat) = clp c v.toNat ((cpl c v.toNat t).toNat) from (hJB.1 ((cpl c v.toNat t).toNat) (by omega))]
              exact hret _ _ _ _ d_CM_at_103 (by exact ⟨by rw [an_at, if_neg (by omega), if_neg (by omega)]; unfold cpt; first | rw [if_pos (by omega)] | rw [if_neg (by omega)], cmR_fr (fun a b x _ => (hJB.2 a b (by omega)).trans (hJA.2.2.2 a b (by omega))) h⟩)
            · skip
              refine mk_sipush (nx := 93) X d_CM_at_90 (by decide) rfl ?_
              refine mk_goto (tgt := 103) X d_CM_at_93 (by decide) ?_
              exact hret _ _ _ _ d_CM_at_103 (by exact ⟨by rw [an_at, if_neg (by omega), if_neg (by omega)]; unfold cpt; first | rw [if_pos (by omega)] | rw [if_neg (by omega)], cmR_fr (fun a b x _ => (hJB.2 a b (by omega)).trans (hJA.2.2.2 a b (by omega))) h⟩)
          · skip
            refine mk_sipush (nx := 40) X d_CM_at_37 (by decide) rfl ?_
            exact hret _ _ _ _ d_CM_at_40 (by exact ⟨by rw [an_at, if_neg (by omega), if_pos (by omega)], h⟩)
      · skip
        refine mk_sipush (nx := 24) X d_CM_at_21 (by decide) rfl ?_
        exact hret _ _ _ _ d_CM_at_24 (by exact ⟨by rw [an_at, if_pos (by omega)], h⟩)
end
section
/-! the reference's lay: which entry an offset meets -/
theorem eo_ge {c : Wo} {v : Nat} (hon : c (3 + v) 0 = 1) : ∀ m, v < m → c (3 + v) 1 + an_size c * c (3 + v) 4 ≤ eo c m := by
  intro m
  induction m with
  | zero => intro h; omega
  | succ m ih =>
    intro h
    simp only [eo]
    by_cases e : v = m
    · subst e; rw [if_pos hon]; omega
    · have := ih (by omega)
      split <;> omega
section ML
variable {c : Wo} {v : Nat}
/-- the entry at which the offset o of the LINE lies -/
def mlx (c : Wo) (v : Nat) (o : Int) : Int := if 0 < c 0 6 then (c (3 + v) 1 + o) % c 0 6 else c (3 + v) 1 + o
theorem mlx_b (h : wfN c) (hS : wfS c) (hV : wfV c) (hv : v < 4) (hon : c (3 + v) 0 = 1) {o : Int} (h0 : 0 ≤ o) (h1 : o < cbg c v (cn c)) : 0 ≤ mlx c v o ∧ mlx c v o < an_end c := by
  have hd := (hV.1 v hv).2.1
  unfold mlx an_end
  by_cases hr : 0 < c 0 6
  · rw [if_pos hr, if_pos hr]
    exact ⟨Int.emod_nonneg _ (by omega), Int.emod_lt_of_pos _ hr⟩
  · rw [if_neg hr, if_neg hr]
    have h2 := eo_ge hon 4 hv
    rw [cbg_all] at h1
    omega
theorem csn_mlx (hS : wfS c) {o : Int} (h0 : 0 ≤ o) : csn c v (mlx c v o) = if 0 < c 0 6 then o % c 0 6 else o := by
  unfold csn mlx
  by_cases hr : 0 < c 0 6
  · rw [if_pos hr, if_pos hr, if_pos hr, Int.sub_emod, Int.emod_emod, ← Int.sub_emod]
    congr 1
    omega
  · rw [if_neg hr, if_neg hr, if_neg hr]
    omega
theorem csn_nn (x : Int) (hr : 0 < c 0 6) : 0 ≤ csn c v x ∧ csn c v x < c 0 6 := by
  unfold csn
  rw [if_pos hr]
  exact ⟨Int.emod_nonneg _ (by omega), Int.emod_lt_of_pos _ hr⟩
theorem csn_inj {x y : Int} (hx : 0 ≤ x ∧ x < an_end c) (hy : 0 ≤ y ∧ y < an_end c) (h : csn c v x = csn c v y) : x = y := by
  unfold csn at h
  unfold an_end at hx hy
  by_cases hr : 0 < c 0 6
  · rw [if_pos hr] at hx hy h
    rw [if_pos hr] at h
    have h1 := Int.emod_emod_of_dvd (x - c (3 + v) 1 - (y - c (3 + v) 1)) (Int.dvd_refl (c 0 6))
    have h2 : (x - c (3 + v) 1 - (y - c (3 + v) 1)) % c 0 6 = 0 := by
      rw [Int.sub_emod, h, Int.sub_self, Int.zero_emod]
    rw [show x - c (3 + v) 1 - (y - c (3 + v) 1) = x - y by omega] at h2
    obtain ⟨k, hk⟩ := Int.dvd_of_emod_eq_zero h2
    have h3 : -c 0 6 < x - y ∧ x - y < c 0 6 := by omega
    rw [hk] at h3
    have hk0 : k = 0 := by
      rcases Int.lt_trichotomy k 0 with q | q | q
      · have h5 : c 0 6 * k ≤ c 0 6 * (-1) := Int.mul_le_mul_of_nonneg_left (by omega) (by omega)
        omega
      · exact q
      · have h5 : c 0 6 * 1 ≤ c 0 6 * k := Int.mul_le_mul_of_nonneg_left (by omega) (by omega)
        omega
    rw [hk0] at hk
    omega
  · rw [if_neg hr, if_neg hr] at h
    omega
/-- lay's loop over the offsets: the entries whose offset is below lim are set -/
def MlV (c J : Wo) (v : Nat) (lim : Int) : Prop := ∀ x : Nat, (x : Int) < an_end c → (J 10 (1300 * v + x) = if 0 ≤ csn c v x ∧ csn c v x < lim then cpl c v x else -1) ∧ (J 8 (1300 * v + x) = if 0 ≤ csn c v x ∧ csn c v x < lim then cpt c v x else 1000) ∧ (J 9 (1300 * v + x) = if 0 ≤ csn c v x ∧ csn c v x < lim then csk c v x else 0)
def MlL (c J : Wo) (v m : Nat) : Prop := ∀ q, q < m → J 11 (24 * v + q) = clp c v q
def MlO (I J : Wo) (v : Nat) : Prop := (∀ a b, (a < 8 ∨ 11 < a) → J a b = I a b) ∧ (∀ a b, 8 ≤ a → a ≤ 10 → (b < 1300 * v ∨ 1300 * v + 1300 ≤ b) → J a b = I a b) ∧ ∀ b, (b < 24 * v ∨ 24 * v + 24 ≤ b) → J 11 b = I 11 b
theorem ml_A {J : Wo} (h : wfN c) (hS : wfS c) (hV : wfV c) (hv : v < 4) (hon : c (3 + v) 0 = 1) {o : Int} (h0 : 0 ≤ o) (h1 : o < cbg c v (cn c)) {x0 : Nat} (hx : (x0 : Int) = mlx c v o) (hM : MlV c J v o) (hs : 0 ≤ J 10 (1300 * v + x0)) : MlV c J v (o + 1) := by
  have hb := mlx_b h hS hV hv hon h0 h1
  have e0 := csn_mlx (v := v) hS h0
  rw [← hx] at e0 hb
  have hlt : 0 ≤ csn c v x0 ∧ csn c v x0 < o := by
    have := (hM x0 (by omega)).1
    by_cases hc : 0 ≤ csn c v x0 ∧ csn c v x0 < o
    · exact hc
    · rw [if_neg hc] at this; omega
  intro x hxT
  have hne : csn c v x ≠ o := by
    intro z
    by_cases hr : 0 < c 0 6
    · have h3 := csn_nn (c := c) (v := v) x hr
      rw [if_pos hr, Int.emod_eq_of_lt h0 (by omega)] at e0
      omega
    · rw [if_neg hr] at e0
      omega
  have hiff : (0 ≤ csn c v x ∧ csn c v x < o + 1) ↔ (0 ≤ csn c v x ∧ csn c v x < o) := by omega
  simp only [hiff]
  exact hM x hxT
theorem ml_B {J J1 J2 J3 : Wo} (h : wfN c) (hS : wfS c) (hV : wfV c) (hv : v < 4) (hon : c (3 + v) 0 = 1) {o : Int} {j : Nat} {sk : Int} (hj : j < cn c) (h0 : cbg c v j ≤ o) (h1 : o < cbg c v (j + 1)) {x0 : Nat} (hx : (x0 : Int) = mlx c v o) (hM : MlV c J v o) (hs : J 10 (1300 * v + x0) < 0)
    (e1 : J1 = up2 J 10 (1300 * v + x0) (j : Int)) (e2 : J2 = up2 J1 8 (1300 * v + x0) (clp c v j)) (e3 : J3 = up2 J2 9 (1300 * v + x0) sk) (hsk : sk = if o = cbg c v j ∧ ¬ clp c v j = 1000 then 1 else 0) : MlV c J3 v (o + 1) := by
  have hj0 := cbg_b h hV hv (Nat.le_of_lt hj)
  have hle : cbg c v (j + 1) ≤ cbg c v (cn c) := by
    by_cases e : j + 1 = cn c
    · rw [e]; exact Int.le_refl _
    · exact Int.le_of_lt (cbg_lt h hV hv (show j + 1 < cn c by omega) (Nat.le_refl _))
  have hb := mlx_b h hS hV hv hon (o := o) (by omega) (by omega)
  have e0 := csn_mlx (v := v) hS (o := o) (by omega)
  rw [← hx] at e0 hb
  have hs0 : csn c v x0 = o := by
    have h3 := (hM x0 (by omega)).1
    have h4 := cpl_b h hV hv (x0 : Int)
    have h5 : ¬ (0 ≤ csn c v x0 ∧ csn c v x0 < o) := by
      intro z
      rw [if_pos z] at h3
      rcases plc_spec h hV hv (csn c v x0) with q | ⟨p, a, b, _⟩
      · omega
      · unfold cpl at h3; omega
    by_cases hr : 0 < c 0 6
    · have h6 := csn_nn (c := c) (v := v) x0 hr
      rw [if_pos hr] at e0
      by_cases hlt : o < c 0 6
      · rw [e0, Int.emod_eq_of_lt (by omega) hlt]
      · omega
    · rw [e0, if_neg hr]
  have hpl : cpl c v x0 = j := by
    unfold cpl
    rw [hs0]
    exact plc_eq h hV hv hj h0 h1
  subst e3; subst e2; subst e1
  intro x hxT
  by_cases e : x = x0
  · subst e
    have hc : 0 ≤ csn c v x ∧ csn c v x < o + 1 := by omega
    simp only [if_pos hc]
    refine ⟨by simp [up2, up1, hpl], ?_, ?_⟩
    · have : cpt c v x = clp c v j := by
        unfold cpt
        rw [hpl, if_neg (by omega), Int.toNat_natCast]
      simp [up2, up1, this]
    · have : csk c v x = sk := by
        unfold csk
        rw [hpl, if_neg (by omega), Int.toNat_natCast, hs0, hsk]
      simp [up2, up1, this]
  · have hne : csn c v x ≠ o := fun z => e (by
      have := csn_inj (c := c) (v := v) (x := x) (y := x0) (by omega) (by omega) (by rw [z, hs0])
      omega)
    have hiff : (0 ≤ csn c v x ∧ csn c v x < o + 1) ↔ (0 ≤ csn c v x ∧ csn c v x < o) := by omega
    have e2 : ¬ 1300 * v + x = 1300 * v + x0 := by omega
    have := hM x hxT
    simp only [hiff]
    simpa [up2, up1, e, e2] using this
theorem ml_end {J : Wo} (h : wfN c) (hV : wfV c) (hv : v < 4) (hM : MlV c J v (cbg c v (cn c))) : ∀ x : Nat, (x : Int) < an_end c → J 10 (1300 * v + x) = cpl c v x ∧ J 8 (1300 * v + x) = cpt c v x ∧ J 9 (1300 * v + x) = csk c v x := by
  intro x hx
  obtain ⟨a, b, d⟩ := hM x hx
  by_cases hc : 0 ≤ csn c v x ∧ csn c v x < cbg c v (cn c)
  · rw [if_pos hc] at a b d
    exact ⟨a, b, d⟩
  · rw [if_neg hc] at a b d
    have e : cpl c v x = -1 := by
      unfold cpl plc
      rw [if_pos (by omega)]
    refine ⟨by rw [a, e], ?_, ?_⟩
    · rw [b, cpt, if_pos e]
    · rw [d, csk, if_pos e]
end ML

-- CanonMakerModel.pitchOf(II)I
theorem d_Mo_pitchOf_0 : decode prog_9_method_15_code 0 = .ok (.aload_n 0, 1) := by decide +kernel
theorem d_Mo_pitchOf_1 : decode prog_9_method_15_code 1 = .ok (.getfield 7, 3) := by decide +kernel
theorem d_Mo_pitchOf_4 : decode prog_9_method_15_code 4 = .ok (.iload_n 2, 1) := by decide +kernel
theorem d_Mo_pitchOf_5 : decode prog_9_method_15_code 5 = .ok (.iaload, 1) := by decide +kernel
theorem d_Mo_pitchOf_6 : decode prog_9_method_15_code 6 = .ok (.istore_n 3, 1) := by decide +kernel
theorem d_Mo_pitchOf_7 : decode prog_9_method_15_code 7 = .ok (.iload_n 3, 1) := by decide +kernel
theorem d_Mo_pitchOf_8 : decode prog_9_method_15_code 8 = .ok (.iconst (-1), 1) := by decide +kernel
theorem d_Mo_pitchOf_9 : decode prog_9_method_15_code 9 = .ok (.if_icmp .ne 7, 3) := by decide +kernel
theorem d_Mo_pitchOf_12 : decode prog_9_method_15_code 12 = .ok (.sipush 1000, 3) := by decide +kernel
theorem d_Mo_pitchOf_15 : decode prog_9_method_15_code 15 = .ok (.ireturn, 1) := by decide +kernel
theorem d_Mo_pitchOf_16 : decode prog_9_method_15_code 16 = .ok (.aload_n 0, 1) := by decide +kernel
theorem d_Mo_pitchOf_17 : decode prog_9_method_15_code 17 = .ok (.getfield 26, 3) := by decide +kernel
theorem d_Mo_pitchOf_20 : decode prog_9_method_15_code 20 = .ok (.iload_n 1, 1) := by decide +kernel
theorem d_Mo_pitchOf_21 : decode prog_9_method_15_code 21 = .ok (.iaload, 1) := by decide +kernel
theorem d_Mo_pitchOf_22 : decode prog_9_method_15_code 22 = .ok (.iconst 1, 1) := by decide +kernel
theorem d_Mo_pitchOf_23 : decode prog_9_method_15_code 23 = .ok (.iand, 1) := by decide +kernel
theorem d_Mo_pitchOf_24 : decode prog_9_method_15_code 24 = .ok (.ifCond .ne 24, 3) := by decide +kernel
theorem d_Mo_pitchOf_27 : decode prog_9_method_15_code 27 = .ok (.iload_n 3, 1) := by decide +kernel
theorem d_Mo_pitchOf_28 : decode prog_9_method_15_code 28 = .ok (.bipush (-2), 2) := by decide +kernel
theorem d_Mo_pitchOf_30 : decode prog_9_method_15_code 30 = .ok (.if_icmp .ne 9, 3) := by decide +kernel
theorem d_Mo_pitchOf_33 : decode prog_9_method_15_code 33 = .ok (.sipush 1001, 3) := by decide +kernel
theorem d_Mo_pitchOf_36 : decode prog_9_method_15_code 36 = .ok (.goto 11, 3) := by decide +kernel
theorem d_Mo_pitchOf_39 : decode prog_9_method_15_code 39 = .ok (.iload_n 3, 1) := by decide +kernel
theorem d_Mo_pitchOf_40 : decode prog_9_method_15_code 40 = .ok (.aload_n 0, 1) := by decide +kernel
theorem d_Mo_pitchOf_41 : decode prog_9_method_15_code 41 = .ok (.getfield 23, 3) := by decide +kernel
theorem d_Mo_pitchOf_44 : decode prog_9_method_15_code 44 = .ok (.iload_n 1, 1) := by decide +kernel
theorem d_Mo_pitchOf_45 : decode prog_9_method_15_code 45 = .ok (.iaload, 1) := by decide +kernel
theorem d_Mo_pitchOf_46 : decode prog_9_method_15_code 46 = .ok (.iadd, 1) := by decide +kernel
theorem d_Mo_pitchOf_47 : decode prog_9_method_15_code 47 = .ok (.ireturn, 1) := by decide +kernel
theorem d_Mo_pitchOf_48 : decode prog_9_method_15_code 48 = .ok (.iconst 0, 1) := by decide +kernel
theorem d_Mo_pitchOf_49 : decode prog_9_method_15_code 49 = .ok (.istore 4, 2) := by decide +kernel
theorem d_Mo_pitchOf_51 : decode prog_9_method_15_code 51 = .ok (.aload_n 0, 1) := by decide +kernel
theorem d_Mo_pitchOf_52 : decode prog_9_method_15_code 52 = .ok (.getfield 7, 3) := by decide +kernel
theorem d_Mo_pitchOf_55 : decode prog_9_method_15_code 55 = .ok (.iload 4, 2) := by decide +kernel
theorem d_Mo_pitchOf_57 : decode prog_9_method_15_code 57 = .ok (.iaload, 1) := by decide +kernel
theorem d_Mo_pitchOf_58 : decode prog_9_method_15_code 58 = .ok (.iconst (-1), 1) := by decide +kernel
theorem d_Mo_pitchOf_59 : decode prog_9_method_15_code 59 = .ok (.if_icmp .ne 9, 3) := by decide +kernel
theorem d_Mo_pitchOf_62 : decode prog_9_method_15_code 62 = .ok (.iinc 4 1, 3) := by decide +kernel
theorem d_Mo_pitchOf_65 : decode prog_9_method_15_code 65 = .ok (.goto (-14), 3) := by decide +kernel
theorem d_Mo_pitchOf_68 : decode prog_9_method_15_code 68 = .ok (.iload_n 3, 1) := by decide +kernel
theorem d_Mo_pitchOf_69 : decode prog_9_method_15_code 69 = .ok (.bipush (-2), 2) := by decide +kernel
theorem d_Mo_pitchOf_71 : decode prog_9_method_15_code 71 = .ok (.if_icmp .eq 15, 3) := by decide +kernel
theorem d_Mo_pitchOf_74 : decode prog_9_method_15_code 74 = .ok (.aload_n 0, 1) := by decide +kernel
theorem d_Mo_pitchOf_75 : decode prog_9_method_15_code 75 = .ok (.getfield 7, 3) := by decide +kernel
theorem d_Mo_pitchOf_78 : decode prog_9_method_15_code 78 = .ok (.iload 4, 2) := by decide +kernel
theorem d_Mo_pitchOf_80 : decode prog_9_method_15_code 80 = .ok (.iaload, 1) := by decide +kernel
theorem d_Mo_pitchOf_81 : decode prog_9_method_15_code 81 = .ok (.bipush (-2), 2) := by decide +kernel
theorem d_Mo_pitchOf_83 : decode prog_9_method_15_code 83 = .ok (.if_icmp .ne 9, 3) := by decide +kernel
theorem d_Mo_pitchOf_86 : decode prog_9_method_15_code 86 = .ok (.sipush 1001, 3) := by decide +kernel
theorem d_Mo_pitchOf_89 : decode prog_9_method_15_code 89 = .ok (.goto 21, 3) := by decide +kernel
theorem d_Mo_pitchOf_92 : decode prog_9_method_15_code 92 = .ok (.iconst 2, 1) := by decide +kernel
theorem d_Mo_pitchOf_93 : decode prog_9_method_15_code 93 = .ok (.aload_n 0, 1) := by decide +kernel
theorem d_Mo_pitchOf_94 : decode prog_9_method_15_code 94 = .ok (.getfield 7, 3) := by decide +kernel
theorem d_Mo_pitchOf_97 : decode prog_9_method_15_code 97 = .ok (.iload 4, 2) := by decide +kernel
theorem d_Mo_pitchOf_99 : decode prog_9_method_15_code 99 = .ok (.iaload, 1) := by decide +kernel
theorem d_Mo_pitchOf_100 : decode prog_9_method_15_code 100 = .ok (.imul, 1) := by decide +kernel
theorem d_Mo_pitchOf_101 : decode prog_9_method_15_code 101 = .ok (.iload_n 3, 1) := by decide +kernel
theorem d_Mo_pitchOf_102 : decode prog_9_method_15_code 102 = .ok (.isub, 1) := by decide +kernel
theorem d_Mo_pitchOf_103 : decode prog_9_method_15_code 103 = .ok (.aload_n 0, 1) := by decide +kernel
theorem d_Mo_pitchOf_104 : decode prog_9_method_15_code 104 = .ok (.getfield 23, 3) := by decide +kernel
theorem d_Mo_pitchOf_107 : decode prog_9_method_15_code 107 = .ok (.iload_n 1, 1) := by decide +kernel
theorem d_Mo_pitchOf_108 : decode prog_9_method_15_code 108 = .ok (.iaload, 1) := by decide +kernel
theorem d_Mo_pitchOf_109 : decode prog_9_method_15_code 109 = .ok (.iadd, 1) := by decide +kernel
theorem d_Mo_pitchOf_110 : decode prog_9_method_15_code 110 = .ok (.ireturn, 1) := by decide +kernel
abbrev rm_Mo_pitchOf : Room := { frames := 0, cells := 0, slots := 0, locals := 0 }
set_option maxHeartbeats 4000000 in
set_option maxRecDepth 100000 in
theorem c_Mo_pitchOf (l : Launch) (D : va_G) (cs : Nat → ClassId) (ad : Nat → Nat) (hi : mo_inj ad) (c I : Wo) (h : moR c I) (v : Nat) (hv : v < 4) (i : Nat) (hin : i < cn c) : mo_C l D cs ad y_Mo_pitchOf ws_Mo_pitchOf rm_Mo_pitchOf [.ref (ad 0), .int (zi (v : Int)), .int (zi (i : Int))] I (mk_pi (fun r J => I = J ∧ r = lpi (c 1) (cn c) (c (3 + v) 3) (c (3 + v) 2) i)) := by
  refine mk_meti (own := "CanonMakerModel") (Ts := wA) hi (Nat.le_refl _) (by decide) rfl (fun w h => List.mem_cons_of_mem _ h) rfl (Nat.le_of_ble_eq_true rfl) [(0, .ref (ad 0)), (1, .int (zi (v : Int))), (2, .int (zi (i : Int)))] rfl ?_
  intro p_ e_ s_ m_ as_ bl_ me_ co_ Q_ X hret
  obtain ⟨⟨⟨hn, hN⟩, ⟨hlo, hsc, hbt, hru, hrd, hst⟩, ⟨hV, hV0⟩, ⟨hfc, hF⟩⟩, ⟨i12, iN⟩, ⟨⟨i50, i51, i52, i53, i54⟩, i07, i09⟩, iV, ⟨i010, iF⟩⟩ := id h
  have hcn := cn_e h.1.1
  have hp0 := (hN i (by omega)).1
  have hv5 := hV v hv
  have L51 : ∀ nf : Nat, ∀ (k : Nat), (k ≤ i) → (∀ j, j < k → c 1 j = -1) → (¬ ziand (c (3 + v) 3) 1 = 0) → (¬ c 1 i = -1) → 24 - k < nf → mk_A p_ l e_ rm_Mo_pitchOf s_ m_ as_ bl_ me_ co_ Q_ 5 D cmcl (mo_sh cs ad) 16 16 ad I [(0, .ref (ad 0)), (1, .int (zi (v : Int))), (2, .int (zi (i : Int))), (3, .int (zi (c 1 i))), (4, .int (zi (k : Int)))] 51 [] := by
    intro nf
    induction nf with
    | zero => intro k hk hb hmo hpi hn; exact absurd hn (Nat.not_lt_zero _)
    | succ nf ih51 =>
      intro k hk hb hmo hpi hn51
      refine mk_aloadn (nx := 52) X 0 d_Mo_pitchOf_51 rfl rfl ?_
      refine mk_get (nx := 55) (v := .ref (ad 1)) X 0 (by decide) (mh_Mo cs ad _) rfl in_Mo 0 (by decide) wd_595 rfl rfl d_Mo_pitchOf_52 rfl ?_
      refine mk_iload (nx := 57) X 4 d_Mo_pitchOf_55 rfl rfl ?_
      refine mk_iald (nx := 58) (j := k) X 1 0 (by decide) (mh_pitches cs ad _) rfl (by omega) (by omega) (by decide) rfl d_Mo_pitchOf_57 rfl ?_
      rw [show I 1 k = c 1 k from (iN k (by omega)).1]
      have hpk := (hN k (by omega)).1
      refine mk_iconst (nx := 59) X d_Mo_pitchOf_58 rfl ?_
      refine mk_icmp_ne (tgt := 68) (nx := 62) X d_Mo_pitchOf_59 (by omega) (by omega) (by decide) rfl (fun c59 => ?_) (fun c59 => ?_)
      · skip
        refine mk_iloadn (nx := 69) X 3 d_Mo_pitchOf_68 rfl rfl ?_
        refine mk_bipush (nx := 71) X d_Mo_pitchOf_69 (by decide) rfl ?_
        refine mk_icmp_eq (tgt := 86) (nx := 74) X d_Mo_pitchOf_71 (by omega) (by omega) (by decide) rfl (fun c71 => ?_) (fun c71 => ?_)
        · skip
          refine mk_sipush (nx := 89) X d_Mo_pitchOf_86 (by decide) rfl ?_
          refine mk_goto (tgt := 110) X d_Mo_pitchOf_89 (by decide) ?_
          exact hret _ _ _ _ d_Mo_pitchOf_110 (by first | exact ⟨rfl, by rw [lpi, if_neg (by omega), if_neg (by omega), fso_eq (k := k) (by omega) hb (fun _ => by omega), if_pos (by omega)]⟩ | exact ⟨rfl, by rw [lpi, if_neg (by omega), if_neg (by omega), fso_eq (k := k) (by omega) hb (fun _ => by omega), if_neg (by omega)]⟩)
        · skip
          refine mk_aloadn (nx := 75) X 0 d_Mo_pitchOf_74 rfl rfl ?_
          refine mk_get (nx := 78) (v := .ref (ad 1)) X 0 (by decide) (mh_Mo cs ad _) rfl in_Mo 0 (by decide) wd_595 rfl rfl d_Mo_pitchOf_75 rfl ?_
          refine mk_iload (nx := 80) X 4 d_Mo_pitchOf_78 rfl rfl ?_
          refine mk_iald (nx := 81) (j := k) X 1 0 (by decide) (mh_pitches cs ad _) rfl (by omega) (by omega) (by decide) rfl d_Mo_pitchOf_80 rfl ?_
          rw [show I 1 k = c 1 k from (iN k (by omega)).1]
          refine mk_bipush (nx := 83) X d_Mo_pitchOf_81 (by decide) rfl ?_
          refine mk_icmp_ne (tgt := 92) (nx := 86) X d_Mo_pitchOf_83 (by omega) (by omega) (by decide) rfl (fun c83 => ?_) (fun c83 => ?_)
          · skip
            refine mk_iconst (nx := 93) X d_Mo_pitchOf_92 rfl ?_
            refine mk_aloadn (nx := 94) X 0 d_Mo_pitchOf_93 rfl rfl ?_
            refine mk_get (nx := 97) (v := .ref (ad 1)) X 0 (by decide) (mh_Mo cs ad _) rfl in_Mo 0 (by decide) wd_595 rfl rfl d_Mo_pitchOf_94 rfl ?_
            refine mk_iload (nx := 99) X 4 d_Mo_pitchOf_97 rfl rfl ?_
            refine mk_iald (nx := 100) (j := k) X 1 0 (by decide) (mh_pitches cs ad _) rfl (by omega) (by omega) (by decide) rfl d_Mo_pitchOf_99 rfl ?_
            rw [show I 1 k = c 1 k from (iN k (by omega)).1]
            refine mk_imul (nx := 101) X d_Mo_pitchOf_100 rfl ?_
            refine mk_iloadn (nx := 102) X 3 d_Mo_pitchOf_101 rfl rfl ?_
            refine mk_isub (nx := 103) X d_Mo_pitchOf_102 rfl ?_
            refine mk_aloadn (nx := 104) X 0 d_Mo_pitchOf_103 rfl rfl ?_
            refine mk_get (nx := 107) (v := .ref (ad 5)) X 0 (by decide) (mh_Mo cs ad _) rfl in_Mo 5 (by decide) wd_600 rfl rfl d_Mo_pitchOf_104 rfl ?_
            refine mk_iloadn (nx := 108) X 1 d_Mo_pitchOf_107 rfl rfl ?_
            refine mk_iald (nx := 109) (j := v) X 5 0 (by decide) (mh_intervals cs ad _) rfl (by omega) (by omega) (by decide) rfl d_Mo_pitchOf_108 rfl ?_
            rw [show I 5 v = c (3 + v) 2 from (iV v hv).2.2.1]
            refine mk_iadd (nx := 110) X d_Mo_pitchOf_109 rfl ?_
            exact hret _ _ _ _ d_Mo_pitchOf_110 (by first | exact ⟨rfl, by rw [lpi, if_neg (by omega), if_neg (by omega), fso_eq (k := k) (by omega) hb (fun _ => by omega), if_pos (by omega)]⟩ | exact ⟨rfl, by rw [lpi, if_neg (by omega), if_neg (by omega), fso_eq (k := k) (by omega) hb (fun _ => by omega), if_neg (by omega)]⟩)
          · skip
            refine mk_sipush (nx := 89) X d_Mo_pitchOf_86 (by decide) rfl ?_
            refine mk_goto (tgt := 110) X d_Mo_pitchOf_89 (by decide) ?_
            exact hret _ _ _ _ d_Mo_pitchOf_110 (by first | exact ⟨rfl, by rw [lpi, if_neg (by omega), if_neg (by omega), fso_eq (k := k) (by omega) hb (fun _ => by omega), if_pos (by omega)]⟩ | exact ⟨rfl, by rw [lpi, if_neg (by omega), if_neg (by omega), fso_eq (k := k) (by omega) hb (fun _ => by omega), if_neg (by omega)]⟩)
      · skip
        refine mk_iinc (nx := 65) X 4 [(4, .int (zi ((k : Int) + 1))), (0, .ref (ad 0)), (1, .int (zi (v : Int))), (2, .int (zi (i : Int))), (3, .int (zi (c 1 i)))] d_Mo_pitchOf_62 rfl (by decide) rfl rfl ?_
        refine mk_goto (tgt := 51) X d_Mo_pitchOf_65 (by decide) ?_
        refine mk_lv [1, 2, 3, 4, 0] rfl ?_
        exact ih51 (k + 1) (by first | omega | (have : k ≠ i := (fun z => by subst z; omega); omega)) (by first | exact lt_0 | exact lt_s hb (by omega)) (by omega) (by omega) (by omega)
  refine mk_aloadn (nx := 1) X 0 d_Mo_pitchOf_0 rfl rfl ?_
  refine mk_get (nx := 4) (v := .ref (ad 1)) X 0 (by decide) (mh_Mo cs ad _) rfl in_Mo 0 (by decide) wd_595 rfl rfl d_Mo_pitchOf_1 rfl ?_
  refine mk_iloadn (nx := 5) X 2 d_Mo_pitchOf_4 rfl rfl ?_
  refine mk_iald (nx := 6) (j := i) X 1 0 (by decide) (mh_pitches cs ad _) rfl (by omega) (by omega) (by decide) rfl d_Mo_pitchOf_5 rfl ?_
  rw [show I 1 i = c 1 i from (iN i (by omega)).1]
  refine mk_istoren (nx := 7) X [(3, .int (zi (c 1 i))), (0, .ref (ad 0)), (1, .int (zi (v : Int))), (2, .int (zi (i : Int)))] d_Mo_pitchOf_6 (by decide) rfl rfl ?_
  refine mk_iloadn (nx := 8) X 0 d_Mo_pitchOf_7 rfl rfl ?_
  refine mk_iconst (nx := 9) X d_Mo_pitchOf_8 rfl ?_
  refine mk_icmp_ne (tgt := 16) (nx := 12) X d_Mo_pitchOf_9 (by omega) (by omega) (by decide) rfl (fun c9 => ?_) (fun c9 => ?_)
  · skip
    refine mk_aloadn (nx := 17) X 1 d_Mo_pitchOf_16 rfl rfl ?_
    refine mk_get (nx := 20) (v := .ref (ad 6)) X 0 (by decide) (mh_Mo cs ad _) rfl in_Mo 6 (by decide) wd_601 rfl rfl d_Mo_pitchOf_17 rfl ?_
    refine mk_iloadn (nx := 21) X 2 d_Mo_pitchOf_20 rfl rfl ?_
    refine mk_iald (nx := 22) (j := v) X 6 0 (by decide) (mh_modes cs ad _) rfl (by omega) (by omega) (by decide) rfl d_Mo_pitchOf_21 rfl ?_
    rw [show I 6 v = c (3 + v) 3 from (iV v hv).2.2.2.1]
    refine mk_iconst (nx := 23) X d_Mo_pitchOf_22 rfl ?_
    refine mk_iand (nx := 24) X d_Mo_pitchOf_23 rfl ?_
    refine mk_if_ne (tgt := 48) (nx := 27) X d_Mo_pitchOf_24 (by exact zi_rng _) (by decide) rfl (fun c24 => ?_) (fun c24 => ?_)
    · skip
      refine mk_iconst (nx := 49) X d_Mo_pitchOf_48 rfl ?_
      refine mk_istore (nx := 51) X [(4, .int (zi 0)), (3, .int (zi (c 1 i))), (0, .ref (ad 0)), (1, .int (zi (v : Int))), (2, .int (zi (i : Int)))] d_Mo_pitchOf_49 (by decide) rfl rfl ?_
      refine mk_lv [2, 3, 4, 1, 0] rfl ?_
      exact L51 _ 0 (by first | omega | (have : k ≠ i := (fun z => by subst z; omega); omega)) (by first | exact lt_0 | exact lt_s hb (by omega)) (by omega) (by omega) (Nat.lt_succ_self _)
    · skip
      refine mk_iloadn (nx := 28) X 0 d_Mo_pitchOf_27 rfl rfl ?_
      refine mk_bipush (nx := 30) X d_Mo_pitchOf_28 (by decide) rfl ?_
      refine mk_icmp_ne (tgt := 39) (nx := 33) X d_Mo_pitchOf_30 (by omega) (by omega) (by decide) rfl (fun c30 => ?_) (fun c30 => ?_)
      · skip
        refine mk_iloadn (nx := 40) X 0 d_Mo_pitchOf_39 rfl rfl ?_
        refine mk_aloadn (nx := 41) X 1 d_Mo_pitchOf_40 rfl rfl ?_
        refine mk_get (nx := 44) (v := .ref (ad 5)) X 0 (by decide) (mh_Mo cs ad _) rfl in_Mo 5 (by decide) wd_600 rfl rfl d_Mo_pitchOf_41 rfl ?_
        refine mk_iloadn (nx := 45) X 2 d_Mo_pitchOf_44 rfl rfl ?_
        refine mk_iald (nx := 46) (j := v) X 5 0 (by decide) (mh_intervals cs ad _) rfl (by omega) (by omega) (by decide) rfl d_Mo_pitchOf_45 rfl ?_
        rw [show I 5 v = c (3 + v) 2 from (iV v hv).2.2.1]
        refine mk_iadd (nx := 47) X d_Mo_pitchOf_46 rfl ?_
        exact hret _ _ _ _ d_Mo_pitchOf_47 (by first | exact ⟨rfl, by rw [lpi, if_neg (by omega), if_pos (by omega), if_pos (by omega)]⟩ | exact ⟨rfl, by rw [lpi, if_neg (by omega), if_pos (by omega), if_neg (by omega)]⟩)
      · skip
        refine mk_sipush (nx := 36) X d_Mo_pitchOf_33 (by decide) rfl ?_
        refine mk_goto (tgt := 47) X d_Mo_pitchOf_36 (by decide) ?_
        exact hret _ _ _ _ d_Mo_pitchOf_47 (by first | exact ⟨rfl, by rw [lpi, if_neg (by omega), if_pos (by omega), if_pos (by omega)]⟩ | exact ⟨rfl, by rw [lpi, if_neg (by omega), if_pos (by omega), if_neg (by omega)]⟩)
  · skip
    refine mk_sipush (nx := 15) X d_Mo_pitchOf_12 (by decide) rfl ?_
    exact hret _ _ _ _ d_Mo_pitchOf_15 (by exact ⟨rfl, by rw [lpi, if_pos (by omega)]⟩)
end
section
section MLF
variable {c I J J1 : Wo} {v : Nat}
theorem ziand2 {x : Int} (h : 0 ≤ x ∧ x ≤ 3) : ziand x 2 = 0 ∨ ziand x 2 = 2 := by
  rcases (show x = 0 ∨ x = 1 ∨ x = 2 ∨ x = 3 by omega) with rfl | rfl | rfl | rfl <;> decide
theorem cbg_le (h : wfN c) (hV : wfV c) (hv : v < 4) {i j : Nat} (hij : i ≤ j) (hj : j ≤ cn c) : cbg c v i ≤ cbg c v j := by
  by_cases e : i = j
  · rw [e]; exact Int.le_refl _
  · exact Int.le_of_lt (cbg_lt h hV hv (by omega) hj)
theorem clp_b (h : wfN c) (hV : wfV c) (hv : v < 4) {j : Nat} (hj : j < cn c) : -200 ≤ clp c v j ∧ clp c v j ≤ 1001 := by
  have hcn := cn_e h
  have h1 := (h.2 (cnt c v j) (by have := cnt_lt (c := c) (v := v) hj; omega)).1
  have h2 := (hV.1 v hv).2.2.1
  have hz : -2 ≤ cz c ∧ cz c ≤ 127 := by
    rcases fsr_cases c with q | q
    · omega
    · have := (h.2 (fsr c).toNat (by omega)).1; omega
  by_cases a : c 1 (cnt c v j) = -1
  · rw [clp_r a]; omega
  · by_cases b : c 1 (cnt c v j) = -2 ∨ (¬ ziand (c (3 + v) 3) 1 = 0 ∧ cz c = -2)
    · rw [clp_o hj a b]; omega
    · by_cases d : ziand (c (3 + v) 3) 1 = 0
      · rw [clp_n a (by omega) d]; omega
      · rw [clp_i hj a (by omega) d (by omega)]; omega
theorem MlO_rf : MlO I I v := ⟨fun _ _ _ => rfl, fun _ _ _ _ _ => rfl, fun _ _ => rfl⟩
theorem MlO_w {q k : Nat} {x : Int} (h : MlO I J v) (hq : q = 8 ∨ q = 9 ∨ q = 10) (hk : k < 1300) (e : J1 = up2 J q (1300 * v + k) x) : MlO I J1 v := by
  subst e
  refine ⟨fun a b y => by rw [up2_n (by omega)]; exact h.1 a b y, fun a b y z u => ?_, fun b y => by rw [up2_n (by omega)]; exact h.2.2 b y⟩
  rw [up2_o J q _ x a b (by omega)]
  exact h.2.1 a b y z u
theorem MlO_l {k : Nat} {x : Int} (h : MlO I J v) (hk : k < 24) (e : J1 = up2 J 11 (24 * v + k) x) : MlO I J1 v := by
  subst e
  refine ⟨fun a b y => by rw [up2_n (by omega)]; exact h.1 a b y, fun a b y z u => by rw [up2_n (by omega)]; exact h.2.1 a b y z u, fun b y => ?_⟩
  rw [up2_s, up1_n (by omega)]
  exact h.2.2 b y
theorem moR_fr (hO : ∀ a b, (a < 8 ∨ 12 < a) → ¬ (a = 0 ∧ 18 < b ∧ b < 24) → J a b = I a b) (h : moR c I) : moR c J := by
  obtain ⟨hw, h1, h2, h3, h4⟩ := h
  refine ⟨hw, ⟨by rw [hO 0 2 (by omega) (by omega)]; exact h1.1, fun j hj => by rw [hO 1 j (by omega) (by omega), hO 2 j (by omega) (by omega)]; exact h1.2 j hj⟩, ?_, fun v hv => ?_, ⟨by rw [hO 0 27 (by omega) (by omega)]; exact h4.1, fun k hk => by rw [hO 13 k (by omega) (by omega), hO 14 k (by omega) (by omega)]; exact h4.2 k hk⟩⟩
  · unfold moS at h2 ⊢
    rw [hO 0 8 (by omega) (by omega), hO 0 9 (by omega) (by omega), hO 0 10 (by omega) (by omega), hO 0 11 (by omega) (by omega), hO 0 13 (by omega) (by omega), hO 0 12 (by omega) (by omega), hO 0 14 (by omega) (by omega)]
    exact h2
  · rw [hO 3 v (by omega) (by omega), hO 4 v (by omega) (by omega), hO 5 v (by omega) (by omega), hO 6 v (by omega) (by omega), hO 7 v (by omega) (by omega)]
    exact h3 v hv
theorem moR_ml (hO : MlO I J v) (h : moR c I) : moR c J := moR_fr (fun a b x _ => hO.1 a b (by omega)) h
theorem ml_0 (h : ∀ x : Nat, (x : Int) < an_end c → J 10 (1300 * v + x) = -1 ∧ J 8 (1300 * v + x) = 1000 ∧ J 9 (1300 * v + x) = 0) : MlV c J v (cbg c v 0) := by
  intro x hx
  rw [cbg_0]
  simp only [if_neg (show ¬ (0 ≤ csn c v x ∧ csn c v x < 0) by omega)]
  exact h x hx
theorem ml_c {k : Nat} {J2 J3 : Wo} (h : ∀ x : Nat, x < k → J 10 (1300 * v + x) = -1 ∧ J 8 (1300 * v + x) = 1000 ∧ J 9 (1300 * v + x) = 0) (e1 : J1 = up2 J 8 (1300 * v + k) 1000) (e2 : J2 = up2 J1 9 (1300 * v + k) 0) (e3 : J3 = up2 J2 10 (1300 * v + k) (-1)) : ∀ x : Nat, x < k + 1 → J3 10 (1300 * v + x) = -1 ∧ J3 8 (1300 * v + x) = 1000 ∧ J3 9 (1300 * v + x) = 0 := by
  subst e3; subst e2; subst e1
  refine lt_s (fun x hx => ?_) (by simp [up2, up1])
  have e : ¬ x = k := by omega
  have := h x hx
  simpa [up2, up1, e] using this
theorem ml_l {q : Nat} {o x : Int} (e : J1 = up2 J 11 q x) (h : MlV c J v o) : MlV c J1 v o := by
  subst e
  intro x hx
  rw [up2_n (by omega), up2_n (by omega), up2_n (by omega)]
  exact h x hx
theorem ml_L {j : Nat} (h : MlL c J v j) (e : J1 = up2 J 11 (24 * v + j) (clp c v j)) : MlL c J1 v (j + 1) := by
  subst e
  refine lt_s (fun q hq => ?_) (by rw [up2_s, up1_s])
  rw [up2_s, up1_n (by omega)]
  exact h q hq
theorem ml_Lw {j q k : Nat} {x : Int} (h : MlL c J v j) (hq : q ≠ 11) (e : J1 = up2 J q k x) : MlL c J1 v j := by
  subst e
  intro z hz
  rw [up2_n (Ne.symm hq)]
  exact h z hz
end MLF

-- CanonMakerModel.lay(I)V
theorem d_Mo_lay_0 : decode prog_9_method_16_code 0 = .ok (.aload_n 0, 1) := by decide +kernel
theorem d_Mo_lay_1 : decode prog_9_method_16_code 1 = .ok (.getfield 20, 3) := by decide +kernel
theorem d_Mo_lay_4 : decode prog_9_method_16_code 4 = .ok (.iload_n 1, 1) := by decide +kernel
theorem d_Mo_lay_5 : decode prog_9_method_16_code 5 = .ok (.iaload, 1) := by decide +kernel
theorem d_Mo_lay_6 : decode prog_9_method_16_code 6 = .ok (.istore_n 2, 1) := by decide +kernel
theorem d_Mo_lay_7 : decode prog_9_method_16_code 7 = .ok (.iconst 0, 1) := by decide +kernel
theorem d_Mo_lay_8 : decode prog_9_method_16_code 8 = .ok (.istore_n 3, 1) := by decide +kernel
theorem d_Mo_lay_9 : decode prog_9_method_16_code 9 = .ok (.iload_n 3, 1) := by decide +kernel
theorem d_Mo_lay_10 : decode prog_9_method_16_code 10 = .ok (.aload_n 0, 1) := by decide +kernel
theorem d_Mo_lay_11 : decode prog_9_method_16_code 11 = .ok (.getfield 82, 3) := by decide +kernel
theorem d_Mo_lay_14 : decode prog_9_method_16_code 14 = .ok (.if_icmp .ge 50, 3) := by decide +kernel
theorem d_Mo_lay_17 : decode prog_9_method_16_code 17 = .ok (.aload_n 0, 1) := by decide +kernel
theorem d_Mo_lay_18 : decode prog_9_method_16_code 18 = .ok (.getfield 42, 3) := by decide +kernel
theorem d_Mo_lay_21 : decode prog_9_method_16_code 21 = .ok (.sipush 1300, 3) := by decide +kernel
theorem d_Mo_lay_24 : decode prog_9_method_16_code 24 = .ok (.iload_n 1, 1) := by decide +kernel
theorem d_Mo_lay_25 : decode prog_9_method_16_code 25 = .ok (.imul, 1) := by decide +kernel
theorem d_Mo_lay_26 : decode prog_9_method_16_code 26 = .ok (.iload_n 3, 1) := by decide +kernel
theorem d_Mo_lay_27 : decode prog_9_method_16_code 27 = .ok (.iadd, 1) := by decide +kernel
theorem d_Mo_lay_28 : decode prog_9_method_16_code 28 = .ok (.sipush 1000, 3) := by decide +kernel
theorem d_Mo_lay_31 : decode prog_9_method_16_code 31 = .ok (.iastore, 1) := by decide +kernel
theorem d_Mo_lay_32 : decode prog_9_method_16_code 32 = .ok (.aload_n 0, 1) := by decide +kernel
theorem d_Mo_lay_33 : decode prog_9_method_16_code 33 = .ok (.getfield 45, 3) := by decide +kernel
theorem d_Mo_lay_36 : decode prog_9_method_16_code 36 = .ok (.sipush 1300, 3) := by decide +kernel
theorem d_Mo_lay_39 : decode prog_9_method_16_code 39 = .ok (.iload_n 1, 1) := by decide +kernel
theorem d_Mo_lay_40 : decode prog_9_method_16_code 40 = .ok (.imul, 1) := by decide +kernel
theorem d_Mo_lay_41 : decode prog_9_method_16_code 41 = .ok (.iload_n 3, 1) := by decide +kernel
theorem d_Mo_lay_42 : decode prog_9_method_16_code 42 = .ok (.iadd, 1) := by decide +kernel
theorem d_Mo_lay_43 : decode prog_9_method_16_code 43 = .ok (.iconst 0, 1) := by decide +kernel
theorem d_Mo_lay_44 : decode prog_9_method_16_code 44 = .ok (.bastore, 1) := by decide +kernel
theorem d_Mo_lay_45 : decode prog_9_method_16_code 45 = .ok (.aload_n 0, 1) := by decide +kernel
theorem d_Mo_lay_46 : decode prog_9_method_16_code 46 = .ok (.getfield 48, 3) := by decide +kernel
theorem d_Mo_lay_49 : decode prog_9_method_16_code 49 = .ok (.sipush 1300, 3) := by decide +kernel
theorem d_Mo_lay_52 : decode prog_9_method_16_code 52 = .ok (.iload_n 1, 1) := by decide +kernel
theorem d_Mo_lay_53 : decode prog_9_method_16_code 53 = .ok (.imul, 1) := by decide +kernel
theorem d_Mo_lay_54 : decode prog_9_method_16_code 54 = .ok (.iload_n 3, 1) := by decide +kernel
theorem d_Mo_lay_55 : decode prog_9_method_16_code 55 = .ok (.iadd, 1) := by decide +kernel
theorem d_Mo_lay_56 : decode prog_9_method_16_code 56 = .ok (.iconst (-1), 1) := by decide +kernel
theorem d_Mo_lay_57 : decode prog_9_method_16_code 57 = .ok (.iastore, 1) := by decide +kernel
theorem d_Mo_lay_58 : decode prog_9_method_16_code 58 = .ok (.iinc 3 1, 3) := by decide +kernel
theorem d_Mo_lay_61 : decode prog_9_method_16_code 61 = .ok (.goto (-52), 3) := by decide +kernel
theorem d_Mo_lay_64 : decode prog_9_method_16_code 64 = .ok (.iconst 0, 1) := by decide +kernel
theorem d_Mo_lay_65 : decode prog_9_method_16_code 65 = .ok (.istore_n 3, 1) := by decide +kernel
theorem d_Mo_lay_66 : decode prog_9_method_16_code 66 = .ok (.iload_n 3, 1) := by decide +kernel
theorem d_Mo_lay_67 : decode prog_9_method_16_code 67 = .ok (.aload_n 0, 1) := by decide +kernel
theorem d_Mo_lay_68 : decode prog_9_method_16_code 68 = .ok (.getfield 66, 3) := by decide +kernel
theorem d_Mo_lay_71 : decode prog_9_method_16_code 71 = .ok (.if_icmp .ge 174, 3) := by decide +kernel
theorem d_Mo_lay_74 : decode prog_9_method_16_code 74 = .ok (.aload_n 0, 1) := by decide +kernel
theorem d_Mo_lay_75 : decode prog_9_method_16_code 75 = .ok (.getfield 26, 3) := by decide +kernel
theorem d_Mo_lay_78 : decode prog_9_method_16_code 78 = .ok (.iload_n 1, 1) := by decide +kernel
theorem d_Mo_lay_79 : decode prog_9_method_16_code 79 = .ok (.iaload, 1) := by decide +kernel
theorem d_Mo_lay_80 : decode prog_9_method_16_code 80 = .ok (.iconst 2, 1) := by decide +kernel
theorem d_Mo_lay_81 : decode prog_9_method_16_code 81 = .ok (.iand, 1) := by decide +kernel
theorem d_Mo_lay_82 : decode prog_9_method_16_code 82 = .ok (.ifCond .le 14, 3) := by decide +kernel
theorem d_Mo_lay_85 : decode prog_9_method_16_code 85 = .ok (.aload_n 0, 1) := by decide +kernel
theorem d_Mo_lay_86 : decode prog_9_method_16_code 86 = .ok (.getfield 66, 3) := by decide +kernel
theorem d_Mo_lay_89 : decode prog_9_method_16_code 89 = .ok (.iconst 1, 1) := by decide +kernel
theorem d_Mo_lay_90 : decode prog_9_method_16_code 90 = .ok (.isub, 1) := by decide +kernel
theorem d_Mo_lay_91 : decode prog_9_method_16_code 91 = .ok (.iload_n 3, 1) := by decide +kernel
theorem d_Mo_lay_92 : decode prog_9_method_16_code 92 = .ok (.isub, 1) := by decide +kernel
theorem d_Mo_lay_93 : decode prog_9_method_16_code 93 = .ok (.goto 4, 3) := by decide +kernel
theorem d_Mo_lay_96 : decode prog_9_method_16_code 96 = .ok (.iload_n 3, 1) := by decide +kernel
theorem d_Mo_lay_97 : decode prog_9_method_16_code 97 = .ok (.istore 4, 2) := by decide +kernel
theorem d_Mo_lay_99 : decode prog_9_method_16_code 99 = .ok (.aload_n 0, 1) := by decide +kernel
theorem d_Mo_lay_100 : decode prog_9_method_16_code 100 = .ok (.getfield 51, 3) := by decide +kernel
theorem d_Mo_lay_103 : decode prog_9_method_16_code 103 = .ok (.bipush 24, 2) := by decide +kernel
theorem d_Mo_lay_105 : decode prog_9_method_16_code 105 = .ok (.iload_n 1, 1) := by decide +kernel
theorem d_Mo_lay_106 : decode prog_9_method_16_code 106 = .ok (.imul, 1) := by decide +kernel
theorem d_Mo_lay_107 : decode prog_9_method_16_code 107 = .ok (.iload_n 3, 1) := by decide +kernel
theorem d_Mo_lay_108 : decode prog_9_method_16_code 108 = .ok (.iadd, 1) := by decide +kernel
theorem d_Mo_lay_109 : decode prog_9_method_16_code 109 = .ok (.aload_n 0, 1) := by decide +kernel
theorem d_Mo_lay_110 : decode prog_9_method_16_code 110 = .ok (.iload_n 1, 1) := by decide +kernel
theorem d_Mo_lay_111 : decode prog_9_method_16_code 111 = .ok (.iload 4, 2) := by decide +kernel
theorem d_Mo_lay_113 : decode prog_9_method_16_code 113 = .ok (.invokevirtual 85, 3) := by decide +kernel
theorem d_Mo_lay_116 : decode prog_9_method_16_code 116 = .ok (.iastore, 1) := by decide +kernel
theorem d_Mo_lay_117 : decode prog_9_method_16_code 117 = .ok (.iconst 0, 1) := by decide +kernel
theorem d_Mo_lay_118 : decode prog_9_method_16_code 118 = .ok (.istore 5, 2) := by decide +kernel
theorem d_Mo_lay_120 : decode prog_9_method_16_code 120 = .ok (.iload 5, 2) := by decide +kernel
theorem d_Mo_lay_122 : decode prog_9_method_16_code 122 = .ok (.aload_n 0, 1) := by decide +kernel
theorem d_Mo_lay_123 : decode prog_9_method_16_code 123 = .ok (.getfield 13, 3) := by decide +kernel
theorem d_Mo_lay_126 : decode prog_9_method_16_code 126 = .ok (.iload 4, 2) := by decide +kernel
theorem d_Mo_lay_128 : decode prog_9_method_16_code 128 = .ok (.iaload, 1) := by decide +kernel
theorem d_Mo_lay_129 : decode prog_9_method_16_code 129 = .ok (.aload_n 0, 1) := by decide +kernel
theorem d_Mo_lay_130 : decode prog_9_method_16_code 130 = .ok (.getfield 29, 3) := by decide +kernel
theorem d_Mo_lay_133 : decode prog_9_method_16_code 133 = .ok (.iload_n 1, 1) := by decide +kernel
theorem d_Mo_lay_134 : decode prog_9_method_16_code 134 = .ok (.iaload, 1) := by decide +kernel
theorem d_Mo_lay_135 : decode prog_9_method_16_code 135 = .ok (.imul, 1) := by decide +kernel
theorem d_Mo_lay_136 : decode prog_9_method_16_code 136 = .ok (.if_icmp .ge 103, 3) := by decide +kernel
theorem d_Mo_lay_139 : decode prog_9_method_16_code 139 = .ok (.sipush 1300, 3) := by decide +kernel
theorem d_Mo_lay_142 : decode prog_9_method_16_code 142 = .ok (.iload_n 1, 1) := by decide +kernel
theorem d_Mo_lay_143 : decode prog_9_method_16_code 143 = .ok (.imul, 1) := by decide +kernel
theorem d_Mo_lay_144 : decode prog_9_method_16_code 144 = .ok (.aload_n 0, 1) := by decide +kernel
theorem d_Mo_lay_145 : decode prog_9_method_16_code 145 = .ok (.getfield 72, 3) := by decide +kernel
theorem d_Mo_lay_148 : decode prog_9_method_16_code 148 = .ok (.ifCond .le 12, 3) := by decide +kernel
theorem d_Mo_lay_151 : decode prog_9_method_16_code 151 = .ok (.iload_n 2, 1) := by decide +kernel
theorem d_Mo_lay_152 : decode prog_9_method_16_code 152 = .ok (.aload_n 0, 1) := by decide +kernel
theorem d_Mo_lay_153 : decode prog_9_method_16_code 153 = .ok (.getfield 72, 3) := by decide +kernel
theorem d_Mo_lay_156 : decode prog_9_method_16_code 156 = .ok (.irem, 1) := by decide +kernel
theorem d_Mo_lay_157 : decode prog_9_method_16_code 157 = .ok (.goto 4, 3) := by decide +kernel
theorem d_Mo_lay_160 : decode prog_9_method_16_code 160 = .ok (.iload_n 2, 1) := by decide +kernel
theorem d_Mo_lay_161 : decode prog_9_method_16_code 161 = .ok (.iadd, 1) := by decide +kernel
theorem d_Mo_lay_162 : decode prog_9_method_16_code 162 = .ok (.istore 6, 2) := by decide +kernel
theorem d_Mo_lay_164 : decode prog_9_method_16_code 164 = .ok (.aload_n 0, 1) := by decide +kernel
theorem d_Mo_lay_165 : decode prog_9_method_16_code 165 = .ok (.getfield 48, 3) := by decide +kernel
theorem d_Mo_lay_168 : decode prog_9_method_16_code 168 = .ok (.iload 6, 2) := by decide +kernel
theorem d_Mo_lay_170 : decode prog_9_method_16_code 170 = .ok (.iaload, 1) := by decide +kernel
theorem d_Mo_lay_171 : decode prog_9_method_16_code 171 = .ok (.ifCond .ge 59, 3) := by decide +kernel
theorem d_Mo_lay_174 : decode prog_9_method_16_code 174 = .ok (.aload_n 0, 1) := by decide +kernel
theorem d_Mo_lay_175 : decode prog_9_method_16_code 175 = .ok (.getfield 48, 3) := by decide +kernel
theorem d_Mo_lay_178 : decode prog_9_method_16_code 178 = .ok (.iload 6, 2) := by decide +kernel
theorem d_Mo_lay_180 : decode prog_9_method_16_code 180 = .ok (.iload_n 3, 1) := by decide +kernel
theorem d_Mo_lay_181 : decode prog_9_method_16_code 181 = .ok (.iastore, 1) := by decide +kernel
theorem d_Mo_lay_182 : decode prog_9_method_16_code 182 = .ok (.aload_n 0, 1) := by decide +kernel
theorem d_Mo_lay_183 : decode prog_9_method_16_code 183 = .ok (.getfield 42, 3) := by decide +kernel
theorem d_Mo_lay_186 : decode prog_9_method_16_code 186 = .ok (.iload 6, 2) := by decide +kernel
theorem d_Mo_lay_188 : decode prog_9_method_16_code 188 = .ok (.aload_n 0, 1) := by decide +kernel
theorem d_Mo_lay_189 : decode prog_9_method_16_code 189 = .ok (.getfield 51, 3) := by decide +kernel
theorem d_Mo_lay_192 : decode prog_9_method_16_code 192 = .ok (.bipush 24, 2) := by decide +kernel
theorem d_Mo_lay_194 : decode prog_9_method_16_code 194 = .ok (.iload_n 1, 1) := by decide +kernel
theorem d_Mo_lay_195 : decode prog_9_method_16_code 195 = .ok (.imul, 1) := by decide +kernel
theorem d_Mo_lay_196 : decode prog_9_method_16_code 196 = .ok (.iload_n 3, 1) := by decide +kernel
theorem d_Mo_lay_197 : decode prog_9_method_16_code 197 = .ok (.iadd, 1) := by decide +kernel
theorem d_Mo_lay_198 : decode prog_9_method_16_code 198 = .ok (.iaload, 1) := by decide +kernel
theorem d_Mo_lay_199 : decode prog_9_method_16_code 199 = .ok (.iastore, 1) := by decide +kernel
theorem d_Mo_lay_200 : decode prog_9_method_16_code 200 = .ok (.aload_n 0, 1) := by decide +kernel
theorem d_Mo_lay_201 : decode prog_9_method_16_code 201 = .ok (.getfield 45, 3) := by decide +kernel
theorem d_Mo_lay_204 : decode prog_9_method_16_code 204 = .ok (.iload 6, 2) := by decide +kernel
theorem d_Mo_lay_206 : decode prog_9_method_16_code 206 = .ok (.iload 5, 2) := by decide +kernel
theorem d_Mo_lay_208 : decode prog_9_method_16_code 208 = .ok (.ifCond .ne 20, 3) := by decide +kernel
theorem d_Mo_lay_211 : decode prog_9_method_16_code 211 = .ok (.aload_n 0, 1) := by decide +kernel
theorem d_Mo_lay_212 : decode prog_9_method_16_code 212 = .ok (.getfield 42, 3) := by decide +kernel
theorem d_Mo_lay_215 : decode prog_9_method_16_code 215 = .ok (.iload 6, 2) := by decide +kernel
theorem d_Mo_lay_217 : decode prog_9_method_16_code 217 = .ok (.iaload, 1) := by decide +kernel
theorem d_Mo_lay_218 : decode prog_9_method_16_code 218 = .ok (.sipush 1000, 3) := by decide +kernel
theorem d_Mo_lay_221 : decode prog_9_method_16_code 221 = .ok (.if_icmp .eq 7, 3) := by decide +kernel
theorem d_Mo_lay_224 : decode prog_9_method_16_code 224 = .ok (.iconst 1, 1) := by decide +kernel
theorem d_Mo_lay_225 : decode prog_9_method_16_code 225 = .ok (.goto 4, 3) := by decide +kernel
theorem d_Mo_lay_228 : decode prog_9_method_16_code 228 = .ok (.iconst 0, 1) := by decide +kernel
theorem d_Mo_lay_229 : decode prog_9_method_16_code 229 = .ok (.bastore, 1) := by decide +kernel
theorem d_Mo_lay_230 : decode prog_9_method_16_code 230 = .ok (.iinc 2 1, 3) := by decide +kernel
theorem d_Mo_lay_233 : decode prog_9_method_16_code 233 = .ok (.iinc 5 1, 3) := by decide +kernel
theorem d_Mo_lay_236 : decode prog_9_method_16_code 236 = .ok (.goto (-116), 3) := by decide +kernel
theorem d_Mo_lay_239 : decode prog_9_method_16_code 239 = .ok (.iinc 3 1, 3) := by decide +kernel
theorem d_Mo_lay_242 : decode prog_9_method_16_code 242 = .ok (.goto (-176), 3) := by decide +kernel
theorem d_Mo_lay_245 : decode prog_9_method_16_code 245 = .ok (.return_, 1) := by decide +kernel
abbrev rm_Mo_lay : Room := { frames := 1, cells := 0, slots := 0, locals := 24 }
set_option maxHeartbeats 4000000 in
set_option maxRecDepth 100000 in
theorem c_Mo_lay (l : Launch) (D : va_G) (cs : Nat → ClassId) (ad : Nat → Nat) (hi : mo_inj ad) (c I : Wo) (h : moR c I) (v : Nat) (hv : v < 4) (hon : c (3 + v) 0 = 1) (hT : I 0 19 = an_end c) : mo_C l D cs ad y_Mo_lay ws_Mo_lay rm_Mo_lay [.ref (ad 0), .int (zi (v : Int))] I (mk_pv (fun J => MlO I J v ∧ MlL c J v (cn c) ∧ (∀ x : Nat, (x : Int) < an_end c → J 10 (1300 * v + x) = cpl c v x ∧ J 8 (1300 * v + x) = cpt c v x ∧ J 9 (1300 * v + x) = csk c v x))) := by
  refine mk_metv (own := "CanonMakerModel") (Ts := wA) hi (Nat.le_refl _) (by decide) rfl (fun w h => List.mem_cons_of_mem _ h) rfl (Nat.le_of_ble_eq_true rfl) [(0, .ref (ad 0)), (1, .int (zi (v : Int)))] rfl ?_
  intro p_ e_ s_ m_ as_ bl_ me_ co_ Q_ X hret
  obtain ⟨⟨⟨hn, hN⟩, ⟨hlo, hsc, hbt, hru, hrd, hst⟩, ⟨hV, hV0⟩, ⟨hfc, hF⟩⟩, ⟨i12, iN⟩, ⟨⟨i50, i51, i52, i53, i54⟩, i07, i09⟩, iV, ⟨i010, iF⟩⟩ := id h
  have hcn := cn_e h.1.1
  have hv5 := hV v hv
  have heb := an_end_b h.1.1 h.1.2.1 h.1.2.2.1
  have hz2 := ziand2 hv5.2.2.2.1
  have L66 : ∀ nf : Nat, ∀ (j : Nat) (t : Int) (J : Wo), (j ≤ cn c) → (t = c (3 + v) 1 + cbg c v j) → (MlO I J v) → (MlV c J v (cbg c v j)) → (MlL c J v j) → 24 - j < nf → mk_A p_ l e_ rm_Mo_lay s_ m_ as_ bl_ me_ co_ Q_ 7 D cmcl (mo_sh cs ad) 16 16 ad J [(0, .ref (ad 0)), (1, .int (zi (v : Int))), (2, .int (zi t)), (3, .int (zi (j : Int)))] 66 [] := by
    intro nf
    induction nf with
    | zero => intro j t J hj ht hO hM hL hn; exact absurd hn (Nat.not_lt_zero _)
    | succ nf ih66 =>
      intro j t J hj ht hO hM hL hn66
      have L120 : ∀ nf : Nat, ∀ (k : Nat) (t2 : Int) (Kw : Wo), ((k : Int) ≤ c 2 (cnt c v j) * c (3 + v) 4) → (j < cn c) → (t2 = c (3 + v) 1 + cbg c v j + (k : Int)) → (MlO I Kw v) → (MlV c Kw v (cbg c v j + (k : Int))) → (MlL c Kw v (j + 1)) → 48 - k < nf → mk_A p_ l e_ rm_Mo_lay s_ m_ as_ bl_ me_ co_ Q_ 7 D cmcl (mo_sh cs ad) 16 16 ad Kw [(0, .ref (ad 0)), (1, .int (zi (v : Int))), (2, .int (zi t2)), (3, .int (zi (j : Int))), (4, .int (zi (cnt c v j : Int))), (5, .int (zi (k : Int)))] 120 [] := by
        intro nf
        induction nf with
        | zero => intro k t2 Kw hk hjn ht2 hO2 hM2 hL2 hn; exact absurd hn (Nat.not_lt_zero _)
        | succ nf ih120 =>
          intro k t2 Kw hk hjn ht2 hO2 hM2 hL2 hn120
          have hst := cbg_s (c := c) (v := v) j
          have hle := cbg_le h.1.1 h.1.2.2.1 hv (show j + 1 ≤ cn c by omega) (Nat.le_refl _)
          have hjb := cbg_b h.1.1 h.1.2.2.1 hv (Nat.le_of_lt hjn)
          have hub := cbg_b h.1.1 h.1.2.2.1 hv (Nat.le_refl (cn c))
          have hsp := cbg_step h.1.1 h.1.2.2.1 hv hjn
          have hcl := cnt_lt (c := c) (v := v) hjn
          have hln := (hN (cnt c v j) (by omega)).2
          have hpj := clp_b h.1.1 h.1.2.2.1 hv hjn
          refine mk_iload (nx := 122) X 5 d_Mo_lay_120 rfl rfl ?_
          refine mk_aloadn (nx := 123) X 0 d_Mo_lay_122 rfl rfl ?_
          refine mk_get (nx := 126) (v := .ref (ad 2)) X 0 (by decide) (mh_Mo cs ad _) rfl in_Mo 1 (by decide) wd_596 rfl rfl d_Mo_lay_123 rfl ?_
          refine mk_iload (nx := 128) X 4 d_Mo_lay_126 rfl rfl ?_
          refine mk_iald (nx := 129) (j := (cnt c v j)) X 2 0 (by decide) (mh_lengths cs ad _) rfl (by omega) (by omega) (by decide) rfl d_Mo_lay_128 rfl ?_
          rw [show Kw 2 (cnt c v j) = c 2 (cnt c v j) from ((hO2.1 2 (cnt c v j) (by omega)).trans ((iN (cnt c v j) (by omega)).2))]
          refine mk_aloadn (nx := 130) X 0 d_Mo_lay_129 rfl rfl ?_
          refine mk_get (nx := 133) (v := .ref (ad 7)) X 0 (by decide) (mh_Mo cs ad _) rfl in_Mo 7 (by decide) wd_602 rfl rfl d_Mo_lay_130 rfl ?_
          refine mk_iloadn (nx := 134) X 1 d_Mo_lay_133 rfl rfl ?_
          refine mk_iald (nx := 135) (j := v) X 7 0 (by decide) (mh_factors cs ad _) rfl (by omega) (by omega) (by decide) rfl d_Mo_lay_134 rfl ?_
          rw [show Kw 7 v = c (3 + v) 4 from ((hO2.1 7 v (by omega)).trans ((iV v hv).2.2.2.2))]
          refine mk_imul (nx := 136) X d_Mo_lay_135 rfl ?_
          refine mk_icmp_ge (tgt := 239) (nx := 139) X d_Mo_lay_136 (by omega) (by omega) (by decide) rfl (fun c136 => ?_) (fun c136 => ?_)
          · skip
            refine mk_iinc (nx := 242) X 3 [(3, .int (zi ((j : Int) + 1))), (0, .ref (ad 0)), (1, .int (zi (v : Int))), (2, .int (zi t2)), (4, .int (zi (cnt c v j : Int))), (5, .int (zi (k : Int)))] d_Mo_lay_239 rfl (by decide) rfl rfl ?_
            refine mk_goto (tgt := 66) X d_Mo_lay_242 (by decide) ?_
            refine mk_lv [1, 2, 3, 0] rfl ?_
            exact ih66 (j + 1) t2 Kw (by omega) (by first | (rw [cbg_0]; omega) | omega) (by first | exact hO | exact hO2) (by first | exact ml_0 (fun x hx => hC x (by omega)) | (rw [hst, ← show (k : Int) = c 2 (cnt c v j) * c (3 + v) 4 by omega]; exact hM2)) (by first | exact lt_0 | exact hL2) (by omega)
          · skip
            refine mk_sipush (nx := 142) X d_Mo_lay_139 (by decide) rfl ?_
            refine mk_iloadn (nx := 143) X 1 d_Mo_lay_142 rfl rfl ?_
            refine mk_imul (nx := 144) X d_Mo_lay_143 rfl ?_
            refine mk_aloadn (nx := 145) X 0 d_Mo_lay_144 rfl rfl ?_
            refine mk_get (nx := 148) (v := .int (zi (Kw 0 12))) X 0 (by decide) (mh_Mo cs ad _) rfl in_Mo 12 (by decide) wd_607 rfl rfl d_Mo_lay_145 rfl ?_
            rw [show Kw 0 12 = c 0 6 from ((hO2.1 0 12 (by omega)).trans (i07))]
            refine mk_if_le (tgt := 160) (nx := 151) X d_Mo_lay_148 (by omega) (by decide) rfl (fun c148 => ?_) (fun c148 => ?_)
            · skip
              refine mk_iloadn (nx := 161) X 2 d_Mo_lay_160 rfl rfl ?_
              refine mk_iadd (nx := 162) X d_Mo_lay_161 rfl ?_
              refine mk_nm (fun at_ hat_ => ?_)
              have hb := mlx_b h.1.1 h.1.2.1 h.1.2.2.1 hv hon (o := cbg c v j + (k : Int)) (by omega) (by omega)
              have hme : at_ = 1300 * (v : Int) + mlx c v (cbg c v j + (k : Int)) := by
                rw [hat_]
                unfold mlx
                first | rw [if_pos (by omega), Int.tmod_eq_emod_of_nonneg (by omega), ht2, Int.add_assoc (c (3 + v) 1)] | (rw [if_neg (by omega)]; omega)
              obtain ⟨x, hx⟩ : ∃ x : Nat, (x : Int) = mlx c v (cbg c v j + (k : Int)) := ⟨(mlx c v (cbg c v j + (k : Int))).toNat, by omega⟩
              obtain rfl : at_ = (1300 * (v : Int)) + (x : Int) := by omega
              have hxb : (x : Int) < an_end c := by omega
              have hMx := hM2 x hxb
              have hpb := cpl_b h.1.1 h.1.2.2.1 hv (x : Int)
              have h10 : -1 ≤ Kw 10 ((1300 * v) + x) ∧ Kw 10 ((1300 * v) + x) < 25 := by
                rw [hMx.1]
                split <;> omega
              refine mk_istore (nx := 164) X [(6, .int (zi ((1300 * (v : Int)) + (x : Int)))), (0, .ref (ad 0)), (1, .int (zi (v : Int))), (2, .int (zi t2)), (3, .int (zi (j : Int))), (4, .int (zi (cnt c v j : Int))), (5, .int (zi (k : Int)))] d_Mo_lay_162 (by decide) rfl rfl ?_
              refine mk_aloadn (nx := 165) X 1 d_Mo_lay_164 rfl rfl ?_
              refine mk_get (nx := 168) (v := .ref (ad 10)) X 0 (by decide) (mh_Mo cs ad _) rfl in_Mo 17 (by decide) wd_612 rfl rfl d_Mo_lay_165 rfl ?_
              refine mk_iload (nx := 170) X 0 d_Mo_lay_168 rfl rfl ?_
              refine mk_iald (nx := 171) (j := ((1300 * v) + x)) X 10 0 (by decide) (mh_noteAt cs ad _) rfl (by omega) (by omega) (by decide) (by omega) d_Mo_lay_170 rfl ?_
              refine mk_if_ge (tgt := 230) (nx := 174) X d_Mo_lay_171 (by omega) (by decide) rfl (fun c171 => ?_) (fun c171 => ?_)
              · skip
                refine mk_iinc (nx := 233) X 3 [(2, .int (zi (t2 + 1))), (6, .int (zi ((1300 * (v : Int)) + (x : Int)))), (0, .ref (ad 0)), (1, .int (zi (v : Int))), (3, .int (zi (j : Int))), (4, .int (zi (cnt c v j : Int))), (5, .int (zi (k : Int)))] d_Mo_lay_230 rfl (by decide) rfl rfl ?_
                refine mk_iinc (nx := 236) X 6 [(5, .int (zi ((k : Int) + 1))), (2, .int (zi (t2 + 1))), (6, .int (zi ((1300 * (v : Int)) + (x : Int)))), (0, .ref (ad 0)), (1, .int (zi (v : Int))), (3, .int (zi (j : Int))), (4, .int (zi (cnt c v j : Int)))] d_Mo_lay_233 rfl (by decide) rfl rfl ?_
                refine mk_goto (tgt := 120) X d_Mo_lay_236 (by decide) ?_
                refine mk_lv [3, 4, 1, 5, 6, 0] rfl ?_
                exact ih120 (k + 1) (t2 + 1) Kw (by omega) (by omega) (by omega) (by first | exact MlO_l hO (by omega) hKw | exact hO2 | exact MlO_w (MlO_w (MlO_w hO2 (by omega) (by omega) hKw) (by omega) (by omega) hKw) (by omega) (by omega) hKw) (by first | (rw [show cbg c v j + ((0 : Nat) : Int) = cbg c v j by omega]; exact ml_l hKw hM) | (rw [show cbg c v j + ((k + 1 : Nat) : Int) = cbg c v j + (k : Int) + 1 by omega]; exact ml_A h.1.1 h.1.2.1 h.1.2.2.1 hv hon (by omega) (by omega) hx hM2 (by omega)) | (rw [show cbg c v j + ((k + 1 : Nat) : Int) = cbg c v j + (k : Int) + 1 by omega]; exact ml_B h.1.1 h.1.2.1 h.1.2.2.1 hv hon hjn (by omega) (by omega) hx hM2 (by omega) hKw hKw hKw (by first | rw [if_pos (by omega)] | rw [if_neg (by omega)]))) (by first | exact ml_L hL hKw | exact hL2 | exact ml_Lw (ml_Lw (ml_Lw hL2 (by decide) hKw) (by decide) hKw) (by decide) hKw) (by omega)
              · skip
                refine mk_aloadn (nx := 175) X 1 d_Mo_lay_174 rfl rfl ?_
                refine mk_get (nx := 178) (v := .ref (ad 10)) X 0 (by decide) (mh_Mo cs ad _) rfl in_Mo 17 (by decide) wd_612 rfl rfl d_Mo_lay_175 rfl ?_
                refine mk_iload (nx := 180) X 0 d_Mo_lay_178 rfl rfl ?_
                refine mk_iloadn (nx := 181) X 4 d_Mo_lay_180 rfl rfl ?_
                refine mk_iast (nx := 182) (j := ((1300 * v) + x)) X 10 0 (by decide) (mh_noteAt cs ad) rfl (by omega) (by omega) (by decide) (by omega) d_Mo_lay_181 rfl ?_
                obtain ⟨J1, hJ1⟩ : ∃ W_ : Wo, W_ = up2 Kw 10 ((1300 * v) + x) (j : Int) := ⟨_, rfl⟩
                refine mk_same hJ1.symm ?_
                have hJ1s : J1 10 ((1300 * v) + x) = (j : Int) := hJ1 ▸ up2_ss Kw 10 ((1300 * v) + x) (j : Int)
                have hJ1o : ∀ a b, (a ≠ 10 ∨ b ≠ ((1300 * v) + x)) → J1 a b = Kw a b := hJ1 ▸ up2_o Kw 10 ((1300 * v) + x) (j : Int)
                refine mk_aloadn (nx := 183) X 1 d_Mo_lay_182 rfl rfl ?_
                refine mk_get (nx := 186) (v := .ref (ad 8)) X 0 (by decide) (mh_Mo cs ad _) rfl in_Mo 15 (by decide) wd_610 rfl rfl d_Mo_lay_183 rfl ?_
                refine mk_iload (nx := 188) X 0 d_Mo_lay_186 rfl rfl ?_
                refine mk_aloadn (nx := 189) X 1 d_Mo_lay_188 rfl rfl ?_
                refine mk_get (nx := 192) (v := .ref (ad 11)) X 0 (by decide) (mh_Mo cs ad _) rfl in_Mo 18 (by decide) wd_613 rfl rfl d_Mo_lay_189 rfl ?_
                refine mk_bipush (nx := 194) X d_Mo_lay_192 (by decide) rfl ?_
                refine mk_iloadn (nx := 195) X 2 d_Mo_lay_194 rfl rfl ?_
                refine mk_imul (nx := 196) X d_Mo_lay_195 rfl ?_
                refine mk_iloadn (nx := 197) X 4 d_Mo_lay_196 rfl rfl ?_
                refine mk_iadd (nx := 198) X d_Mo_lay_197 rfl ?_
                refine mk_iald (nx := 199) (j := ((24 * v) + j)) X 11 0 (by decide) (mh_line cs ad _) rfl (by omega) (by omega) (by decide) (by omega) d_Mo_lay_198 rfl ?_
                rw [show J1 11 ((24 * v) + j) = Kw 11 ((24 * v) + j) from hJ1o 11 ((24 * v) + j) (Or.inl (by decide))]
                rw [show Kw 11 ((24 * v) + j) = clp c v j from (hL2 j (by omega))]
                refine mk_iast (nx := 200) (j := ((1300 * v) + x)) X 8 0 (by decide) (mh_pitchAt cs ad) rfl (by omega) (by omega) (by decide) (by omega) d_Mo_lay_199 rfl ?_
                obtain ⟨J2, hJ2⟩ : ∃ W_ : Wo, W_ = up2 J1 8 ((1300 * v) + x) (clp c v j) := ⟨_, rfl⟩
                refine mk_same hJ2.symm ?_
                have hJ2s : J2 8 ((1300 * v) + x) = clp c v j := hJ2 ▸ up2_ss J1 8 ((1300 * v) + x) (clp c v j)
                have hJ2o : ∀ a b, (a ≠ 8 ∨ b ≠ ((1300 * v) + x)) → J2 a b = J1 a b := hJ2 ▸ up2_o J1 8 ((1300 * v) + x) (clp c v j)
                refine mk_aloadn (nx := 201) X 1 d_Mo_lay_200 rfl rfl ?_
                refine mk_get (nx := 204) (v := .ref (ad 9)) X 0 (by decide) (mh_Mo cs ad _) rfl in_Mo 16 (by decide) wd_611 rfl rfl d_Mo_lay_201 rfl ?_
                refine mk_iload (nx := 206) X 0 d_Mo_lay_204 rfl rfl ?_
                refine mk_iload (nx := 208) X 6 d_Mo_lay_206 rfl rfl ?_
                refine mk_if_ne (tgt := 228) (nx := 211) X d_Mo_lay_208 (by omega) (by decide) rfl (fun c208 => ?_) (fun c208 => ?_)
                · skip
                  refine mk_iconst (nx := 229) X d_Mo_lay_228 rfl ?_
                  refine mk_zast (nx := 230) (j := ((1300 * v) + x)) X 9 1 (by decide) (mh_struck cs ad) rfl (by omega) (by omega) (by decide) (by omega) (by omega) d_Mo_lay_229 rfl ?_
                  obtain ⟨J3, hJ3⟩ : ∃ W_ : Wo, W_ = up2 J2 9 ((1300 * v) + x) 0 := ⟨_, rfl⟩
                  refine mk_same hJ3.symm ?_
                  have hJ3s : J3 9 ((1300 * v) + x) = 0 := hJ3 ▸ up2_ss J2 9 ((1300 * v) + x) 0
                  have hJ3o : ∀ a b, (a ≠ 9 ∨ b ≠ ((1300 * v) + x)) → J3 a b = J2 a b := hJ3 ▸ up2_o J2 9 ((1300 * v) + x) 0
                  refine mk_iinc (nx := 233) X 3 [(2, .int (zi (t2 + 1))), (6, .int (zi ((1300 * (v : Int)) + (x : Int)))), (0, .ref (ad 0)), (1, .int (zi (v : Int))), (3, .int (zi (j : Int))), (4, .int (zi (cnt c v j : Int))), (5, .int (zi (k : Int)))] d_Mo_lay_230 rfl (by decide) rfl rfl ?_
                  refine mk_iinc (nx := 236) X 6 [(5, .int (zi ((k : Int) + 1))), (2, .int (zi (t2 + 1))), (6, .int (zi ((1300 * (v : Int)) + (x : Int)))), (0, .ref (ad 0)), (1, .int (zi (v : Int))), (3, .int (zi (j : Int))), (4, .int (zi (cnt c v j : Int)))] d_Mo_lay_233 rfl (by decide) rfl rfl ?_
                  refine mk_goto (tgt := 120) X d_Mo_lay_236 (by decide) ?_
                  refine mk_lv [3, 4, 1, 5, 6, 0] rfl ?_
                  exact ih120 (k + 1) (t2 + 1) J3 (by omega) (by omega) (by omega) (by first | exact MlO_l hO (by omega) hJ3 | exact hO2 | exact MlO_w (MlO_w (MlO_w hO2 (by omega) (by omega) hJ1) (by omega) (by omega) hJ2) (by omega) (by omega) hJ3) (by first | (rw [show cbg c v j + ((0 : Nat) : Int) = cbg c v j by omega]; exact ml_l hJ3 hM) | (rw [show cbg c v j + ((k + 1 : Nat) : Int) = cbg c v j + (k : Int) + 1 by omega]; exact ml_A h.1.1 h.1.2.1 h.1.2.2.1 hv hon (by omega) (by omega) hx hM2 (by omega)) | (rw [show cbg c v j + ((k + 1 : Nat) : Int) = cbg c v j + (k : Int) + 1 by omega]; exact ml_B h.1.1 h.1.2.1 h.1.2.2.1 hv hon hjn (by omega) (by omega) hx hM2 (by omega) hJ1 hJ2 hJ3 (by first | rw [if_pos (by omega)] | rw [if_neg (by omega)]))) (by first | exact ml_L hL hJ3 | exact hL2 | exact ml_Lw (ml_Lw (ml_Lw hL2 (by decide) hJ1) (by decide) hJ2) (by decide) hJ3) (by omega)
                · skip
                  refine mk_aloadn (nx := 212) X 1 d_Mo_lay_211 rfl rfl ?_
                  refine mk_get (nx := 215) (v := .ref (ad 8)) X 0 (by decide) (mh_Mo cs ad _) rfl in_Mo 15 (by decide) wd_610 rfl rfl d_Mo_lay_212 rfl ?_
                  refine mk_iload (nx := 217) X 0 d_Mo_lay_215 rfl rfl ?_
                  refine mk_iald (nx := 218) (j := ((1300 * v) + x)) X 8 0 (by decide) (mh_pitchAt cs ad _) rfl (by omega) (by omega) (by decide) (by omega) d_Mo_lay_217 rfl ?_
                  rw [hJ2s]
                  refine mk_sipush (nx := 221) X d_Mo_lay_218 (by decide) rfl ?_
                  refine mk_icmp_eq (tgt := 228) (nx := 224) X d_Mo_lay_221 (by omega) (by omega) (by decide) rfl (fun c221 => ?_) (fun c221 => ?_)
                  · skip
                    refine mk_iconst (nx := 229) X d_Mo_lay_228 rfl ?_
                    refine mk_zast (nx := 230) (j := ((1300 * v) + x)) X 9 1 (by decide) (mh_struck cs ad) rfl (by omega) (by omega) (by decide) (by omega) (by omega) d_Mo_lay_229 rfl ?_
                    obtain ⟨J4, hJ4⟩ : ∃ W_ : Wo, W_ = up2 J2 9 ((1300 * v) + x) 0 := ⟨_, rfl⟩
                    refine mk_same hJ4.symm ?_
                    have hJ4s : J4 9 ((1300 * v) + x) = 0 := hJ4 ▸ up2_ss J2 9 ((1300 * v) + x) 0
                    have hJ4o : ∀ a b, (a ≠ 9 ∨ b ≠ ((1300 * v) + x)) → J4 a b = J2 a b := hJ4 ▸ up2_o J2 9 ((1300 * v) + x) 0
                    refine mk_iinc (nx := 233) X 3 [(2, .int (zi (t2 + 1))), (6, .int (zi ((1300 * (v : Int)) + (x : Int)))), (0, .ref (ad 0)), (1, .int (zi (v : Int))), (3, .int (zi (j : Int))), (4, .int (zi (cnt c v j : Int))), (5, .int (zi (k : Int)))] d_Mo_lay_230 rfl (by decide) rfl rfl ?_
                    refine mk_iinc (nx := 236) X 6 [(5, .int (zi ((k : Int) + 1))), (2, .int (zi (t2 + 1))), (6, .int (zi ((1300 * (v : Int)) + (x : Int)))), (0, .ref (ad 0)), (1, .int (zi (v : Int))), (3, .int (zi (j : Int))), (4, .int (zi (cnt c v j : Int)))] d_Mo_lay_233 rfl (by decide) rfl rfl ?_
                    refine mk_goto (tgt := 120) X d_Mo_lay_236 (by decide) ?_
                    refine mk_lv [3, 4, 1, 5, 6, 0] rfl ?_
                    exact ih120 (k + 1) (t2 + 1) J4 (by omega) (by omega) (by omega) (by first | exact MlO_l hO (by omega) hJ4 | exact hO2 | exact MlO_w (MlO_w (MlO_w hO2 (by omega) (by omega) hJ1) (by omega) (by omega) hJ2) (by omega) (by omega) hJ4) (by first | (rw [show cbg c v j + ((0 : Nat) : Int) = cbg c v j by omega]; exact ml_l hJ4 hM) | (rw [show cbg c v j + ((k + 1 : Nat) : Int) = cbg c v j + (k : Int) + 1 by omega]; exact ml_A h.1.1 h.1.2.1 h.1.2.2.1 hv hon (by omega) (by omega) hx hM2 (by omega)) | (rw [show cbg c v j + ((k + 1 : Nat) : Int) = cbg c v j + (k : Int) + 1 by omega]; exact ml_B h.1.1 h.1.2.1 h.1.2.2.1 hv hon hjn (by omega) (by omega) hx hM2 (by omega) hJ1 hJ2 hJ4 (by first | rw [if_pos (by omega)] | rw [if_neg (by omega)]))) (by first | exact ml_L hL hJ4 | exact hL2 | exact ml_Lw (ml_Lw (ml_Lw hL2 (by decide) hJ1) (by decide) hJ2) (by decide) hJ4) (by omega)
                  · skip
                    refine mk_iconst (nx := 225) X d_Mo_lay_224 rfl ?_
                    refine mk_goto (tgt := 229) X d_Mo_lay_225 (by decide) ?_
                    refine mk_zast (nx := 230) (j := ((1300 * v) + x)) X 9 1 (by decide) (mh_struck cs ad) rfl (by omega) (by omega) (by decide) (by omega) (by omega) d_Mo_lay_229 rfl ?_
                    obtain ⟨J5, hJ5⟩ : ∃ W_ : Wo, W_ = up2 J2 9 ((1300 * v) + x) 1 := ⟨_, rfl⟩
                    refine mk_same hJ5.symm ?_
                    have hJ5s : J5 9 ((1300 * v) + x) = 1 := hJ5 ▸ up2_ss J2 9 ((1300 * v) + x) 1
                    have hJ5o : ∀ a b, (a ≠ 9 ∨ b ≠ ((1300 * v) + x)) → J5 a b = J2 a b := hJ5 ▸ up2_o J2 9 ((1300 * v) + x) 1
                    refine mk_iinc (nx := 233) X 3 [(2, .int (zi (t2 + 1))), (6, .int (zi ((1300 * (v : Int)) + (x : Int)))), (0, .ref (ad 0)), (1, .int (zi (v : Int))), (3, .int (zi (j : Int))), (4, .int (zi (cnt c v j : Int))), (5, .int (zi (k : Int)))] d_Mo_lay_230 rfl (by decide) rfl rfl ?_
                    refine mk_iinc (nx := 236) X 6 [(5, .int (zi ((k : Int) + 1))), (2, .int (zi (t2 + 1))), (6, .int (zi ((1300 * (v : Int)) + (x : Int)))), (0, .ref (ad 0)), (1, .int (zi (v : Int))), (3, .int (zi (j : Int))), (4, .int (zi (cnt c v j : Int)))] d_Mo_lay_233 rfl (by decide) rfl rfl ?_
                    refine mk_goto (tgt := 120) X d_Mo_lay_236 (by decide) ?_
                    refine mk_lv [3, 4, 1, 5, 6, 0] rfl ?_
                    exact ih120 (k + 1) (t2 + 1) J5 (by omega) (by omega) (by omega) (by first | exact MlO_l hO (by omega) hJ5 | exact hO2 | exact MlO_w (MlO_w (MlO_w hO2 (by omega) (by omega) hJ1) (by omega) (by omega) hJ2) (by omega) (by omega) hJ5) (by first | (rw [show cbg c v j + ((0 : Nat) : Int) = cbg c v j by omega]; exact ml_l hJ5 hM) | (rw [show cbg c v j + ((k + 1 : Nat) : Int) = cbg c v j + (k : Int) + 1 by omega]; exact ml_A h.1.1 h.1.2.1 h.1.2.2.1 hv hon (by omega) (by omega) hx hM2 (by omega)) | (rw [show cbg c v j + ((k + 1 : Nat) : Int) = cbg c v j + (k : Int) + 1 by omega]; exact ml_B h.1.1 h.1.2.1 h.1.2.2.1 hv hon hjn (by omega) (by omega) hx hM2 (by omega) hJ1 hJ2 hJ5 (by first | rw [if_pos (by omega)] | rw [if_neg (by omega)]))) (by first | exact ml_L hL hJ5 | exact hL2 | exact ml_Lw (ml_Lw (ml_Lw hL2 (by decide) hJ1) (by decide) hJ2) (by decide) hJ5) (by omega)
            · skip
              refine mk_iloadn (nx := 152) X 2 d_Mo_lay_151 rfl rfl ?_
              refine mk_aloadn (nx := 153) X 0 d_Mo_lay_152 rfl rfl ?_
              refine mk_get (nx := 156) (v := .int (zi (Kw 0 12))) X 0 (by decide) (mh_Mo cs ad _) rfl in_Mo 12 (by decide) wd_607 rfl rfl d_Mo_lay_153 rfl ?_
              rw [show Kw 0 12 = c 0 6 from ((hO2.1 0 12 (by omega)).trans (i07))]
              refine mk_irem (nx := 157) X d_Mo_lay_156 (by omega) (by omega) (by omega) rfl ?_
              refine mk_goto (tgt := 161) X d_Mo_lay_157 (by decide) ?_
              refine mk_iadd (nx := 162) X d_Mo_lay_161 rfl ?_
              refine mk_nm (fun at_ hat_ => ?_)
              have hb := mlx_b h.1.1 h.1.2.1 h.1.2.2.1 hv hon (o := cbg c v j + (k : Int)) (by omega) (by omega)
              have hme : at_ = 1300 * (v : Int) + mlx c v (cbg c v j + (k : Int)) := by
                rw [hat_]
                unfold mlx
                first | rw [if_pos (by omega), Int.tmod_eq_emod_of_nonneg (by omega), ht2, Int.add_assoc (c (3 + v) 1)] | (rw [if_neg (by omega)]; omega)
              obtain ⟨x, hx⟩ : ∃ x : Nat, (x : Int) = mlx c v (cbg c v j + (k : Int)) := ⟨(mlx c v (cbg c v j + (k : Int))).toNat, by omega⟩
              obtain rfl : at_ = (1300 * (v : Int)) + (x : Int) := by omega
              have hxb : (x : Int) < an_end c := by omega
              have hMx := hM2 x hxb
              have hpb := cpl_b h.1.1 h.1.2.2.1 hv (x : Int)
              have h10 : -1 ≤ Kw 10 ((1300 * v) + x) ∧ Kw 10 ((1300 * v) + x) < 25 := by
                rw [hMx.1]
                split <;> omega
              refine mk_istore (nx := 164) X [(6, .int (zi ((1300 * (v : Int)) + (x : Int)))), (0, .ref (ad 0)), (1, .int (zi (v : Int))), (2, .int (zi t2)), (3, .int (zi (j : Int))), (4, .int (zi (cnt c v j : Int))), (5, .int (zi (k : Int)))] d_Mo_lay_162 (by decide) rfl rfl ?_
              refine mk_aloadn (nx := 165) X 1 d_Mo_lay_164 rfl rfl ?_
              refine mk_get (nx := 168) (v := .ref (ad 10)) X 0 (by decide) (mh_Mo cs ad _) rfl in_Mo 17 (by decide) wd_612 rfl rfl d_Mo_lay_165 rfl ?_
              refine mk_iload (nx := 170) X 0 d_Mo_lay_168 rfl rfl ?_
              refine mk_iald (nx := 171) (j := ((1300 * v) + x)) X 10 0 (by decide) (mh_noteAt cs ad _) rfl (by omega) (by omega) (by decide) (by omega) d_Mo_lay_170 rfl ?_
              refine mk_if_ge (tgt := 230) (nx := 174) X d_Mo_lay_171 (by omega) (by decide) rfl (fun c171 => ?_) (fun c171 => ?_)
              · skip
                refine mk_iinc (nx := 233) X 3 [(2, .int (zi (t2 + 1))), (6, .int (zi ((1300 * (v : Int)) + (x : Int)))), (0, .ref (ad 0)), (1, .int (zi (v : Int))), (3, .int (zi (j : Int))), (4, .int (zi (cnt c v j : Int))), (5, .int (zi (k : Int)))] d_Mo_lay_230 rfl (by decide) rfl rfl ?_
                refine mk_iinc (nx := 236) X 6 [(5, .int (zi ((k : Int) + 1))), (2, .int (zi (t2 + 1))), (6, .int (zi ((1300 * (v : Int)) + (x : Int)))), (0, .ref (ad 0)), (1, .int (zi (v : Int))), (3, .int (zi (j : Int))), (4, .int (zi (cnt c v j : Int)))] d_Mo_lay_233 rfl (by decide) rfl rfl ?_
                refine mk_goto (tgt := 120) X d_Mo_lay_236 (by decide) ?_
                refine mk_lv [3, 4, 1, 5, 6, 0] rfl ?_
                exact ih120 (k + 1) (t2 + 1) Kw (by omega) (by omega) (by omega) (by first | exact MlO_l hO (by omega) hKw | exact hO2 | exact MlO_w (MlO_w (MlO_w hO2 (by omega) (by omega) hKw) (by omega) (by omega) hKw) (by omega) (by omega) hKw) (by first | (rw [show cbg c v j + ((0 : Nat) : Int) = cbg c v j by omega]; exact ml_l hKw hM) | (rw [show cbg c v j + ((k + 1 : Nat) : Int) = cbg c v j + (k : Int) + 1 by omega]; exact ml_A h.1.1 h.1.2.1 h.1.2.2.1 hv hon (by omega) (by omega) hx hM2 (by omega)) | (rw [show cbg c v j + ((k + 1 : Nat) : Int) = cbg c v j + (k : Int) + 1 by omega]; exact ml_B h.1.1 h.1.2.1 h.1.2.2.1 hv hon hjn (by omega) (by omega) hx hM2 (by omega) hKw hKw hKw (by first | rw [if_pos (by omega)] | rw [if_neg (by omega)]))) (by first | exact ml_L hL hKw | exact hL2 | exact ml_Lw (ml_Lw (ml_Lw hL2 (by decide) hKw) (by decide) hKw) (by decide) hKw) (by omega)
              · skip
                refine mk_aloadn (nx := 175) X 1 d_Mo_lay_174 rfl rfl ?_
                refine mk_get (nx := 178) (v := .ref (ad 10)) X 0 (by decide) (mh_Mo cs ad _) rfl in_Mo 17 (by decide) wd_612 rfl rfl d_Mo_lay_175 rfl ?_
                refine mk_iload (nx := 180) X 0 d_Mo_lay_178 rfl rfl ?_
                refine mk_iloadn (nx := 181) X 4 d_Mo_lay_180 rfl rfl ?_
                refine mk_iast (nx := 182) (j := ((1300 * v) + x)) X 10 0 (by decide) (mh_noteAt cs ad) rfl (by omega) (by omega) (by decide) (by omega) d_Mo_lay_181 rfl ?_
                obtain ⟨J6, hJ6⟩ : ∃ W_ : Wo, W_ = up2 Kw 10 ((1300 * v) + x) (j : Int) := ⟨_, rfl⟩
                refine mk_same hJ6.symm ?_
                have hJ6s : J6 10 ((1300 * v) + x) = (j : Int) := hJ6 ▸ up2_ss Kw 10 ((1300 * v) + x) (j : Int)
                have hJ6o : ∀ a b, (a ≠ 10 ∨ b ≠ ((1300 * v) + x)) → J6 a b = Kw a b := hJ6 ▸ up2_o Kw 10 ((1300 * v) + x) (j : Int)
                refine mk_aloadn (nx := 183) X 1 d_Mo_lay_182 rfl rfl ?_
                refine mk_get (nx := 186) (v := .ref (ad 8)) X 0 (by decide) (mh_Mo cs ad _) rfl in_Mo 15 (by decide) wd_610 rfl rfl d_Mo_lay_183 rfl ?_
                refine mk_iload (nx := 188) X 0 d_Mo_lay_186 rfl rfl ?_
                refine mk_aloadn (nx := 189) X 1 d_Mo_lay_188 rfl rfl ?_
                refine mk_get (nx := 192) (v := .ref (ad 11)) X 0 (by decide) (mh_Mo cs ad _) rfl in_Mo 18 (by decide) wd_613 rfl rfl d_Mo_lay_189 rfl ?_
                refine mk_bipush (nx := 194) X d_Mo_lay_192 (by decide) rfl ?_
                refine mk_iloadn (nx := 195) X 2 d_Mo_lay_194 rfl rfl ?_
                refine mk_imul (nx := 196) X d_Mo_lay_195 rfl ?_
                refine mk_iloadn (nx := 197) X 4 d_Mo_lay_196 rfl rfl ?_
                refine mk_iadd (nx := 198) X d_Mo_lay_197 rfl ?_
                refine mk_iald (nx := 199) (j := ((24 * v) + j)) X 11 0 (by decide) (mh_line cs ad _) rfl (by omega) (by omega) (by decide) (by omega) d_Mo_lay_198 rfl ?_
                rw [show J6 11 ((24 * v) + j) = Kw 11 ((24 * v) + j) from hJ6o 11 ((24 * v) + j) (Or.inl (by decide))]
                rw [show Kw 11 ((24 * v) + j) = clp c v j from (hL2 j (by omega))]
                refine mk_iast (nx := 200) (j := ((1300 * v) + x)) X 8 0 (by decide) (mh_pitchAt cs ad) rfl (by omega) (by omega) (by decide) (by omega) d_Mo_lay_199 rfl ?_
                obtain ⟨J7, hJ7⟩ : ∃ W_ : Wo, W_ = up2 J6 8 ((1300 * v) + x) (clp c v j) := ⟨_, rfl⟩
                refine mk_same hJ7.symm ?_
                have hJ7s : J7 8 ((1300 * v) + x) = clp c v j := hJ7 ▸ up2_ss J6 8 ((1300 * v) + x) (clp c v j)
                have hJ7o : ∀ a b, (a ≠ 8 ∨ b ≠ ((1300 * v) + x)) → J7 a b = J6 a b := hJ7 ▸ up2_o J6 8 ((1300 * v) + x) (clp c v j)
                refine mk_aloadn (nx := 201) X 1 d_Mo_lay_200 rfl rfl ?_
                refine mk_get (nx := 204) (v := .ref (ad 9)) X 0 (by decide) (mh_Mo cs ad _) rfl in_Mo 16 (by decide) wd_611 rfl rfl d_Mo_lay_201 rfl ?_
                refine mk_iload (nx := 206) X 0 d_Mo_lay_204 rfl rfl ?_
                refine mk_iload (nx := 208) X 6 d_Mo_lay_206 rfl rfl ?_
                refine mk_if_ne (tgt := 228) (nx := 211) X d_Mo_lay_208 (by omega) (by decide) rfl (fun c208 => ?_) (fun c208 => ?_)
                · skip
                  refine mk_iconst (nx := 229) X d_Mo_lay_228 rfl ?_
                  refine mk_zast (nx := 230) (j := ((1300 * v) + x)) X 9 1 (by decide) (mh_struck cs ad) rfl (by omega) (by omega) (by decide) (by omega) (by omega) d_Mo_lay_229 rfl ?_
                  obtain ⟨J8, hJ8⟩ : ∃ W_ : Wo, W_ = up2 J7 9 ((1300 * v) + x) 0 := ⟨_, rfl⟩
                  refine mk_same hJ8.symm ?_
                  have hJ8s : J8 9 ((1300 * v) + x) = 0 := hJ8 ▸ up2_ss J7 9 ((1300 * v) + x) 0
                  have hJ8o : ∀ a b, (a ≠ 9 ∨ b ≠ ((1300 * v) + x)) → J8 a b = J7 a b := hJ8 ▸ up2_o J7 9 ((1300 * v) + x) 0
                  refine mk_iinc (nx := 233) X 3 [(2, .int (zi (t2 + 1))), (6, .int (zi ((1300 * (v : Int)) + (x : Int)))), (0, .ref (ad 0)), (1, .int (zi (v : Int))), (3, .int (zi (j : Int))), (4, .int (zi (cnt c v j : Int))), (5, .int (zi (k : Int)))] d_Mo_lay_230 rfl (by decide) rfl rfl ?_
                  refine mk_iinc (nx := 236) X 6 [(5, .int (zi ((k : Int) + 1))), (2, .int (zi (t2 + 1))), (6, .int (zi ((1300 * (v : Int)) + (x : Int)))), (0, .ref (ad 0)), (1, .int (zi (v : Int))), (3, .int (zi (j : Int))), (4, .int (zi (cnt c v j : Int)))] d_Mo_lay_233 rfl (by decide) rfl rfl ?_
                  refine mk_goto (tgt := 120) X d_Mo_lay_236 (by decide) ?_
                  refine mk_lv [3, 4, 1, 5, 6, 0] rfl ?_
                  exact ih120 (k + 1) (t2 + 1) J8 (by omega) (by omega) (by omega) (by first | exact MlO_l hO (by omega) hJ8 | exact hO2 | exact MlO_w (MlO_w (MlO_w hO2 (by omega) (by omega) hJ6) (by omega) (by omega) hJ7) (by omega) (by omega) hJ8) (by first | (rw [show cbg c v j + ((0 : Nat) : Int) = cbg c v j by omega]; exact ml_l hJ8 hM) | (rw [show cbg c v j + ((k + 1 : Nat) : Int) = cbg c v j + (k : Int) + 1 by omega]; exact ml_A h.1.1 h.1.2.1 h.1.2.2.1 hv hon (by omega) (by omega) hx hM2 (by omega)) | (rw [show cbg c v j + ((k + 1 : Nat) : Int) = cbg c v j + (k : Int) + 1 by omega]; exact ml_B h.1.1 h.1.2.1 h.1.2.2.1 hv hon hjn (by omega) (by omega) hx hM2 (by omega) hJ6 hJ7 hJ8 (by first | rw [if_pos (by omega)] | rw [if_neg (by omega)]))) (by first | exact ml_L hL hJ8 | exact hL2 | exact ml_Lw (ml_Lw (ml_Lw hL2 (by decide) hJ6) (by decide) hJ7) (by decide) hJ8) (by omega)
                · skip
                  refine mk_aloadn (nx := 212) X 1 d_Mo_lay_211 rfl rfl ?_
                  refine mk_get (nx := 215) (v := .ref (ad 8)) X 0 (by decide) (mh_Mo cs ad _) rfl in_Mo 15 (by decide) wd_610 rfl rfl d_Mo_lay_212 rfl ?_
                  refine mk_iload (nx := 217) X 0 d_Mo_lay_215 rfl rfl ?_
                  refine mk_iald (nx := 218) (j := ((1300 * v) + x)) X 8 0 (by decide) (mh_pitchAt cs ad _) rfl (by omega) (by omega) (by decide) (by omega) d_Mo_lay_217 rfl ?_
                  rw [hJ7s]
                  refine mk_sipush (nx := 221) X d_Mo_lay_218 (by decide) rfl ?_
                  refine mk_icmp_eq (tgt := 228) (nx := 224) X d_Mo_lay_221 (by omega) (by omega) (by decide) rfl (fun c221 => ?_) (fun c221 => ?_)
                  · skip
                    refine mk_iconst (nx := 229) X d_Mo_lay_228 rfl ?_
                    refine mk_zast (nx := 230) (j := ((1300 * v) + x)) X 9 1 (by decide) (mh_struck cs ad) rfl (by omega) (by omega) (by decide) (by omega) (by omega) d_Mo_lay_229 rfl ?_
                    obtain ⟨J9, hJ9⟩ : ∃ W_ : Wo, W_ = up2 J7 9 ((1300 * v) + x) 0 := ⟨_, rfl⟩
                    refine mk_same hJ9.symm ?_
                    have hJ9s : J9 9 ((1300 * v) + x) = 0 := hJ9 ▸ up2_ss J7 9 ((1300 * v) + x) 0
                    have hJ9o : ∀ a b, (a ≠ 9 ∨ b ≠ ((1300 * v) + x)) → J9 a b = J7 a b := hJ9 ▸ up2_o J7 9 ((1300 * v) + x) 0
                    refine mk_iinc (nx := 233) X 3 [(2, .int (zi (t2 + 1))), (6, .int (zi ((1300 * (v : Int)) + (x : Int)))), (0, .ref (ad 0)), (1, .int (zi (v : Int))), (3, .int (zi (j : Int))), (4, .int (zi (cnt c v j : Int))), (5, .int (zi (k : Int)))] d_Mo_lay_230 rfl (by decide) rfl rfl ?_
                    refine mk_iinc (nx := 236) X 6 [(5, .int (zi ((k : Int) + 1))), (2, .int (zi (t2 + 1))), (6, .int (zi ((1300 * (v : Int)) + (x : Int)))), (0, .ref (ad 0)), (1, .int (zi (v : Int))), (3, .int (zi (j : Int))), (4, .int (zi (cnt c v j : Int)))] d_Mo_lay_233 rfl (by decide) rfl rfl ?_
                    refine mk_goto (tgt := 120) X d_Mo_lay_236 (by decide) ?_
                    refine mk_lv [3, 4, 1, 5, 6, 0] rfl ?_
                    exact ih120 (k + 1) (t2 + 1) J9 (by omega) (by omega) (by omega) (by first | exact MlO_l hO (by omega) hJ9 | exact hO2 | exact MlO_w (MlO_w (MlO_w hO2 (by omega) (by omega) hJ6) (by omega) (by omega) hJ7) (by omega) (by omega) hJ9) (by first | (rw [show cbg c v j + ((0 : Nat) : Int) = cbg c v j by omega]; exact ml_l hJ9 hM) | (rw [show cbg c v j + ((k + 1 : Nat) : Int) = cbg c v j + (k : Int) + 1 by omega]; exact ml_A h.1.1 h.1.2.1 h.1.2.2.1 hv hon (by omega) (by omega) hx hM2 (by omega)) | (rw [show cbg c v j + ((k + 1 : Nat) : Int) = cbg c v j + (k : Int) + 1 by omega]; exact ml_B h.1.1 h.1.2.1 h.1.2.2.1 hv hon hjn (by omega) (by omega) hx hM2 (by omega) hJ6 hJ7 hJ9 (by first | rw [if_pos (by omega)] | rw [if_neg (by omega)]))) (by first | exact ml_L hL hJ9 | exact hL2 | exact ml_Lw (ml_Lw (ml_Lw hL2 (by decide) hJ6) (by decide) hJ7) (by decide) hJ9) (by omega)
                  · skip
                    refine mk_iconst (nx := 225) X d_Mo_lay_224 rfl ?_
                    refine mk_goto (tgt := 229) X d_Mo_lay_225 (by decide) ?_
                    refine mk_zast (nx := 230) (j := ((1300 * v) + x)) X 9 1 (by decide) (mh_struck cs ad) rfl (by omega) (by omega) (by decide) (by omega) (by omega) d_Mo_lay_229 rfl ?_
                    obtain ⟨J10, hJ10⟩ : ∃ W_ : Wo, W_ = up2 J7 9 ((1300 * v) + x) 1 := ⟨_, rfl⟩
                    refine mk_same hJ10.symm ?_
                    have hJ10s : J10 9 ((1300 * v) + x) = 1 := hJ10 ▸ up2_ss J7 9 ((1300 * v) + x) 1
                    have hJ10o : ∀ a b, (a ≠ 9 ∨ b ≠ ((1300 * v) + x)) → J10 a b = J7 a b := hJ10 ▸ up2_o J7 9 ((1300 * v) + x) 1
                    refine mk_iinc (nx := 233) X 3 [(2, .int (zi (t2 + 1))), (6, .int (zi ((1300 * (v : Int)) + (x : Int)))), (0, .ref (ad 0)), (1, .int (zi (v : Int))), (3, .int (zi (j : Int))), (4, .int (zi (cnt c v j : Int))), (5, .int (zi (k : Int)))] d_Mo_lay_230 rfl (by decide) rfl rfl ?_
                    refine mk_iinc (nx := 236) X 6 [(5, .int (zi ((k : Int) + 1))), (2, .int (zi (t2 + 1))), (6, .int (zi ((1300 * (v : Int)) + (x : Int)))), (0, .ref (ad 0)), (1, .int (zi (v : Int))), (3, .int (zi (j : Int))), (4, .int (zi (cnt c v j : Int)))] d_Mo_lay_233 rfl (by decide) rfl rfl ?_
                    refine mk_goto (tgt := 120) X d_Mo_lay_236 (by decide) ?_
                    refine mk_lv [3, 4, 1, 5, 6, 0] rfl ?_
                    exact ih120 (k + 1) (t2 + 1) J10 (by omega) (by omega) (by omega) (by first | exact MlO_l hO (by omega) hJ10 | exact hO2 | exact MlO_w (MlO_w (MlO_w hO2 (by omega) (by omega) hJ6) (by omega) (by omega) hJ7) (by omega) (by omega) hJ10) (by first | (rw [show cbg c v j + ((0 : Nat) : Int) = cbg c v j by omega]; exact ml_l hJ10 hM) | (rw [show cbg c v j + ((k + 1 : Nat) : Int) = cbg c v j + (k : Int) + 1 by omega]; exact ml_A h.1.1 h.1.2.1 h.1.2.2.1 hv hon (by omega) (by omega) hx hM2 (by omega)) | (rw [show cbg c v j + ((k + 1 : Nat) : Int) = cbg c v j + (k : Int) + 1 by omega]; exact ml_B h.1.1 h.1.2.1 h.1.2.2.1 hv hon hjn (by omega) (by omega) hx hM2 (by omega) hJ6 hJ7 hJ10 (by first | rw [if_pos (by omega)] | rw [if_neg (by omega)]))) (by first | exact ml_L hL hJ10 | exact hL2 | exact ml_Lw (ml_Lw (ml_Lw hL2 (by decide) hJ6) (by decide) hJ7) (by decide) hJ10) (by omega)
      refine mk_iloadn (nx := 67) X 3 d_Mo_lay_66 rfl rfl ?_
      refine mk_aloadn (nx := 68) X 0 d_Mo_lay_67 rfl rfl ?_
      refine mk_get (nx := 71) (v := .int (zi (J 0 2))) X 0 (by decide) (mh_Mo cs ad _) rfl in_Mo 2 (by decide) wd_597 rfl rfl d_Mo_lay_68 rfl ?_
      rw [show J 0 2 = c 0 0 from ((hO.1 0 2 (by omega)).trans i12)]
      refine mk_icmp_ge (tgt := 245) (nx := 74) X d_Mo_lay_71 (by omega) (by omega) (by decide) rfl (fun c71 => ?_) (fun c71 => ?_)
      · skip
        exact hret _ _ _ d_Mo_lay_245 (by exact ⟨hO, by rw [← show j = cn c by omega]; exact hL, ml_end h.1.1 h.1.2.2.1 hv (by rw [← show j = cn c by omega]; exact hM)⟩)
      · skip
        have hjn : j < cn c := by omega
        have hcl := cnt_lt (c := c) (v := v) hjn
        have hst0 := cbg_s (c := c) (v := v) j
        have hsp0 := cbg_step h.1.1 h.1.2.2.1 hv hjn
        refine mk_aloadn (nx := 75) X 0 d_Mo_lay_74 rfl rfl ?_
        refine mk_get (nx := 78) (v := .ref (ad 6)) X 0 (by decide) (mh_Mo cs ad _) rfl in_Mo 6 (by decide) wd_601 rfl rfl d_Mo_lay_75 rfl ?_
        refine mk_iloadn (nx := 79) X 1 d_Mo_lay_78 rfl rfl ?_
        refine mk_iald (nx := 80) (j := v) X 6 0 (by decide) (mh_modes cs ad _) rfl (by omega) (by omega) (by decide) rfl d_Mo_lay_79 rfl ?_
        rw [show J 6 v = c (3 + v) 3 from ((hO.1 6 v (by omega)).trans (iV v hv).2.2.2.1)]
        refine mk_iconst (nx := 81) X d_Mo_lay_80 rfl ?_
        refine mk_iand (nx := 82) X d_Mo_lay_81 rfl ?_
        refine mk_if_le (tgt := 96) (nx := 85) X d_Mo_lay_82 (by exact zi_rng _) (by decide) rfl (fun c82 => ?_) (fun c82 => ?_)
        · skip
          refine mk_iloadn (nx := 97) X 3 d_Mo_lay_96 rfl rfl ?_
          refine mk_nm (fun nn hnn => ?_)
          obtain rfl : nn = (cnt c v j : Int) := by
            first | (unfold cnt nt; rw [if_pos (by omega)]; omega) | (unfold cnt nt; rw [if_neg (by omega)]; omega)
          refine mk_istore (nx := 99) X [(4, .int (zi (cnt c v j : Int))), (0, .ref (ad 0)), (1, .int (zi (v : Int))), (2, .int (zi t)), (3, .int (zi (j : Int)))] d_Mo_lay_97 (by decide) rfl rfl ?_
          refine mk_aloadn (nx := 100) X 1 d_Mo_lay_99 rfl rfl ?_
          refine mk_get (nx := 103) (v := .ref (ad 11)) X 0 (by decide) (mh_Mo cs ad _) rfl in_Mo 18 (by decide) wd_613 rfl rfl d_Mo_lay_100 rfl ?_
          refine mk_bipush (nx := 105) X d_Mo_lay_103 (by decide) rfl ?_
          refine mk_iloadn (nx := 106) X 2 d_Mo_lay_105 rfl rfl ?_
          refine mk_imul (nx := 107) X d_Mo_lay_106 rfl ?_
          refine mk_iloadn (nx := 108) X 4 d_Mo_lay_107 rfl rfl ?_
          refine mk_iadd (nx := 109) X d_Mo_lay_108 rfl ?_
          refine mk_aloadn (nx := 110) X 1 d_Mo_lay_109 rfl rfl ?_
          refine mk_iloadn (nx := 111) X 2 d_Mo_lay_110 rfl rfl ?_
          refine mk_iload (nx := 113) X 0 d_Mo_lay_111 rfl rfl ?_
          refine mk_callVi (nx := 116) (n := 2) (As := [.int (zi (v : Int)), .int (zi (cnt c v j : Int))]) (rest := [.int (zi ((24 * (v : Int)) + (j : Int))), .ref (ad 11)]) X 0 (by decide) (mh_Mo cs ad _) rfl (c_Mo_pitchOf l D cs ad hi c J (moR_ml hO h) v hv (cnt c v j) hcl) (g_Mo_pitchOf wd_756) rfl ⟨rfl, rfl⟩ (by decide +kernel) ⟨by decide, by decide⟩ rfl (Nat.le_of_ble_eq_true rfl) rfl d_Mo_lay_113 rfl ?_
          intro r113 J11 hJ11
          obtain ⟨rfl, rfl⟩ := hJ11
          refine mk_iast (nx := 117) (j := ((24 * v) + j)) X 11 0 (by decide) (mh_line cs ad) rfl (by omega) (by omega) (by decide) (by omega) d_Mo_lay_116 rfl ?_
          obtain ⟨J12, hJ12⟩ : ∃ W_ : Wo, W_ = up2 J 11 ((24 * v) + j) (clp c v j) := ⟨_, rfl⟩
          refine mk_same hJ12.symm ?_
          have hJ12s : J12 11 ((24 * v) + j) = clp c v j := hJ12 ▸ up2_ss J 11 ((24 * v) + j) (clp c v j)
          have hJ12o : ∀ a b, (a ≠ 11 ∨ b ≠ ((24 * v) + j)) → J12 a b = J a b := hJ12 ▸ up2_o J 11 ((24 * v) + j) (clp c v j)
          refine mk_iconst (nx := 118) X d_Mo_lay_117 rfl ?_
          refine mk_istore (nx := 120) X [(5, .int (zi 0)), (4, .int (zi (cnt c v j : Int))), (0, .ref (ad 0)), (1, .int (zi (v : Int))), (2, .int (zi t)), (3, .int (zi (j : Int)))] d_Mo_lay_118 (by decide) rfl rfl ?_
          refine mk_lv [2, 3, 4, 5, 1, 0] rfl ?_
          exact L120 _ 0 t J12 (by omega) (by omega) (by omega) (by first | exact MlO_l hO (by omega) hJ12 | exact hO2 | exact MlO_w (MlO_w (MlO_w hO2 (by omega) (by omega) hJ12) (by omega) (by omega) hJ) (by omega) (by omega) hJ12) (by first | (rw [show cbg c v j + ((0 : Nat) : Int) = cbg c v j by omega]; exact ml_l hJ12 hM) | (rw [show cbg c v j + ((k + 1 : Nat) : Int) = cbg c v j + (k : Int) + 1 by omega]; exact ml_A h.1.1 h.1.2.1 h.1.2.2.1 hv hon (by omega) (by omega) hx hM2 (by omega)) | (rw [show cbg c v j + ((k + 1 : Nat) : Int) = cbg c v j + (k : Int) + 1 by omega]; exact ml_B h.1.1 h.1.2.1 h.1.2.2.1 hv hon hjn (by omega) (by omega) hx hM2 (by omega) hJ12 hJ hJ12 (by first | rw [if_pos (by omega)] | rw [if_neg (by omega)]))) (by first | exact ml_L hL hJ12 | exact hL2 | exact ml_Lw (ml_Lw (ml_Lw hL2 (by decide) hJ12) (by decide) hJ) (by decide) hJ12) (Nat.lt_succ_self _)
        · skip
          refine mk_aloadn (nx := 86) X 0 d_Mo_lay_85 rfl rfl ?_
          refine mk_get (nx := 89) (v := .int (zi (J 0 2))) X 0 (by decide) (mh_Mo cs ad _) rfl in_Mo 2 (by decide) wd_597 rfl rfl d_Mo_lay_86 rfl ?_
          rw [show J 0 2 = c 0 0 from ((hO.1 0 2 (by omega)).trans i12)]
          refine mk_iconst (nx := 90) X d_Mo_lay_89 rfl ?_
          refine mk_isub (nx := 91) X d_Mo_lay_90 rfl ?_
          refine mk_iloadn (nx := 92) X 3 d_Mo_lay_91 rfl rfl ?_
          refine mk_isub (nx := 93) X d_Mo_lay_92 rfl ?_
          refine mk_goto (tgt := 97) X d_Mo_lay_93 (by decide) ?_
          refine mk_nm (fun nn hnn => ?_)
          obtain rfl : nn = (cnt c v j : Int) := by
            first | (unfold cnt nt; rw [if_pos (by omega)]; omega) | (unfold cnt nt; rw [if_neg (by omega)]; omega)
          refine mk_istore (nx := 99) X [(4, .int (zi (cnt c v j : Int))), (0, .ref (ad 0)), (1, .int (zi (v : Int))), (2, .int (zi t)), (3, .int (zi (j : Int)))] d_Mo_lay_97 (by decide) rfl rfl ?_
          refine mk_aloadn (nx := 100) X 1 d_Mo_lay_99 rfl rfl ?_
          refine mk_get (nx := 103) (v := .ref (ad 11)) X 0 (by decide) (mh_Mo cs ad _) rfl in_Mo 18 (by decide) wd_613 rfl rfl d_Mo_lay_100 rfl ?_
          refine mk_bipush (nx := 105) X d_Mo_lay_103 (by decide) rfl ?_
          refine mk_iloadn (nx := 106) X 2 d_Mo_lay_105 rfl rfl ?_
          refine mk_imul (nx := 107) X d_Mo_lay_106 rfl ?_
          refine mk_iloadn (nx := 108) X 4 d_Mo_lay_107 rfl rfl ?_
          refine mk_iadd (nx := 109) X d_Mo_lay_108 rfl ?_
          refine mk_aloadn (nx := 110) X 1 d_Mo_lay_109 rfl rfl ?_
          refine mk_iloadn (nx := 111) X 2 d_Mo_lay_110 rfl rfl ?_
          refine mk_iload (nx := 113) X 0 d_Mo_lay_111 rfl rfl ?_
          refine mk_callVi (nx := 116) (n := 2) (As := [.int (zi (v : Int)), .int (zi (cnt c v j : Int))]) (rest := [.int (zi ((24 * (v : Int)) + (j : Int))), .ref (ad 11)]) X 0 (by decide) (mh_Mo cs ad _) rfl (c_Mo_pitchOf l D cs ad hi c J (moR_ml hO h) v hv (cnt c v j) hcl) (g_Mo_pitchOf wd_756) rfl ⟨rfl, rfl⟩ (by decide +kernel) ⟨by decide, by decide⟩ rfl (Nat.le_of_ble_eq_true rfl) rfl d_Mo_lay_113 rfl ?_
          intro r113 J13 hJ13
          obtain ⟨rfl, rfl⟩ := hJ13
          refine mk_iast (nx := 117) (j := ((24 * v) + j)) X 11 0 (by decide) (mh_line cs ad) rfl (by omega) (by omega) (by decide) (by omega) d_Mo_lay_116 rfl ?_
          obtain ⟨J14, hJ14⟩ : ∃ W_ : Wo, W_ = up2 J 11 ((24 * v) + j) (clp c v j) := ⟨_, rfl⟩
          refine mk_same hJ14.symm ?_
          have hJ14s : J14 11 ((24 * v) + j) = clp c v j := hJ14 ▸ up2_ss J 11 ((24 * v) + j) (clp c v j)
          have hJ14o : ∀ a b, (a ≠ 11 ∨ b ≠ ((24 * v) + j)) → J14 a b = J a b := hJ14 ▸ up2_o J 11 ((24 * v) + j) (clp c v j)
          refine mk_iconst (nx := 118) X d_Mo_lay_117 rfl ?_
          refine mk_istore (nx := 120) X [(5, .int (zi 0)), (4, .int (zi (cnt c v j : Int))), (0, .ref (ad 0)), (1, .int (zi (v : Int))), (2, .int (zi t)), (3, .int (zi (j : Int)))] d_Mo_lay_118 (by decide) rfl rfl ?_
          refine mk_lv [2, 3, 4, 5, 1, 0] rfl ?_
          exact L120 _ 0 t J14 (by omega) (by omega) (by omega) (by first | exact MlO_l hO (by omega) hJ14 | exact hO2 | exact MlO_w (MlO_w (MlO_w hO2 (by omega) (by omega) hJ14) (by omega) (by omega) hJ) (by omega) (by omega) hJ14) (by first | (rw [show cbg c v j + ((0 : Nat) : Int) = cbg c v j by omega]; exact ml_l hJ14 hM) | (rw [show cbg c v j + ((k + 1 : Nat) : Int) = cbg c v j + (k : Int) + 1 by omega]; exact ml_A h.1.1 h.1.2.1 h.1.2.2.1 hv hon (by omega) (by omega) hx hM2 (by omega)) | (rw [show cbg c v j + ((k + 1 : Nat) : Int) = cbg c v j + (k : Int) + 1 by omega]; exact ml_B h.1.1 h.1.2.1 h.1.2.2.1 hv hon hjn (by omega) (by omega) hx hM2 (by omega) hJ14 hJ hJ14 (by first | rw [if_pos (by omega)] | rw [if_neg (by omega)]))) (by first | exact ml_L hL hJ14 | exact hL2 | exact ml_Lw (ml_Lw (ml_Lw hL2 (by decide) hJ14) (by decide) hJ) (by decide) hJ14) (Nat.lt_succ_self _)
  have L9 : ∀ nf : Nat, ∀ (k : Nat) (J : Wo), ((k : Int) ≤ an_end c) → (MlO I J v) → (∀ x : Nat, x < k → J 10 (1300 * v + x) = -1 ∧ J 8 (1300 * v + x) = 1000 ∧ J 9 (1300 * v + x) = 0) → 1300 - k < nf → mk_A p_ l e_ rm_Mo_lay s_ m_ as_ bl_ me_ co_ Q_ 7 D cmcl (mo_sh cs ad) 16 16 ad J [(0, .ref (ad 0)), (1, .int (zi (v : Int))), (2, .int (zi (c (3 + v) 1))), (3, .int (zi (k : Int)))] 9 [] := by
    intro nf
    induction nf with
    | zero => intro k J hk hO hC hn; exact absurd hn (Nat.not_lt_zero _)
    | succ nf ih9 =>
      intro k J hk hO hC hn9
      refine mk_iloadn (nx := 10) X 3 d_Mo_lay_9 rfl rfl ?_
      refine mk_aloadn (nx := 11) X 0 d_Mo_lay_10 rfl rfl ?_
      refine mk_get (nx := 14) (v := .int (zi (J 0 19))) X 0 (by decide) (mh_Mo cs ad _) rfl in_Mo 19 (by decide) wd_614 rfl rfl d_Mo_lay_11 rfl ?_
      rw [show J 0 19 = an_end c from ((hO.1 0 19 (by omega)).trans hT)]
      refine mk_icmp_ge (tgt := 64) (nx := 17) X d_Mo_lay_14 (by omega) (by omega) (by decide) rfl (fun c14 => ?_) (fun c14 => ?_)
      · skip
        refine mk_iconst (nx := 65) X d_Mo_lay_64 rfl ?_
        refine mk_istoren (nx := 66) X [(3, .int (zi 0)), (0, .ref (ad 0)), (1, .int (zi (v : Int))), (2, .int (zi (c (3 + v) 1)))] d_Mo_lay_65 (by decide) rfl rfl ?_
        refine mk_lv [1, 2, 3, 0] rfl ?_
        exact L66 _ 0 (c (3 + v) 1) J (by omega) (by first | (rw [cbg_0]; omega) | omega) (by first | exact hO | exact hO2) (by first | exact ml_0 (fun x hx => hC x (by omega)) | (rw [hst, ← show (k : Int) = c 2 (cnt c v j) * c (3 + v) 4 by omega]; exact hM2)) (by first | exact lt_0 | exact hL2) (Nat.lt_succ_self _)
      · skip
        refine mk_aloadn (nx := 18) X 0 d_Mo_lay_17 rfl rfl ?_
        refine mk_get (nx := 21) (v := .ref (ad 8)) X 0 (by decide) (mh_Mo cs ad _) rfl in_Mo 15 (by decide) wd_610 rfl rfl d_Mo_lay_18 rfl ?_
        refine mk_sipush (nx := 24) X d_Mo_lay_21 (by decide) rfl ?_
        refine mk_iloadn (nx := 25) X 1 d_Mo_lay_24 rfl rfl ?_
        refine mk_imul (nx := 26) X d_Mo_lay_25 rfl ?_
        refine mk_iloadn (nx := 27) X 3 d_Mo_lay_26 rfl rfl ?_
        refine mk_iadd (nx := 28) X d_Mo_lay_27 rfl ?_
        refine mk_sipush (nx := 31) X d_Mo_lay_28 (by decide) rfl ?_
        refine mk_iast (nx := 32) (j := ((1300 * v) + k)) X 8 0 (by decide) (mh_pitchAt cs ad) rfl (by omega) (by omega) (by decide) (by omega) d_Mo_lay_31 rfl ?_
        obtain ⟨J15, hJ15⟩ : ∃ W_ : Wo, W_ = up2 J 8 ((1300 * v) + k) 1000 := ⟨_, rfl⟩
        refine mk_same hJ15.symm ?_
        have hJ15s : J15 8 ((1300 * v) + k) = 1000 := hJ15 ▸ up2_ss J 8 ((1300 * v) + k) 1000
        have hJ15o : ∀ a b, (a ≠ 8 ∨ b ≠ ((1300 * v) + k)) → J15 a b = J a b := hJ15 ▸ up2_o J 8 ((1300 * v) + k) 1000
        refine mk_aloadn (nx := 33) X 0 d_Mo_lay_32 rfl rfl ?_
        refine mk_get (nx := 36) (v := .ref (ad 9)) X 0 (by decide) (mh_Mo cs ad _) rfl in_Mo 16 (by decide) wd_611 rfl rfl d_Mo_lay_33 rfl ?_
        refine mk_sipush (nx := 39) X d_Mo_lay_36 (by decide) rfl ?_
        refine mk_iloadn (nx := 40) X 1 d_Mo_lay_39 rfl rfl ?_
        refine mk_imul (nx := 41) X d_Mo_lay_40 rfl ?_
        refine mk_iloadn (nx := 42) X 3 d_Mo_lay_41 rfl rfl ?_
        refine mk_iadd (nx := 43) X d_Mo_lay_42 rfl ?_
        refine mk_iconst (nx := 44) X d_Mo_lay_43 rfl ?_
        refine mk_zast (nx := 45) (j := ((1300 * v) + k)) X 9 1 (by decide) (mh_struck cs ad) rfl (by omega) (by omega) (by decide) (by omega) (by omega) d_Mo_lay_44 rfl ?_
        obtain ⟨J16, hJ16⟩ : ∃ W_ : Wo, W_ = up2 J15 9 ((1300 * v) + k) 0 := ⟨_, rfl⟩
        refine mk_same hJ16.symm ?_
        have hJ16s : J16 9 ((1300 * v) + k) = 0 := hJ16 ▸ up2_ss J15 9 ((1300 * v) + k) 0
        have hJ16o : ∀ a b, (a ≠ 9 ∨ b ≠ ((1300 * v) + k)) → J16 a b = J15 a b := hJ16 ▸ up2_o J15 9 ((1300 * v) + k) 0
        refine mk_aloadn (nx := 46) X 0 d_Mo_lay_45 rfl rfl ?_
        refine mk_get (nx := 49) (v := .ref (ad 10)) X 0 (by decide) (mh_Mo cs ad _) rfl in_Mo 17 (by decide) wd_612 rfl rfl d_Mo_lay_46 rfl ?_
        refine mk_sipush (nx := 52) X d_Mo_lay_49 (by decide) rfl ?_
        refine mk_iloadn (nx := 53) X 1 d_Mo_lay_52 rfl rfl ?_
        refine mk_imul (nx := 54) X d_Mo_lay_53 rfl ?_
        refine mk_iloadn (nx := 55) X 3 d_Mo_lay_54 rfl rfl ?_
        refine mk_iadd (nx := 56) X d_Mo_lay_55 rfl ?_
        refine mk_iconst (nx := 57) X d_Mo_lay_56 rfl ?_
        refine mk_iast (nx := 58) (j := ((1300 * v) + k)) X 10 0 (by decide) (mh_noteAt cs ad) rfl (by omega) (by omega) (by decide) (by omega) d_Mo_lay_57 rfl ?_
        obtain ⟨J17, hJ17⟩ : ∃ W_ : Wo, W_ = up2 J16 10 ((1300 * v) + k) (-1) := ⟨_, rfl⟩
        refine mk_same hJ17.symm ?_
        have hJ17s : J17 10 ((1300 * v) + k) = (-1) := hJ17 ▸ up2_ss J16 10 ((1300 * v) + k) (-1)
        have hJ17o : ∀ a b, (a ≠ 10 ∨ b ≠ ((1300 * v) + k)) → J17 a b = J16 a b := hJ17 ▸ up2_o J16 10 ((1300 * v) + k) (-1)
        refine mk_iinc (nx := 61) X 3 [(3, .int (zi ((k : Int) + 1))), (0, .ref (ad 0)), (1, .int (zi (v : Int))), (2, .int (zi (c (3 + v) 1)))] d_Mo_lay_58 rfl (by decide) rfl rfl ?_
        refine mk_goto (tgt := 9) X d_Mo_lay_61 (by decide) ?_
        refine mk_lv [1, 2, 3, 0] rfl ?_
        exact ih9 (k + 1) J17 (by omega) (by first | exact MlO_rf | exact MlO_w (MlO_w (MlO_w hO (by omega) (by omega) hJ15) (by omega) (by omega) hJ16) (by omega) (by omega) hJ17) (by first | exact lt_0 | exact ml_c hC hJ15 hJ16 hJ17) (by omega)
  refine mk_aloadn (nx := 1) X 0 d_Mo_lay_0 rfl rfl ?_
  refine mk_get (nx := 4) (v := .ref (ad 4)) X 0 (by decide) (mh_Mo cs ad _) rfl in_Mo 4 (by decide) wd_599 rfl rfl d_Mo_lay_1 rfl ?_
  refine mk_iloadn (nx := 5) X 1 d_Mo_lay_4 rfl rfl ?_
  refine mk_iald (nx := 6) (j := v) X 4 0 (by decide) (mh_delays cs ad _) rfl (by omega) (by omega) (by decide) rfl d_Mo_lay_5 rfl ?_
  rw [show I 4 v = c (3 + v) 1 from (iV v hv).2.1]
  refine mk_istoren (nx := 7) X [(2, .int (zi (c (3 + v) 1))), (0, .ref (ad 0)), (1, .int (zi (v : Int)))] d_Mo_lay_6 (by decide) rfl rfl ?_
  refine mk_iconst (nx := 8) X d_Mo_lay_7 rfl ?_
  refine mk_istoren (nx := 9) X [(3, .int (zi 0)), (2, .int (zi (c (3 + v) 1))), (0, .ref (ad 0)), (1, .int (zi (v : Int)))] d_Mo_lay_8 (by decide) rfl rfl ?_
  refine mk_lv [2, 3, 1, 0] rfl ?_
  exact L9 _ 0 I (by omega) (by first | exact MlO_rf | exact MlO_w (MlO_w (MlO_w hO (by omega) (by omega) hI) (by omega) (by omega) hI) (by omega) (by omega) hI) (by first | exact lt_0 | exact ml_c hC hI hI hI) (Nat.lt_succ_self _)
end
section
/-- the reference's tables hold a voice's LINE; all that are on -/
def MoD (c J : Wo) (v : Nat) : Prop := MlL c J v (cn c) ∧ ∀ x : Nat, (x : Int) < an_end c → J 10 (1300 * v + x) = cpl c v x ∧ J 8 (1300 * v + x) = cpt c v x ∧ J 9 (1300 * v + x) = csk c v x
def MoL (c J : Wo) : Prop := J 0 19 = an_end c ∧ ∀ v, v < 4 → c (3 + v) 0 = 1 → MoD c J v
theorem MoD_fr {c J K : Wo} {u v : Nat} (he : an_end c ≤ 1252) (hn : cn c ≤ 24) (hO : MlO J K u) (huv : u ≠ v) (h : MoD c J v) : MoD c K v := by
  refine ⟨fun q hq => by rw [hO.2.2 _ (by omega)]; exact h.1 q hq, fun x hx => ?_⟩
  rw [hO.2.1 10 _ (by omega) (by omega) (by omega), hO.2.1 8 _ (by omega) (by omega) (by omega), hO.2.1 9 _ (by omega) (by omega) (by omega)]
  exact h.2 x hx
/-- the pitch beside the NOTE at place p in its LINE -/
def cbs (c : Wo) (v : Nat) (p way : Int) : Int := if 0 ≤ p + way ∧ p + way < c 0 0 then clp c v (p + way).toNat else if c 0 6 = 0 ∨ ¬ an_size c * c (3 + v) 4 = c 0 6 then 1000 else if p + way < 0 then clp c v (cn c - 1) else clp c v 0
def gp (a b : Int) : Int := ((a - b).natAbs : Int) % 12
theorem cpt_b {c : Wo} {v : Nat} (h : wfN c) (hV : wfV c) (hv : v < 4) (t : Int) : -200 ≤ cpt c v t ∧ cpt c v t ≤ 1001 := by
  unfold cpt
  rcases cpl_b h hV hv t with q | q
  · rw [if_pos q]; omega
  · rw [if_neg (by omega)]
    exact clp_b h hV hv (by omega)
theorem csk_b (c : Wo) (v : Nat) (t : Int) : csk c v t = 0 ∨ csk c v t = 1 := by
  unfold csk
  split
  · exact Or.inl rfl
  · split
    · exact Or.inr rfl
    · exact Or.inl rfl

-- CanonMakerModel.layAll()V
theorem d_Mo_layAll_0 : decode prog_9_method_18_code 0 = .ok (.aload_n 0, 1) := by decide +kernel
theorem d_Mo_layAll_1 : decode prog_9_method_18_code 1 = .ok (.aload_n 0, 1) := by decide +kernel
theorem d_Mo_layAll_2 : decode prog_9_method_18_code 2 = .ok (.invokevirtual 93, 3) := by decide +kernel
theorem d_Mo_layAll_5 : decode prog_9_method_18_code 5 = .ok (.putfield 82, 3) := by decide +kernel
theorem d_Mo_layAll_8 : decode prog_9_method_18_code 8 = .ok (.iconst 0, 1) := by decide +kernel
theorem d_Mo_layAll_9 : decode prog_9_method_18_code 9 = .ok (.istore_n 1, 1) := by decide +kernel
theorem d_Mo_layAll_10 : decode prog_9_method_18_code 10 = .ok (.iload_n 1, 1) := by decide +kernel
theorem d_Mo_layAll_11 : decode prog_9_method_18_code 11 = .ok (.iconst 4, 1) := by decide +kernel
theorem d_Mo_layAll_12 : decode prog_9_method_18_code 12 = .ok (.if_icmp .ge 23, 3) := by decide +kernel
theorem d_Mo_layAll_15 : decode prog_9_method_18_code 15 = .ok (.aload_n 0, 1) := by decide +kernel
theorem d_Mo_layAll_16 : decode prog_9_method_18_code 16 = .ok (.getfield 16, 3) := by decide +kernel
theorem d_Mo_layAll_19 : decode prog_9_method_18_code 19 = .ok (.iload_n 1, 1) := by decide +kernel
theorem d_Mo_layAll_20 : decode prog_9_method_18_code 20 = .ok (.baload, 1) := by decide +kernel
theorem d_Mo_layAll_21 : decode prog_9_method_18_code 21 = .ok (.ifCond .eq 8, 3) := by decide +kernel
theorem d_Mo_layAll_24 : decode prog_9_method_18_code 24 = .ok (.aload_n 0, 1) := by decide +kernel
theorem d_Mo_layAll_25 : decode prog_9_method_18_code 25 = .ok (.iload_n 1, 1) := by decide +kernel
theorem d_Mo_layAll_26 : decode prog_9_method_18_code 26 = .ok (.invokevirtual 96, 3) := by decide +kernel
theorem d_Mo_layAll_29 : decode prog_9_method_18_code 29 = .ok (.iinc 1 1, 3) := by decide +kernel
theorem d_Mo_layAll_32 : decode prog_9_method_18_code 32 = .ok (.goto (-22), 3) := by decide +kernel
theorem d_Mo_layAll_35 : decode prog_9_method_18_code 35 = .ok (.return_, 1) := by decide +kernel
abbrev rm_Mo_layAll : Room := { frames := 3, cells := 0, slots := 0, locals := 66 }
set_option maxHeartbeats 4000000 in
set_option maxRecDepth 100000 in
theorem c_Mo_layAll (l : Launch) (D : va_G) (cs : Nat → ClassId) (ad : Nat → Nat) (hi : mo_inj ad) (c I : Wo) (h : moR c I) : mo_C l D cs ad y_Mo_layAll ws_Mo_layAll rm_Mo_layAll [.ref (ad 0)] I (mk_pv (fun J => MoL c J ∧ (∀ a b, (a < 8 ∨ 11 < a) → ¬ (a = 0 ∧ b = 19) → J a b = I a b))) := by
  refine mk_metv (own := "CanonMakerModel") (Ts := wA) hi (Nat.le_refl _) (by decide) rfl (fun w h => List.mem_cons_of_mem _ h) rfl (Nat.le_of_ble_eq_true rfl) [(0, .ref (ad 0))] rfl ?_
  intro p_ e_ s_ m_ as_ bl_ me_ co_ Q_ X hret
  obtain ⟨⟨⟨hn, hN⟩, ⟨hlo, hsc, hbt, hru, hrd, hst⟩, ⟨hV, hV0⟩, ⟨hfc, hF⟩⟩, ⟨i12, iN⟩, ⟨⟨i50, i51, i52, i53, i54⟩, i07, i09⟩, iV, ⟨i010, iF⟩⟩ := id h
  have hcn := cn_e h.1.1
  have heb := an_end_b h.1.1 h.1.2.1 h.1.2.2.1
  have L10 : ∀ nf : Nat, ∀ (u : Nat) (J : Wo), (u ≤ 4) → (J 0 19 = an_end c) → (∀ v, v < u → c (3 + v) 0 = 1 → MoD c J v) → (∀ a b, (a < 8 ∨ 11 < a) → ¬ (a = 0 ∧ b = 19) → J a b = I a b) → 4 - u < nf → mk_A p_ l e_ rm_Mo_layAll s_ m_ as_ bl_ me_ co_ Q_ 2 D cmcl (mo_sh cs ad) 16 16 ad J [(0, .ref (ad 0)), (1, .int (zi (u : Int)))] 10 [] := by
    intro nf
    induction nf with
    | zero => intro u J hu hT hA hO hn; exact absurd hn (Nat.not_lt_zero _)
    | succ nf ih10 =>
      intro u J hu hT hA hO hn10
      refine mk_iloadn (nx := 11) X 1 d_Mo_layAll_10 rfl rfl ?_
      refine mk_iconst (nx := 12) X d_Mo_layAll_11 rfl ?_
      refine mk_icmp_ge (tgt := 35) (nx := 15) X d_Mo_layAll_12 (by omega) (by omega) (by decide) rfl (fun c12 => ?_) (fun c12 => ?_)
      · skip
        exact hret _ _ _ d_Mo_layAll_35 (by exact ⟨⟨hT, fun v hv => hA v (by omega)⟩, hO⟩)
      · skip
        have hv5 := hV u (by omega)
        refine mk_aloadn (nx := 16) X 0 d_Mo_layAll_15 rfl rfl ?_
        refine mk_get (nx := 19) (v := .ref (ad 3)) X 0 (by decide) (mh_Mo cs ad _) rfl in_Mo 3 (by decide) wd_598 rfl rfl d_Mo_layAll_16 rfl ?_
        refine mk_iloadn (nx := 20) X 1 d_Mo_layAll_19 rfl rfl ?_
        refine mk_zald (nx := 21) (j := u) X 3 1 (by decide) (mh_on cs ad _) rfl (by omega) (by omega) (by decide) rfl d_Mo_layAll_20 rfl ?_
        rw [show J 3 u = c (3 + u) 0 from ((hO 3 u (by omega) (by omega)).trans (iV u (by omega)).1)]
        refine mk_if_eq (tgt := 29) (nx := 24) X d_Mo_layAll_21 (by omega) (by decide) rfl (fun c21 => ?_) (fun c21 => ?_)
        · skip
          refine mk_iinc (nx := 32) X 1 [(1, .int (zi ((u : Int) + 1))), (0, .ref (ad 0))] d_Mo_layAll_29 rfl (by decide) rfl rfl ?_
          refine mk_goto (tgt := 10) X d_Mo_layAll_32 (by decide) ?_
          refine mk_lv [1, 0] rfl ?_
          exact ih10 (u + 1) J (by omega) (by first | exact hJs | exact hT | exact (hJA.1.1 0 19 (by omega)).trans hT) (by first | exact lt_0 | exact lt_s (fun v hv hon => MoD_fr heb.2 hcn.2 hJA.1 (by omega) (hA v hv hon)) (fun _ => hJA.2) | exact lt_s hA (fun hon => absurd hon (by omega))) (by first | exact fun a b x y => hJo a b (by omega) | exact hO | exact fun a b x y => (hJA.1.1 a b (by omega)).trans (hO a b x y)) (by omega)
        · skip
          refine mk_aloadn (nx := 25) X 0 d_Mo_layAll_24 rfl rfl ?_
          refine mk_iloadn (nx := 26) X 1 d_Mo_layAll_25 rfl rfl ?_
          refine mk_callVv (nx := 29) (n := 1) (As := [.int (zi (u : Int))]) (rest := []) X 0 (by decide) (mh_Mo cs ad _) rfl (c_Mo_lay l D cs ad hi c J (moR_fr (fun a b x y => hO a b (by omega) (by omega)) h) u (by omega) (by omega) hT) (g_Mo_lay wd_752) rfl ⟨rfl, rfl⟩ (by decide +kernel) ⟨by decide, by decide⟩ rfl (Nat.le_of_ble_eq_true rfl) rfl d_Mo_layAll_26 rfl ?_
          intro JA hJA
          refine mk_iinc (nx := 32) X 1 [(1, .int (zi ((u : Int) + 1))), (0, .ref (ad 0))] d_Mo_layAll_29 rfl (by decide) rfl rfl ?_
          refine mk_goto (tgt := 10) X d_Mo_layAll_32 (by decide) ?_
          refine mk_lv [1, 0] rfl ?_
          exact ih10 (u + 1) JA (by omega) (by first | exact hJAs | exact hT | exact (hJA.1.1 0 19 (by omega)).trans hT) (by first | exact lt_0 | exact lt_s (fun v hv hon => MoD_fr heb.2 hcn.2 hJA.1 (by omega) (hA v hv hon)) (fun _ => hJA.2) | exact lt_s hA (fun hon => absurd hon (by omega))) (by first | exact fun a b x y => hJAo a b (by omega) | exact hO | exact fun a b x y => (hJA.1.1 a b (by omega)).trans (hO a b x y)) (by omega)
  refine mk_aloadn (nx := 1) X 0 d_Mo_layAll_0 rfl rfl ?_
  refine mk_aloadn (nx := 2) X 0 d_Mo_layAll_1 rfl rfl ?_
  refine mk_callVi (nx := 5) (n := 0) (As := []) (rest := [.ref (ad 0)]) X 0 (by decide) (mh_Mo cs ad _) rfl (c_Mo_endOf l D cs ad hi c I h) (g_Mo_endOf wd_735) rfl ⟨rfl, rfl⟩ (by decide +kernel) ⟨by decide, by decide⟩ rfl (Nat.le_of_ble_eq_true rfl) rfl d_Mo_layAll_2 rfl ?_
  intro r2 J1 hJ1
  obtain ⟨rfl, rfl⟩ := hJ1
  refine mk_putf (nx := 8) (ty := .int) X t_Mo t_Mo_ok n_Mo 0 (by decide) (mh_Mo cs ad _) rfl in_Mo 19 (by decide) wd_614 rfl rfl (by decide +kernel) rfl rfl (Nat.le_of_ble_eq_true rfl) ((mh_Mo cs ad _).trans rfl) d_Mo_layAll_5 rfl ?_
  obtain ⟨J2, hJ2⟩ : ∃ W_ : Wo, W_ = up2 I 0 19 (an_end c) := ⟨_, rfl⟩
  refine mk_same hJ2.symm ?_
  have hJ2s : J2 0 19 = an_end c := hJ2 ▸ up2_ss I 0 19 (an_end c)
  have hJ2o : ∀ a b, (a ≠ 0 ∨ b ≠ 19) → J2 a b = I a b := hJ2 ▸ up2_o I 0 19 (an_end c)
  refine mk_iconst (nx := 9) X d_Mo_layAll_8 rfl ?_
  refine mk_istoren (nx := 10) X [(1, .int (zi 0)), (0, .ref (ad 0))] d_Mo_layAll_9 (by decide) rfl rfl ?_
  refine mk_lv [1, 0] rfl ?_
  exact L10 _ 0 J2 (by omega) (by first | exact hJ2s | exact hT | exact (hJA.1.1 0 19 (by omega)).trans hT) (by first | exact lt_0 | exact lt_s (fun v hv hon => MoD_fr heb.2 hcn.2 hJA.1 (by omega) (hA v hv hon)) (fun _ => hJA.2) | exact lt_s hA (fun hon => absurd hon (by omega))) (by first | exact fun a b x y => hJ2o a b (by omega) | exact hO | exact fun a b x y => (hJA.1.1 a b (by omega)).trans (hO a b x y)) (Nat.lt_succ_self _)

-- CanonMakerModel.at(II)I
theorem d_Mo_at_0 : decode prog_9_method_20_code 0 = .ok (.iload_n 1, 1) := by decide +kernel
theorem d_Mo_at_1 : decode prog_9_method_20_code 1 = .ok (.ifCond .lt 17, 3) := by decide +kernel
theorem d_Mo_at_4 : decode prog_9_method_20_code 4 = .ok (.iload_n 1, 1) := by decide +kernel
theorem d_Mo_at_5 : decode prog_9_method_20_code 5 = .ok (.iconst 3, 1) := by decide +kernel
theorem d_Mo_at_6 : decode prog_9_method_20_code 6 = .ok (.if_icmp .gt 12, 3) := by decide +kernel
theorem d_Mo_at_9 : decode prog_9_method_20_code 9 = .ok (.aload_n 0, 1) := by decide +kernel
theorem d_Mo_at_10 : decode prog_9_method_20_code 10 = .ok (.getfield 16, 3) := by decide +kernel
theorem d_Mo_at_13 : decode prog_9_method_20_code 13 = .ok (.iload_n 1, 1) := by decide +kernel
theorem d_Mo_at_14 : decode prog_9_method_20_code 14 = .ok (.baload, 1) := by decide +kernel
theorem d_Mo_at_15 : decode prog_9_method_20_code 15 = .ok (.ifCond .ne 7, 3) := by decide +kernel
theorem d_Mo_at_18 : decode prog_9_method_20_code 18 = .ok (.sipush 1002, 3) := by decide +kernel
theorem d_Mo_at_21 : decode prog_9_method_20_code 21 = .ok (.ireturn, 1) := by decide +kernel
theorem d_Mo_at_22 : decode prog_9_method_20_code 22 = .ok (.aload_n 0, 1) := by decide +kernel
theorem d_Mo_at_23 : decode prog_9_method_20_code 23 = .ok (.invokevirtual 100, 3) := by decide +kernel
theorem d_Mo_at_26 : decode prog_9_method_20_code 26 = .ok (.iload_n 2, 1) := by decide +kernel
theorem d_Mo_at_27 : decode prog_9_method_20_code 27 = .ok (.ifCond .lt 11, 3) := by decide +kernel
theorem d_Mo_at_30 : decode prog_9_method_20_code 30 = .ok (.iload_n 2, 1) := by decide +kernel
theorem d_Mo_at_31 : decode prog_9_method_20_code 31 = .ok (.aload_n 0, 1) := by decide +kernel
theorem d_Mo_at_32 : decode prog_9_method_20_code 32 = .ok (.getfield 82, 3) := by decide +kernel
theorem d_Mo_at_35 : decode prog_9_method_20_code 35 = .ok (.if_icmp .lt 9, 3) := by decide +kernel
theorem d_Mo_at_38 : decode prog_9_method_20_code 38 = .ok (.sipush 1000, 3) := by decide +kernel
theorem d_Mo_at_41 : decode prog_9_method_20_code 41 = .ok (.goto 15, 3) := by decide +kernel
theorem d_Mo_at_44 : decode prog_9_method_20_code 44 = .ok (.aload_n 0, 1) := by decide +kernel
theorem d_Mo_at_45 : decode prog_9_method_20_code 45 = .ok (.getfield 42, 3) := by decide +kernel
theorem d_Mo_at_48 : decode prog_9_method_20_code 48 = .ok (.sipush 1300, 3) := by decide +kernel
theorem d_Mo_at_51 : decode prog_9_method_20_code 51 = .ok (.iload_n 1, 1) := by decide +kernel
theorem d_Mo_at_52 : decode prog_9_method_20_code 52 = .ok (.imul, 1) := by decide +kernel
theorem d_Mo_at_53 : decode prog_9_method_20_code 53 = .ok (.iload_n 2, 1) := by decide +kernel
theorem d_Mo_at_54 : decode prog_9_method_20_code 54 = .ok (.iadd, 1) := by decide +kernel
theorem d_Mo_at_55 : decode prog_9_method_20_code 55 = .ok (.iaload, 1) := by decide +kernel
theorem d_Mo_at_56 : decode prog_9_method_20_code 56 = .ok (.ireturn, 1) := by decide +kernel
abbrev rm_Mo_at : Room := { frames := 4, cells := 0, slots := 0, locals := 87 }
set_option maxHeartbeats 4000000 in
set_option maxRecDepth 100000 in
theorem c_Mo_at (l : Launch) (D : va_G) (cs : Nat → ClassId) (ad : Nat → Nat) (hi : mo_inj ad) (c I : Wo) (h : moR c I) (v : Int) (h_v : -2147483648 ≤ v ∧ v < 2147483648) (t : Int) (h_t : -2147483648 ≤ t ∧ t < 2147483648) : mo_C l D cs ad y_Mo_at ws_Mo_at rm_Mo_at [.ref (ad 0), .int (zi v), .int (zi t)] I (mk_pi (fun r J => r = an_at c v t ∧ moR c J)) := by
  refine mk_meti (own := "CanonMakerModel") (Ts := wA) hi (Nat.le_refl _) (by decide) rfl (fun w h => List.mem_cons_of_mem _ h) rfl (Nat.le_of_ble_eq_true rfl) [(0, .ref (ad 0)), (1, .int (zi v)), (2, .int (zi t))] rfl ?_
  intro p_ e_ s_ m_ as_ bl_ me_ co_ Q_ X hret
  obtain ⟨⟨⟨hn, hN⟩, ⟨hlo, hsc, hbt, hru, hrd, hst⟩, ⟨hV, hV0⟩, ⟨hfc, hF⟩⟩, ⟨i12, iN⟩, ⟨⟨i50, i51, i52, i53, i54⟩, i07, i09⟩, iV, ⟨i010, iF⟩⟩ := id h
  have heb := an_end_b h.1.1 h.1.2.1 h.1.2.2.1
  refine mk_iloadn (nx := 1) X 1 d_Mo_at_0 rfl rfl ?_
  refine mk_if_lt (tgt := 18) (nx := 4) X d_Mo_at_1 (by omega) (by decide) rfl (fun c1 => ?_) (fun c1 => ?_)
  · skip
    refine mk_sipush (nx := 21) X d_Mo_at_18 (by decide) rfl ?_
    exact hret _ _ _ _ d_Mo_at_21 (by exact ⟨by rw [an_at, if_pos (by omega)], h⟩)
  · skip
    refine mk_iloadn (nx := 5) X 1 d_Mo_at_4 rfl rfl ?_
    refine mk_iconst (nx := 6) X d_Mo_at_5 rfl ?_
    refine mk_icmp_gt (tgt := 18) (nx := 9) X d_Mo_at_6 (by omega) (by omega) (by decide) rfl (fun c6 => ?_) (fun c6 => ?_)
    · skip
      refine mk_sipush (nx := 21) X d_Mo_at_18 (by decide) rfl ?_
      exact hret _ _ _ _ d_Mo_at_21 (by exact ⟨by rw [an_at, if_pos (by omega)], h⟩)
    · skip
      refine mk_aloadn (nx := 10) X 0 d_Mo_at_9 rfl rfl ?_
      refine mk_get (nx := 13) (v := .ref (ad 3)) X 0 (by decide) (mh_Mo cs ad _) rfl in_Mo 3 (by decide) wd_598 rfl rfl d_Mo_at_10 rfl ?_
      refine mk_iloadn (nx := 14) X 1 d_Mo_at_13 rfl rfl ?_
      refine mk_zald (nx := 15) (j := v.toNat) X 3 1 (by decide) (mh_on cs ad _) rfl (by omega) (by omega) (by decide) rfl d_Mo_at_14 rfl ?_
      rw [show I 3 v.toNat = c (3 + v.toNat) 0 from (iV v.toNat (by omega)).1]
      have hv5 := hV v.toNat (by omega)
      refine mk_if_ne (tgt := 22) (nx := 18) X d_Mo_at_15 (by omega) (by decide) rfl (fun c15 => ?_) (fun c15 => ?_)
      · skip
        refine mk_aloadn (nx := 23) X 0 d_Mo_at_22 rfl rfl ?_
        refine mk_callVv (nx := 26) (n := 0) (As := []) (rest := []) X 0 (by decide) (mh_Mo cs ad _) rfl (c_Mo_layAll l D cs ad hi c I h) (g_Mo_layAll wd_748) rfl ⟨rfl, rfl⟩ (by decide +kernel) ⟨by decide, by decide⟩ rfl (Nat.le_of_ble_eq_true rfl) rfl d_Mo_at_23 rfl ?_
        intro JA hJA
        have hRA : moR c JA := moR_fr (fun a b x y => hJA.2 a b (by omega) (by omega)) h
        refine mk_iloadn (nx := 27) X 2 d_Mo_at_26 rfl rfl ?_
        refine mk_if_lt (tgt := 38) (nx := 30) X d_Mo_at_27 (by omega) (by decide) rfl (fun c27 => ?_) (fun c27 => ?_)
        · skip
          refine mk_sipush (nx := 41) X d_Mo_at_38 (by decide) rfl ?_
          refine mk_goto (tgt := 56) X d_Mo_at_41 (by decide) ?_
          exact hret _ _ _ _ d_Mo_at_56 (by first | exact ⟨by rw [an_at, if_neg (by omega), if_pos (by omega)], hRA⟩ | exact ⟨by rw [an_at, if_neg (by omega), if_neg (by omega), show ((1300 * v) + t).toNat = 1300 * v.toNat + t.toNat by omega, ((hJA.1.2 v.toNat (by omega) (by omega)).2 t.toNat (by omega)).2.1, show ((t.toNat : Nat) : Int) = t by omega], hRA⟩)
        · skip
          refine mk_iloadn (nx := 31) X 2 d_Mo_at_30 rfl rfl ?_
          refine mk_aloadn (nx := 32) X 0 d_Mo_at_31 rfl rfl ?_
          refine mk_get (nx := 35) (v := .int (zi (JA 0 19))) X 0 (by decide) (mh_Mo cs ad _) rfl in_Mo 19 (by decide) wd_614 rfl rfl d_Mo_at_32 rfl ?_
          rw [show JA 0 19 = an_end c from hJA.1.1]
          refine mk_icmp_lt (tgt := 44) (nx := 38) X d_Mo_at_35 (by omega) (by omega) (by decide) rfl (fun c35 => ?_) (fun c35 => ?_)
          · skip
            refine mk_aloadn (nx := 45) X 0 d_Mo_at_44 rfl rfl ?_
            refine mk_get (nx := 48) (v := .ref (ad 8)) X 0 (by decide) (mh_Mo cs ad _) rfl in_Mo 15 (by decide) wd_610 rfl rfl d_Mo_at_45 rfl ?_
            refine mk_sipush (nx := 51) X d_Mo_at_48 (by decide) rfl ?_
            refine mk_iloadn (nx := 52) X 1 d_Mo_at_51 rfl rfl ?_
            refine mk_imul (nx := 53) X d_Mo_at_52 rfl ?_
            refine mk_iloadn (nx := 54) X 2 d_Mo_at_53 rfl rfl ?_
            refine mk_iadd (nx := 55) X d_Mo_at_54 rfl ?_
            refine mk_iald (nx := 56) (j := ((1300 * v) + t).toNat) X 8 0 (by decide) (mh_pitchAt cs ad _) rfl (by omega) (by omega) (by decide) rfl d_Mo_at_55 rfl ?_
            exact hret _ _ _ _ d_Mo_at_56 (by first | exact ⟨by rw [an_at, if_neg (by omega), if_pos (by omega)], hRA⟩ | exact ⟨by rw [an_at, if_neg (by omega), if_neg (by omega), show ((1300 * v) + t).toNat = 1300 * v.toNat + t.toNat by omega, ((hJA.1.2 v.toNat (by omega) (by omega)).2 t.toNat (by omega)).2.1, show ((t.toNat : Nat) : Int) = t by omega], hRA⟩)
          · skip
            refine mk_sipush (nx := 41) X d_Mo_at_38 (by decide) rfl ?_
            refine mk_goto (tgt := 56) X d_Mo_at_41 (by decide) ?_
            exact hret _ _ _ _ d_Mo_at_56 (by first | exact ⟨by rw [an_at, if_neg (by omega), if_pos (by omega)], hRA⟩ | exact ⟨by rw [an_at, if_neg (by omega), if_neg (by omega), show ((1300 * v) + t).toNat = 1300 * v.toNat + t.toNat by omega, ((hJA.1.2 v.toNat (by omega) (by omega)).2 t.toNat (by omega)).2.1, show ((t.toNat : Nat) : Int) = t by omega], hRA⟩)
      · skip
        refine mk_sipush (nx := 21) X d_Mo_at_18 (by decide) rfl ?_
        exact hret _ _ _ _ d_Mo_at_21 (by exact ⟨by rw [an_at, if_pos (by omega)], h⟩)

-- CanonMakerModel.sounds(II)Z
theorem d_Mo_sounds_0 : decode prog_9_method_22_code 0 = .ok (.aload_n 0, 1) := by decide +kernel
theorem d_Mo_sounds_1 : decode prog_9_method_22_code 1 = .ok (.getfield 16, 3) := by decide +kernel
theorem d_Mo_sounds_4 : decode prog_9_method_22_code 4 = .ok (.iload_n 1, 1) := by decide +kernel
theorem d_Mo_sounds_5 : decode prog_9_method_22_code 5 = .ok (.baload, 1) := by decide +kernel
theorem d_Mo_sounds_6 : decode prog_9_method_22_code 6 = .ok (.ifCond .eq 25, 3) := by decide +kernel
theorem d_Mo_sounds_9 : decode prog_9_method_22_code 9 = .ok (.aload_n 0, 1) := by decide +kernel
theorem d_Mo_sounds_10 : decode prog_9_method_22_code 10 = .ok (.getfield 42, 3) := by decide +kernel
theorem d_Mo_sounds_13 : decode prog_9_method_22_code 13 = .ok (.sipush 1300, 3) := by decide +kernel
theorem d_Mo_sounds_16 : decode prog_9_method_22_code 16 = .ok (.iload_n 1, 1) := by decide +kernel
theorem d_Mo_sounds_17 : decode prog_9_method_22_code 17 = .ok (.imul, 1) := by decide +kernel
theorem d_Mo_sounds_18 : decode prog_9_method_22_code 18 = .ok (.iload_n 2, 1) := by decide +kernel
theorem d_Mo_sounds_19 : decode prog_9_method_22_code 19 = .ok (.iadd, 1) := by decide +kernel
theorem d_Mo_sounds_20 : decode prog_9_method_22_code 20 = .ok (.iaload, 1) := by decide +kernel
theorem d_Mo_sounds_21 : decode prog_9_method_22_code 21 = .ok (.sipush 1000, 3) := by decide +kernel
theorem d_Mo_sounds_24 : decode prog_9_method_22_code 24 = .ok (.if_icmp .eq 7, 3) := by decide +kernel
theorem d_Mo_sounds_27 : decode prog_9_method_22_code 27 = .ok (.iconst 1, 1) := by decide +kernel
theorem d_Mo_sounds_28 : decode prog_9_method_22_code 28 = .ok (.goto 4, 3) := by decide +kernel
theorem d_Mo_sounds_31 : decode prog_9_method_22_code 31 = .ok (.iconst 0, 1) := by decide +kernel
theorem d_Mo_sounds_32 : decode prog_9_method_22_code 32 = .ok (.ireturn, 1) := by decide +kernel
abbrev rm_Mo_sounds : Room := { frames := 0, cells := 0, slots := 0, locals := 0 }
set_option maxHeartbeats 4000000 in
set_option maxRecDepth 100000 in
theorem c_Mo_sounds (l : Launch) (D : va_G) (cs : Nat → ClassId) (ad : Nat → Nat) (hi : mo_inj ad) (c I : Wo) (h : moR c I) (hL : MoL c I) (v : Nat) (hv : v < 4) (t : Nat) (ht : (t : Int) < an_end c) : mo_C l D cs ad y_Mo_sounds ws_Mo_sounds rm_Mo_sounds [.ref (ad 0), .int (zi (v : Int)), .int (zi (t : Int))] I (mk_pi (fun r J => I = J ∧ ((r = 1 ∧ c (3 + v) 0 = 1 ∧ ¬ cpt c v t = 1000) ∨ (r = 0 ∧ ¬ (c (3 + v) 0 = 1 ∧ ¬ cpt c v t = 1000))))) := by
  refine mk_metz (own := "CanonMakerModel") (Ts := wA) hi (Nat.le_refl _) (by decide) rfl (fun w h => List.mem_cons_of_mem _ h) rfl (Nat.le_of_ble_eq_true rfl) [(0, .ref (ad 0)), (1, .int (zi (v : Int))), (2, .int (zi (t : Int)))] rfl ?_
  intro p_ e_ s_ m_ as_ bl_ me_ co_ Q_ X hret
  obtain ⟨⟨⟨hn, hN⟩, ⟨hlo, hsc, hbt, hru, hrd, hst⟩, ⟨hV, hV0⟩, ⟨hfc, hF⟩⟩, ⟨i12, iN⟩, ⟨⟨i50, i51, i52, i53, i54⟩, i07, i09⟩, iV, ⟨i010, iF⟩⟩ := id h
  have heb := an_end_b h.1.1 h.1.2.1 h.1.2.2.1
  have hcn := cn_e h.1.1
  have hv5 := hV v hv
  have hpb := cpt_b h.1.1 h.1.2.2.1 hv (t : Int)
  have hsb := csk_b c v (t : Int)
  have hlb := cpl_b h.1.1 h.1.2.2.1 hv (t : Int)
  refine mk_aloadn (nx := 1) X 0 d_Mo_sounds_0 rfl rfl ?_
  refine mk_get (nx := 4) (v := .ref (ad 3)) X 0 (by decide) (mh_Mo cs ad _) rfl in_Mo 3 (by decide) wd_598 rfl rfl d_Mo_sounds_1 rfl ?_
  refine mk_iloadn (nx := 5) X 1 d_Mo_sounds_4 rfl rfl ?_
  refine mk_zald (nx := 6) (j := v) X 3 1 (by decide) (mh_on cs ad _) rfl (by omega) (by omega) (by decide) rfl d_Mo_sounds_5 rfl ?_
  rw [show I 3 v = c (3 + v) 0 from (iV v hv).1]
  refine mk_if_eq (tgt := 31) (nx := 9) X d_Mo_sounds_6 (by omega) (by decide) rfl (fun c6 => ?_) (fun c6 => ?_)
  · skip
    refine mk_iconst (nx := 32) X d_Mo_sounds_31 rfl ?_
    exact hret _ _ _ _ d_Mo_sounds_32 (by omega) (by exact ⟨rfl, by omega⟩)
  · skip
    refine mk_aloadn (nx := 10) X 0 d_Mo_sounds_9 rfl rfl ?_
    refine mk_get (nx := 13) (v := .ref (ad 8)) X 0 (by decide) (mh_Mo cs ad _) rfl in_Mo 15 (by decide) wd_610 rfl rfl d_Mo_sounds_10 rfl ?_
    refine mk_sipush (nx := 16) X d_Mo_sounds_13 (by decide) rfl ?_
    refine mk_iloadn (nx := 17) X 1 d_Mo_sounds_16 rfl rfl ?_
    refine mk_imul (nx := 18) X d_Mo_sounds_17 rfl ?_
    refine mk_iloadn (nx := 19) X 2 d_Mo_sounds_18 rfl rfl ?_
    refine mk_iadd (nx := 20) X d_Mo_sounds_19 rfl ?_
    refine mk_iald (nx := 21) (j := ((1300 * v) + t)) X 8 0 (by decide) (mh_pitchAt cs ad _) rfl (by omega) (by omega) (by decide) (by omega) d_Mo_sounds_20 rfl ?_
    rw [show I 8 ((1300 * v) + t) = cpt c v (t : Int) from ((hL.2 v hv (by omega)).2 t ht).2.1]
    refine mk_sipush (nx := 24) X d_Mo_sounds_21 (by decide) rfl ?_
    refine mk_icmp_eq (tgt := 31) (nx := 27) X d_Mo_sounds_24 (by omega) (by omega) (by decide) rfl (fun c24 => ?_) (fun c24 => ?_)
    · skip
      refine mk_iconst (nx := 32) X d_Mo_sounds_31 rfl ?_
      exact hret _ _ _ _ d_Mo_sounds_32 (by omega) (by exact ⟨rfl, by omega⟩)
    · skip
      refine mk_iconst (nx := 28) X d_Mo_sounds_27 rfl ?_
      refine mk_goto (tgt := 32) X d_Mo_sounds_28 (by decide) ?_
      exact hret _ _ _ _ d_Mo_sounds_32 (by omega) (by exact ⟨rfl, by omega⟩)

-- CanonMakerModel.isStruck(II)Z
theorem d_Mo_isStruck_0 : decode prog_9_method_23_code 0 = .ok (.aload_n 0, 1) := by decide +kernel
theorem d_Mo_isStruck_1 : decode prog_9_method_23_code 1 = .ok (.getfield 16, 3) := by decide +kernel
theorem d_Mo_isStruck_4 : decode prog_9_method_23_code 4 = .ok (.iload_n 1, 1) := by decide +kernel
theorem d_Mo_isStruck_5 : decode prog_9_method_23_code 5 = .ok (.baload, 1) := by decide +kernel
theorem d_Mo_isStruck_6 : decode prog_9_method_23_code 6 = .ok (.ifCond .eq 22, 3) := by decide +kernel
theorem d_Mo_isStruck_9 : decode prog_9_method_23_code 9 = .ok (.aload_n 0, 1) := by decide +kernel
theorem d_Mo_isStruck_10 : decode prog_9_method_23_code 10 = .ok (.getfield 45, 3) := by decide +kernel
theorem d_Mo_isStruck_13 : decode prog_9_method_23_code 13 = .ok (.sipush 1300, 3) := by decide +kernel
theorem d_Mo_isStruck_16 : decode prog_9_method_23_code 16 = .ok (.iload_n 1, 1) := by decide +kernel
theorem d_Mo_isStruck_17 : decode prog_9_method_23_code 17 = .ok (.imul, 1) := by decide +kernel
theorem d_Mo_isStruck_18 : decode prog_9_method_23_code 18 = .ok (.iload_n 2, 1) := by decide +kernel
theorem d_Mo_isStruck_19 : decode prog_9_method_23_code 19 = .ok (.iadd, 1) := by decide +kernel
theorem d_Mo_isStruck_20 : decode prog_9_method_23_code 20 = .ok (.baload, 1) := by decide +kernel
theorem d_Mo_isStruck_21 : decode prog_9_method_23_code 21 = .ok (.ifCond .eq 7, 3) := by decide +kernel
theorem d_Mo_isStruck_24 : decode prog_9_method_23_code 24 = .ok (.iconst 1, 1) := by decide +kernel
theorem d_Mo_isStruck_25 : decode prog_9_method_23_code 25 = .ok (.goto 4, 3) := by decide +kernel
theorem d_Mo_isStruck_28 : decode prog_9_method_23_code 28 = .ok (.iconst 0, 1) := by decide +kernel
theorem d_Mo_isStruck_29 : decode prog_9_method_23_code 29 = .ok (.ireturn, 1) := by decide +kernel
abbrev rm_Mo_isStruck : Room := { frames := 0, cells := 0, slots := 0, locals := 0 }
set_option maxHeartbeats 4000000 in
set_option maxRecDepth 100000 in
theorem c_Mo_isStruck (l : Launch) (D : va_G) (cs : Nat → ClassId) (ad : Nat → Nat) (hi : mo_inj ad) (c I : Wo) (h : moR c I) (hL : MoL c I) (v : Nat) (hv : v < 4) (t : Nat) (ht : (t : Int) < an_end c) : mo_C l D cs ad y_Mo_isStruck ws_Mo_isStruck rm_Mo_isStruck [.ref (ad 0), .int (zi (v : Int)), .int (zi (t : Int))] I (mk_pi (fun r J => I = J ∧ ((r = 1 ∧ c (3 + v) 0 = 1 ∧ csk c v t = 1) ∨ (r = 0 ∧ ¬ (c (3 + v) 0 = 1 ∧ csk c v t = 1))))) := by
  refine mk_metz (own := "CanonMakerModel") (Ts := wA) hi (Nat.le_refl _) (by decide) rfl (fun w h => List.mem_cons_of_mem _ h) rfl (Nat.le_of_ble_eq_true rfl) [(0, .ref (ad 0)), (1, .int (zi (v : Int))), (2, .int (zi (t : Int)))] rfl ?_
  intro p_ e_ s_ m_ as_ bl_ me_ co_ Q_ X hret
  obtain ⟨⟨⟨hn, hN⟩, ⟨hlo, hsc, hbt, hru, hrd, hst⟩, ⟨hV, hV0⟩, ⟨hfc, hF⟩⟩, ⟨i12, iN⟩, ⟨⟨i50, i51, i52, i53, i54⟩, i07, i09⟩, iV, ⟨i010, iF⟩⟩ := id h
  have heb := an_end_b h.1.1 h.1.2.1 h.1.2.2.1
  have hcn := cn_e h.1.1
  have hv5 := hV v hv
  have hpb := cpt_b h.1.1 h.1.2.2.1 hv (t : Int)
  have hsb := csk_b c v (t : Int)
  have hlb := cpl_b h.1.1 h.1.2.2.1 hv (t : Int)
  refine mk_aloadn (nx := 1) X 0 d_Mo_isStruck_0 rfl rfl ?_
  refine mk_get (nx := 4) (v := .ref (ad 3)) X 0 (by decide) (mh_Mo cs ad _) rfl in_Mo 3 (by decide) wd_598 rfl rfl d_Mo_isStruck_1 rfl ?_
  refine mk_iloadn (nx := 5) X 1 d_Mo_isStruck_4 rfl rfl ?_
  refine mk_zald (nx := 6) (j := v) X 3 1 (by decide) (mh_on cs ad _) rfl (by omega) (by omega) (by decide) rfl d_Mo_isStruck_5 rfl ?_
  rw [show I 3 v = c (3 + v) 0 from (iV v hv).1]
  refine mk_if_eq (tgt := 28) (nx := 9) X d_Mo_isStruck_6 (by omega) (by decide) rfl (fun c6 => ?_) (fun c6 => ?_)
  · skip
    refine mk_iconst (nx := 29) X d_Mo_isStruck_28 rfl ?_
    exact hret _ _ _ _ d_Mo_isStruck_29 (by omega) (by exact ⟨rfl, by omega⟩)
  · skip
    refine mk_aloadn (nx := 10) X 0 d_Mo_isStruck_9 rfl rfl ?_
    refine mk_get (nx := 13) (v := .ref (ad 9)) X 0 (by decide) (mh_Mo cs ad _) rfl in_Mo 16 (by decide) wd_611 rfl rfl d_Mo_isStruck_10 rfl ?_
    refine mk_sipush (nx := 16) X d_Mo_isStruck_13 (by decide) rfl ?_
    refine mk_iloadn (nx := 17) X 1 d_Mo_isStruck_16 rfl rfl ?_
    refine mk_imul (nx := 18) X d_Mo_isStruck_17 rfl ?_
    refine mk_iloadn (nx := 19) X 2 d_Mo_isStruck_18 rfl rfl ?_
    refine mk_iadd (nx := 20) X d_Mo_isStruck_19 rfl ?_
    refine mk_zald (nx := 21) (j := ((1300 * v) + t)) X 9 1 (by decide) (mh_struck cs ad _) rfl (by omega) (by omega) (by decide) (by omega) d_Mo_isStruck_20 rfl ?_
    rw [show I 9 ((1300 * v) + t) = csk c v (t : Int) from ((hL.2 v hv (by omega)).2 t ht).2.2]
    refine mk_if_eq (tgt := 28) (nx := 24) X d_Mo_isStruck_21 (by omega) (by decide) rfl (fun c21 => ?_) (fun c21 => ?_)
    · skip
      refine mk_iconst (nx := 29) X d_Mo_isStruck_28 rfl ?_
      exact hret _ _ _ _ d_Mo_isStruck_29 (by omega) (by exact ⟨rfl, by omega⟩)
    · skip
      refine mk_iconst (nx := 25) X d_Mo_isStruck_24 rfl ?_
      refine mk_goto (tgt := 29) X d_Mo_isStruck_25 (by decide) ?_
      exact hret _ _ _ _ d_Mo_isStruck_29 (by omega) (by exact ⟨rfl, by omega⟩)

-- CanonMakerModel.gap(II)I
theorem d_Mo_gap_0 : decode prog_9_method_25_code 0 = .ok (.iload_n 0, 1) := by decide +kernel
theorem d_Mo_gap_1 : decode prog_9_method_25_code 1 = .ok (.iload_n 1, 1) := by decide +kernel
theorem d_Mo_gap_2 : decode prog_9_method_25_code 2 = .ok (.if_icmp .ge 9, 3) := by decide +kernel
theorem d_Mo_gap_5 : decode prog_9_method_25_code 5 = .ok (.iload_n 1, 1) := by decide +kernel
theorem d_Mo_gap_6 : decode prog_9_method_25_code 6 = .ok (.iload_n 0, 1) := by decide +kernel
theorem d_Mo_gap_7 : decode prog_9_method_25_code 7 = .ok (.isub, 1) := by decide +kernel
theorem d_Mo_gap_8 : decode prog_9_method_25_code 8 = .ok (.goto 6, 3) := by decide +kernel
theorem d_Mo_gap_11 : decode prog_9_method_25_code 11 = .ok (.iload_n 0, 1) := by decide +kernel
theorem d_Mo_gap_12 : decode prog_9_method_25_code 12 = .ok (.iload_n 1, 1) := by decide +kernel
theorem d_Mo_gap_13 : decode prog_9_method_25_code 13 = .ok (.isub, 1) := by decide +kernel
theorem d_Mo_gap_14 : decode prog_9_method_25_code 14 = .ok (.bipush 12, 2) := by decide +kernel
theorem d_Mo_gap_16 : decode prog_9_method_25_code 16 = .ok (.irem, 1) := by decide +kernel
theorem d_Mo_gap_17 : decode prog_9_method_25_code 17 = .ok (.ireturn, 1) := by decide +kernel
abbrev rm_Mo_gap : Room := { frames := 0, cells := 0, slots := 0, locals := 0 }
set_option maxHeartbeats 4000000 in
set_option maxRecDepth 100000 in
theorem c_Mo_gap (l : Launch) (D : va_G) (cs : Nat → ClassId) (ad : Nat → Nat) (hi : mo_inj ad) (I : Wo) (a b : Int) (ha : -100000 ≤ a ∧ a ≤ 100000) (hb : -100000 ≤ b ∧ b ≤ 100000) : mo_C l D cs ad y_Mo_gap ws_Mo_gap rm_Mo_gap [.int (zi a), .int (zi b)] I (mk_pi (fun r J => I = J ∧ r = gp a b)) := by
  refine mk_meti (own := "CanonMakerModel") (Ts := wA) hi (Nat.le_refl _) (by decide) rfl (fun w h => List.mem_cons_of_mem _ h) rfl (Nat.le_of_ble_eq_true rfl) [(0, .int (zi a)), (1, .int (zi b))] rfl ?_
  intro p_ e_ s_ m_ as_ bl_ me_ co_ Q_ X hret
  refine mk_iloadn (nx := 1) X 0 d_Mo_gap_0 rfl rfl ?_
  refine mk_iloadn (nx := 2) X 1 d_Mo_gap_1 rfl rfl ?_
  refine mk_icmp_ge (tgt := 11) (nx := 5) X d_Mo_gap_2 (by omega) (by omega) (by decide) rfl (fun c2 => ?_) (fun c2 => ?_)
  · skip
    refine mk_iloadn (nx := 12) X 0 d_Mo_gap_11 rfl rfl ?_
    refine mk_iloadn (nx := 13) X 1 d_Mo_gap_12 rfl rfl ?_
    refine mk_isub (nx := 14) X d_Mo_gap_13 rfl ?_
    refine mk_bipush (nx := 16) X d_Mo_gap_14 (by decide) rfl ?_
    refine mk_irem (nx := 17) X d_Mo_gap_16 (by omega) (by omega) (by omega) rfl ?_
    exact hret _ _ _ _ d_Mo_gap_17 (by exact ⟨rfl, by unfold gp; rw [Int.tmod_eq_emod_of_nonneg (by omega)]; omega⟩)
  · skip
    refine mk_iloadn (nx := 6) X 1 d_Mo_gap_5 rfl rfl ?_
    refine mk_iloadn (nx := 7) X 0 d_Mo_gap_6 rfl rfl ?_
    refine mk_isub (nx := 8) X d_Mo_gap_7 rfl ?_
    refine mk_goto (tgt := 14) X d_Mo_gap_8 (by decide) ?_
    refine mk_bipush (nx := 16) X d_Mo_gap_14 (by decide) rfl ?_
    refine mk_irem (nx := 17) X d_Mo_gap_16 (by omega) (by omega) (by omega) rfl ?_
    exact hret _ _ _ _ d_Mo_gap_17 (by exact ⟨rfl, by unfold gp; rw [Int.tmod_eq_emod_of_nonneg (by omega)]; omega⟩)
end
section
/-! JUDGING, in words: STRUCK, sounding, the neighbours' pitches -/
def hsk (c : Wo) (v : Nat) (t : Int) : Prop := c (3 + v) 0 = 1 ∧ csk c v t = 1
def hso (c : Wo) (v : Nat) (t : Int) : Prop := c (3 + v) 0 = 1 ∧ ¬ cpt c v t = 1000
def ob (c : Wo) (v : Nat) (t : Int) : Int := cbs c v (cpl c v t) (-1)
def nb (c : Wo) (v : Nat) (t : Int) : Int := cbs c v (cpl c v t) 1
def leap (d : Int) : Prop := 12 < d ∨ d = 6 ∨ d = 10 ∨ d = 11
/-- a fault of one VOICE -/
def brA (c : Wo) (rule : Int) (v : Nat) (t : Int) : Prop := hsk c v t ∧ ¬ cpt c v t = 1001 ∧ ((rule = 1 ∧ (cpt c v t < c 0 1 ∨ c 0 2 < cpt c v t)) ∨ (rule = 2 ∧ ziand (zishr (c 0 3) (cpt c v t % 12)) 1 = 0) ∨ (rule = 128 ∧ ob c v t < 1000 ∧ leap ((cpt c v t - ob c v t).natAbs : Int)))
/-- how a NOTE goes on: 0 not in steps, or lonely; 1 in steps; 2 open -/
def gst (p o n : Int) : Int := if o = 1000 ∨ n = 1000 then 0 else if o = 1001 ∨ n = 1001 then 2 else if (1 ≤ p - o ∧ p - o ≤ 2 ∧ 1 ≤ n - p ∧ n - p ≤ 2) ∨ (p - o ≤ -1 ∧ -2 ≤ p - o ∧ n - p ≤ -1 ∧ -2 ≤ n - p) then 1 else 0
theorem lineat {c I : Wo} {v : Nat} (h : MlL c I v (cn c)) {y : Int} (hy : 0 ≤ y ∧ y < cn c) {q : Nat} (hq : (q : Int) = 24 * v + y) : I 11 q = clp c v y.toNat := by
  obtain rfl : q = 24 * v + y.toNat := by omega
  exact h _ (by omega)
theorem cbs_b {c : Wo} {v : Nat} (h : wfN c) (hV : wfV c) (hv : v < 4) (hp : 0 < cn c) (p way : Int) : -200 ≤ cbs c v p way ∧ cbs c v p way ≤ 1001 := by
  have hcn := cn_e h
  unfold cbs
  by_cases a : 0 ≤ p + way ∧ p + way < c 0 0
  · rw [if_pos a]; exact clp_b h hV hv (by omega)
  · rw [if_neg a]
    by_cases b : c 0 6 = 0 ∨ ¬ an_size c * c (3 + v) 4 = c 0 6
    · rw [if_pos b]; omega
    · rw [if_neg b]
      by_cases d : p + way < 0
      · rw [if_pos d]; exact clp_b h hV hv (by omega)
      · rw [if_neg d]; exact clp_b h hV hv (by omega)
theorem csk_pl {c : Wo} {v : Nat} {t : Int} (h : csk c v t = 1) : ¬ cpl c v t = -1 ∧ ¬ cpt c v t = 1000 := by
  unfold csk at h
  by_cases a : cpl c v t = -1
  · rw [if_pos a] at h; omega
  · rw [if_neg a] at h
    refine ⟨a, ?_⟩
    by_cases b : csn c v t = cbg c v (cpl c v t).toNat ∧ ¬ clp c v (cpl c v t).toNat = 1000
    · unfold cpt; rw [if_neg a]; exact b.2
    · rw [if_neg b] at h; omega
theorem mod12 (p : Int) : Int.tmod (Int.tmod p 12 + 12) 12 = p % 12 := by
  have h := tmod_fm (x := p) (y := 12) (by omega)
  have h1 := Int.tmod_lt_of_pos p (show (0 : Int) < 12 by omega)
  have h2 := Int.lt_tmod_of_pos p (show (0 : Int) < 12 by omega)
  rw [Int.tmod_eq_emod_of_nonneg (by omega)]
  split at h <;> omega

-- CanonMakerModel.beside(III)I
theorem d_Mo_beside_0 : decode prog_9_method_24_code 0 = .ok (.aload_n 0, 1) := by decide +kernel
theorem d_Mo_beside_1 : decode prog_9_method_24_code 1 = .ok (.getfield 48, 3) := by decide +kernel
theorem d_Mo_beside_4 : decode prog_9_method_24_code 4 = .ok (.sipush 1300, 3) := by decide +kernel
theorem d_Mo_beside_7 : decode prog_9_method_24_code 7 = .ok (.iload_n 1, 1) := by decide +kernel
theorem d_Mo_beside_8 : decode prog_9_method_24_code 8 = .ok (.imul, 1) := by decide +kernel
theorem d_Mo_beside_9 : decode prog_9_method_24_code 9 = .ok (.iload_n 2, 1) := by decide +kernel
theorem d_Mo_beside_10 : decode prog_9_method_24_code 10 = .ok (.iadd, 1) := by decide +kernel
theorem d_Mo_beside_11 : decode prog_9_method_24_code 11 = .ok (.iaload, 1) := by decide +kernel
theorem d_Mo_beside_12 : decode prog_9_method_24_code 12 = .ok (.iload_n 3, 1) := by decide +kernel
theorem d_Mo_beside_13 : decode prog_9_method_24_code 13 = .ok (.iadd, 1) := by decide +kernel
theorem d_Mo_beside_14 : decode prog_9_method_24_code 14 = .ok (.istore 4, 2) := by decide +kernel
theorem d_Mo_beside_16 : decode prog_9_method_24_code 16 = .ok (.iload 4, 2) := by decide +kernel
theorem d_Mo_beside_18 : decode prog_9_method_24_code 18 = .ok (.ifCond .lt 12, 3) := by decide +kernel
theorem d_Mo_beside_21 : decode prog_9_method_24_code 21 = .ok (.iload 4, 2) := by decide +kernel
theorem d_Mo_beside_23 : decode prog_9_method_24_code 23 = .ok (.aload_n 0, 1) := by decide +kernel
theorem d_Mo_beside_24 : decode prog_9_method_24_code 24 = .ok (.getfield 66, 3) := by decide +kernel
theorem d_Mo_beside_27 : decode prog_9_method_24_code 27 = .ok (.if_icmp .lt 43, 3) := by decide +kernel
theorem d_Mo_beside_30 : decode prog_9_method_24_code 30 = .ok (.aload_n 0, 1) := by decide +kernel
theorem d_Mo_beside_31 : decode prog_9_method_24_code 31 = .ok (.getfield 72, 3) := by decide +kernel
theorem d_Mo_beside_34 : decode prog_9_method_24_code 34 = .ok (.ifCond .eq 15, 3) := by decide +kernel
theorem d_Mo_beside_37 : decode prog_9_method_24_code 37 = .ok (.aload_n 0, 1) := by decide +kernel
theorem d_Mo_beside_38 : decode prog_9_method_24_code 38 = .ok (.iload_n 1, 1) := by decide +kernel
theorem d_Mo_beside_39 : decode prog_9_method_24_code 39 = .ok (.invokevirtual 89, 3) := by decide +kernel
theorem d_Mo_beside_42 : decode prog_9_method_24_code 42 = .ok (.aload_n 0, 1) := by decide +kernel
theorem d_Mo_beside_43 : decode prog_9_method_24_code 43 = .ok (.getfield 72, 3) := by decide +kernel
theorem d_Mo_beside_46 : decode prog_9_method_24_code 46 = .ok (.if_icmp .eq 7, 3) := by decide +kernel
theorem d_Mo_beside_49 : decode prog_9_method_24_code 49 = .ok (.sipush 1000, 3) := by decide +kernel
theorem d_Mo_beside_52 : decode prog_9_method_24_code 52 = .ok (.ireturn, 1) := by decide +kernel
theorem d_Mo_beside_53 : decode prog_9_method_24_code 53 = .ok (.iload 4, 2) := by decide +kernel
theorem d_Mo_beside_55 : decode prog_9_method_24_code 55 = .ok (.ifCond .ge 12, 3) := by decide +kernel
theorem d_Mo_beside_58 : decode prog_9_method_24_code 58 = .ok (.aload_n 0, 1) := by decide +kernel
theorem d_Mo_beside_59 : decode prog_9_method_24_code 59 = .ok (.getfield 66, 3) := by decide +kernel
theorem d_Mo_beside_62 : decode prog_9_method_24_code 62 = .ok (.iconst 1, 1) := by decide +kernel
theorem d_Mo_beside_63 : decode prog_9_method_24_code 63 = .ok (.isub, 1) := by decide +kernel
theorem d_Mo_beside_64 : decode prog_9_method_24_code 64 = .ok (.goto 4, 3) := by decide +kernel
theorem d_Mo_beside_67 : decode prog_9_method_24_code 67 = .ok (.iconst 0, 1) := by decide +kernel
theorem d_Mo_beside_68 : decode prog_9_method_24_code 68 = .ok (.istore 4, 2) := by decide +kernel
theorem d_Mo_beside_70 : decode prog_9_method_24_code 70 = .ok (.aload_n 0, 1) := by decide +kernel
theorem d_Mo_beside_71 : decode prog_9_method_24_code 71 = .ok (.getfield 51, 3) := by decide +kernel
theorem d_Mo_beside_74 : decode prog_9_method_24_code 74 = .ok (.bipush 24, 2) := by decide +kernel
theorem d_Mo_beside_76 : decode prog_9_method_24_code 76 = .ok (.iload_n 1, 1) := by decide +kernel
theorem d_Mo_beside_77 : decode prog_9_method_24_code 77 = .ok (.imul, 1) := by decide +kernel
theorem d_Mo_beside_78 : decode prog_9_method_24_code 78 = .ok (.iload 4, 2) := by decide +kernel
theorem d_Mo_beside_80 : decode prog_9_method_24_code 80 = .ok (.iadd, 1) := by decide +kernel
theorem d_Mo_beside_81 : decode prog_9_method_24_code 81 = .ok (.iaload, 1) := by decide +kernel
theorem d_Mo_beside_82 : decode prog_9_method_24_code 82 = .ok (.ireturn, 1) := by decide +kernel
abbrev rm_Mo_beside : Room := { frames := 2, cells := 0, slots := 0, locals := 43 }
set_option maxHeartbeats 4000000 in
set_option maxRecDepth 100000 in
theorem c_Mo_beside (l : Launch) (D : va_G) (cs : Nat → ClassId) (ad : Nat → Nat) (hi : mo_inj ad) (c I : Wo) (h : moR c I) (hL : MoL c I) (v : Nat) (hv : v < 4) (t : Nat) (ht : (t : Int) < an_end c) (hon : c (3 + v) 0 = 1) (hp : ¬ cpl c v t = -1) (way : Int) (hw : way = -1 ∨ way = 1) : mo_C l D cs ad y_Mo_beside ws_Mo_beside rm_Mo_beside [.ref (ad 0), .int (zi (v : Int)), .int (zi (t : Int)), .int (zi way)] I (mk_pi (fun r J => I = J ∧ r = cbs c v (cpl c v t) way)) := by
  refine mk_meti (own := "CanonMakerModel") (Ts := wA) hi (Nat.le_refl _) (by decide) rfl (fun w h => List.mem_cons_of_mem _ h) rfl (Nat.le_of_ble_eq_true rfl) [(0, .ref (ad 0)), (1, .int (zi (v : Int))), (2, .int (zi (t : Int))), (3, .int (zi way))] rfl ?_
  intro p_ e_ s_ m_ as_ bl_ me_ co_ Q_ X hret
  obtain ⟨⟨⟨hn, hN⟩, ⟨hlo, hsc, hbt, hru, hrd, hst⟩, ⟨hV, hV0⟩, ⟨hfc, hF⟩⟩, ⟨i12, iN⟩, ⟨⟨i50, i51, i52, i53, i54⟩, i07, i09⟩, iV, ⟨i010, iF⟩⟩ := id h
  have heb := an_end_b h.1.1 h.1.2.1 h.1.2.2.1
  have hcn := cn_e h.1.1
  have hv5 := hV v hv
  have hpb := cpt_b h.1.1 h.1.2.2.1 hv (t : Int)
  have hsb := csk_b c v (t : Int)
  have hlb := cpl_b h.1.1 h.1.2.2.1 hv (t : Int)
  have hsz := an_size_b h.1.1
  have hm := mul_rng hsz hv5.2.2.2.2
  refine mk_aloadn (nx := 1) X 0 d_Mo_beside_0 rfl rfl ?_
  refine mk_get (nx := 4) (v := .ref (ad 10)) X 0 (by decide) (mh_Mo cs ad _) rfl in_Mo 17 (by decide) wd_612 rfl rfl d_Mo_beside_1 rfl ?_
  refine mk_sipush (nx := 7) X d_Mo_beside_4 (by decide) rfl ?_
  refine mk_iloadn (nx := 8) X 1 d_Mo_beside_7 rfl rfl ?_
  refine mk_imul (nx := 9) X d_Mo_beside_8 rfl ?_
  refine mk_iloadn (nx := 10) X 2 d_Mo_beside_9 rfl rfl ?_
  refine mk_iadd (nx := 11) X d_Mo_beside_10 rfl ?_
  refine mk_iald (nx := 12) (j := ((1300 * v) + t)) X 10 0 (by decide) (mh_noteAt cs ad _) rfl (by omega) (by omega) (by decide) (by omega) d_Mo_beside_11 rfl ?_
  rw [show I 10 ((1300 * v) + t) = cpl c v (t : Int) from ((hL.2 v hv hon).2 t ht).1]
  refine mk_iloadn (nx := 13) X 3 d_Mo_beside_12 rfl rfl ?_
  refine mk_iadd (nx := 14) X d_Mo_beside_13 rfl ?_
  refine mk_istore (nx := 16) X [(4, .int (zi ((cpl c v (t : Int)) + way))), (0, .ref (ad 0)), (1, .int (zi (v : Int))), (2, .int (zi (t : Int))), (3, .int (zi way))] d_Mo_beside_14 (by decide) rfl rfl ?_
  refine mk_iload (nx := 18) X 0 d_Mo_beside_16 rfl rfl ?_
  refine mk_if_lt (tgt := 30) (nx := 21) X d_Mo_beside_18 (by omega) (by decide) rfl (fun c18 => ?_) (fun c18 => ?_)
  · skip
    refine mk_aloadn (nx := 31) X 1 d_Mo_beside_30 rfl rfl ?_
    refine mk_get (nx := 34) (v := .int (zi (I 0 12))) X 0 (by decide) (mh_Mo cs ad _) rfl in_Mo 12 (by decide) wd_607 rfl rfl d_Mo_beside_31 rfl ?_
    rw [show I 0 12 = c 0 6 from i07]
    refine mk_if_eq (tgt := 49) (nx := 37) X d_Mo_beside_34 (by omega) (by decide) rfl (fun c34 => ?_) (fun c34 => ?_)
    · skip
      refine mk_sipush (nx := 52) X d_Mo_beside_49 (by decide) rfl ?_
      exact hret _ _ _ _ d_Mo_beside_52 (by exact ⟨rfl, by rw [cbs, if_neg (by omega), if_pos (by omega)]⟩)
    · skip
      refine mk_aloadn (nx := 38) X 1 d_Mo_beside_37 rfl rfl ?_
      refine mk_iloadn (nx := 39) X 2 d_Mo_beside_38 rfl rfl ?_
      refine mk_callVi (nx := 42) (n := 1) (As := [.int (zi (v : Int))]) (rest := []) X 0 (by decide) (mh_Mo cs ad _) rfl (c_Mo_lineSize l D cs ad hi c I h v hv) (g_Mo_lineSize wd_739) rfl ⟨rfl, rfl⟩ (by decide +kernel) ⟨by decide, by decide⟩ rfl (Nat.le_of_ble_eq_true rfl) rfl d_Mo_beside_39 rfl ?_
      intro r39 J1 hJ1
      obtain ⟨rfl, rfl⟩ := hJ1
      refine mk_aloadn (nx := 43) X 1 d_Mo_beside_42 rfl rfl ?_
      refine mk_get (nx := 46) (v := .int (zi (I 0 12))) X 0 (by decide) (mh_Mo cs ad _) rfl in_Mo 12 (by decide) wd_607 rfl rfl d_Mo_beside_43 rfl ?_
      rw [show I 0 12 = c 0 6 from i07]
      refine mk_icmp_eq (tgt := 53) (nx := 49) X d_Mo_beside_46 (by omega) (by omega) (by decide) rfl (fun c46 => ?_) (fun c46 => ?_)
      · skip
        refine mk_iload (nx := 55) X 0 d_Mo_beside_53 rfl rfl ?_
        refine mk_if_ge (tgt := 67) (nx := 58) X d_Mo_beside_55 (by omega) (by decide) rfl (fun c55 => ?_) (fun c55 => ?_)
        · skip
          refine mk_iconst (nx := 68) X d_Mo_beside_67 rfl ?_
          refine mk_istore (nx := 70) X [(4, .int (zi 0)), (0, .ref (ad 0)), (1, .int (zi (v : Int))), (2, .int (zi (t : Int))), (3, .int (zi way))] d_Mo_beside_68 (by decide) rfl rfl ?_
          refine mk_aloadn (nx := 71) X 1 d_Mo_beside_70 rfl rfl ?_
          refine mk_get (nx := 74) (v := .ref (ad 11)) X 0 (by decide) (mh_Mo cs ad _) rfl in_Mo 18 (by decide) wd_613 rfl rfl d_Mo_beside_71 rfl ?_
          refine mk_bipush (nx := 76) X d_Mo_beside_74 (by decide) rfl ?_
          refine mk_iloadn (nx := 77) X 2 d_Mo_beside_76 rfl rfl ?_
          refine mk_imul (nx := 78) X d_Mo_beside_77 rfl ?_
          refine mk_iload (nx := 80) X 0 d_Mo_beside_78 rfl rfl ?_
          refine mk_iadd (nx := 81) X d_Mo_beside_80 rfl ?_
          refine mk_iald (nx := 82) (j := ((24 * v) + 0)) X 11 0 (by decide) (mh_line cs ad _) rfl (by omega) (by omega) (by decide) (by omega) d_Mo_beside_81 rfl ?_
          exact hret _ _ _ _ d_Mo_beside_82 (by first | exact ⟨rfl, by rw [cbs, if_pos (by omega)]; exact lineat (hL.2 v hv hon).1 (y := cpl c v (t : Int) + way) (by omega) (by omega)⟩ | exact ⟨rfl, by rw [cbs, if_neg (by omega), if_neg (by omega), if_pos (by omega), show cn c - 1 = (c 0 0 - 1).toNat by unfold cn; omega]; exact lineat (hL.2 v hv hon).1 (y := c 0 0 - 1) (by omega) (by omega)⟩ | exact ⟨rfl, by rw [cbs, if_neg (by omega), if_neg (by omega), if_neg (by omega)]; exact lineat (hL.2 v hv hon).1 (y := 0) (by omega) (by omega)⟩)
        · skip
          refine mk_aloadn (nx := 59) X 1 d_Mo_beside_58 rfl rfl ?_
          refine mk_get (nx := 62) (v := .int (zi (I 0 2))) X 0 (by decide) (mh_Mo cs ad _) rfl in_Mo 2 (by decide) wd_597 rfl rfl d_Mo_beside_59 rfl ?_
          rw [show I 0 2 = c 0 0 from i12]
          refine mk_iconst (nx := 63) X d_Mo_beside_62 rfl ?_
          refine mk_isub (nx := 64) X d_Mo_beside_63 rfl ?_
          refine mk_goto (tgt := 68) X d_Mo_beside_64 (by decide) ?_
          refine mk_istore (nx := 70) X [(4, .int (zi ((c 0 0) - 1))), (0, .ref (ad 0)), (1, .int (zi (v : Int))), (2, .int (zi (t : Int))), (3, .int (zi way))] d_Mo_beside_68 (by decide) rfl rfl ?_
          refine mk_aloadn (nx := 71) X 1 d_Mo_beside_70 rfl rfl ?_
          refine mk_get (nx := 74) (v := .ref (ad 11)) X 0 (by decide) (mh_Mo cs ad _) rfl in_Mo 18 (by decide) wd_613 rfl rfl d_Mo_beside_71 rfl ?_
          refine mk_bipush (nx := 76) X d_Mo_beside_74 (by decide) rfl ?_
          refine mk_iloadn (nx := 77) X 2 d_Mo_beside_76 rfl rfl ?_
          refine mk_imul (nx := 78) X d_Mo_beside_77 rfl ?_
          refine mk_iload (nx := 80) X 0 d_Mo_beside_78 rfl rfl ?_
          refine mk_iadd (nx := 81) X d_Mo_beside_80 rfl ?_
          refine mk_iald (nx := 82) (j := ((24 * (v : Int)) + ((c 0 0) - 1)).toNat) X 11 0 (by decide) (mh_line cs ad _) rfl (by omega) (by omega) (by decide) rfl d_Mo_beside_81 rfl ?_
          exact hret _ _ _ _ d_Mo_beside_82 (by first | exact ⟨rfl, by rw [cbs, if_pos (by omega)]; exact lineat (hL.2 v hv hon).1 (y := cpl c v (t : Int) + way) (by omega) (by omega)⟩ | exact ⟨rfl, by rw [cbs, if_neg (by omega), if_neg (by omega), if_pos (by omega), show cn c - 1 = (c 0 0 - 1).toNat by unfold cn; omega]; exact lineat (hL.2 v hv hon).1 (y := c 0 0 - 1) (by omega) (by omega)⟩ | exact ⟨rfl, by rw [cbs, if_neg (by omega), if_neg (by omega), if_neg (by omega)]; exact lineat (hL.2 v hv hon).1 (y := 0) (by omega) (by omega)⟩)
      · skip
        refine mk_sipush (nx := 52) X d_Mo_beside_49 (by decide) rfl ?_
        exact hret _ _ _ _ d_Mo_beside_52 (by exact ⟨rfl, by rw [cbs, if_neg (by omega), if_pos (by omega)]⟩)
  · skip
    refine mk_iload (nx := 23) X 0 d_Mo_beside_21 rfl rfl ?_
    refine mk_aloadn (nx := 24) X 1 d_Mo_beside_23 rfl rfl ?_
    refine mk_get (nx := 27) (v := .int (zi (I 0 2))) X 0 (by decide) (mh_Mo cs ad _) rfl in_Mo 2 (by decide) wd_597 rfl rfl d_Mo_beside_24 rfl ?_
    rw [show I 0 2 = c 0 0 from i12]
    refine mk_icmp_lt (tgt := 70) (nx := 30) X d_Mo_beside_27 (by omega) (by omega) (by decide) rfl (fun c27 => ?_) (fun c27 => ?_)
    · skip
      refine mk_aloadn (nx := 71) X 1 d_Mo_beside_70 rfl rfl ?_
      refine mk_get (nx := 74) (v := .ref (ad 11)) X 0 (by decide) (mh_Mo cs ad _) rfl in_Mo 18 (by decide) wd_613 rfl rfl d_Mo_beside_71 rfl ?_
      refine mk_bipush (nx := 76) X d_Mo_beside_74 (by decide) rfl ?_
      refine mk_iloadn (nx := 77) X 2 d_Mo_beside_76 rfl rfl ?_
      refine mk_imul (nx := 78) X d_Mo_beside_77 rfl ?_
      refine mk_iload (nx := 80) X 0 d_Mo_beside_78 rfl rfl ?_
      refine mk_iadd (nx := 81) X d_Mo_beside_80 rfl ?_
      refine mk_iald (nx := 82) (j := ((24 * (v : Int)) + ((cpl c v (t : Int)) + way)).toNat) X 11 0 (by decide) (mh_line cs ad _) rfl (by omega) (by omega) (by decide) rfl d_Mo_beside_81 rfl ?_
      exact hret _ _ _ _ d_Mo_beside_82 (by first | exact ⟨rfl, by rw [cbs, if_pos (by omega)]; exact lineat (hL.2 v hv hon).1 (y := cpl c v (t : Int) + way) (by omega) (by omega)⟩ | exact ⟨rfl, by rw [cbs, if_neg (by omega), if_neg (by omega), if_pos (by omega), show cn c - 1 = (c 0 0 - 1).toNat by unfold cn; omega]; exact lineat (hL.2 v hv hon).1 (y := c 0 0 - 1) (by omega) (by omega)⟩ | exact ⟨rfl, by rw [cbs, if_neg (by omega), if_neg (by omega), if_neg (by omega)]; exact lineat (hL.2 v hv hon).1 (y := 0) (by omega) (by omega)⟩)
    · skip
      refine mk_aloadn (nx := 31) X 1 d_Mo_beside_30 rfl rfl ?_
      refine mk_get (nx := 34) (v := .int (zi (I 0 12))) X 0 (by decide) (mh_Mo cs ad _) rfl in_Mo 12 (by decide) wd_607 rfl rfl d_Mo_beside_31 rfl ?_
      rw [show I 0 12 = c 0 6 from i07]
      refine mk_if_eq (tgt := 49) (nx := 37) X d_Mo_beside_34 (by omega) (by decide) rfl (fun c34 => ?_) (fun c34 => ?_)
      · skip
        refine mk_sipush (nx := 52) X d_Mo_beside_49 (by decide) rfl ?_
        exact hret _ _ _ _ d_Mo_beside_52 (by exact ⟨rfl, by rw [cbs, if_neg (by omega), if_pos (by omega)]⟩)
      · skip
        refine mk_aloadn (nx := 38) X 1 d_Mo_beside_37 rfl rfl ?_
        refine mk_iloadn (nx := 39) X 2 d_Mo_beside_38 rfl rfl ?_
        refine mk_callVi (nx := 42) (n := 1) (As := [.int (zi (v : Int))]) (rest := []) X 0 (by decide) (mh_Mo cs ad _) rfl (c_Mo_lineSize l D cs ad hi c I h v hv) (g_Mo_lineSize wd_739) rfl ⟨rfl, rfl⟩ (by decide +kernel) ⟨by decide, by decide⟩ rfl (Nat.le_of_ble_eq_true rfl) rfl d_Mo_beside_39 rfl ?_
        intro r39 J2 hJ2
        obtain ⟨rfl, rfl⟩ := hJ2
        refine mk_aloadn (nx := 43) X 1 d_Mo_beside_42 rfl rfl ?_
        refine mk_get (nx := 46) (v := .int (zi (I 0 12))) X 0 (by decide) (mh_Mo cs ad _) rfl in_Mo 12 (by decide) wd_607 rfl rfl d_Mo_beside_43 rfl ?_
        rw [show I 0 12 = c 0 6 from i07]
        refine mk_icmp_eq (tgt := 53) (nx := 49) X d_Mo_beside_46 (by omega) (by omega) (by decide) rfl (fun c46 => ?_) (fun c46 => ?_)
        · skip
          refine mk_iload (nx := 55) X 0 d_Mo_beside_53 rfl rfl ?_
          refine mk_if_ge (tgt := 67) (nx := 58) X d_Mo_beside_55 (by omega) (by decide) rfl (fun c55 => ?_) (fun c55 => ?_)
          · skip
            refine mk_iconst (nx := 68) X d_Mo_beside_67 rfl ?_
            refine mk_istore (nx := 70) X [(4, .int (zi 0)), (0, .ref (ad 0)), (1, .int (zi (v : Int))), (2, .int (zi (t : Int))), (3, .int (zi way))] d_Mo_beside_68 (by decide) rfl rfl ?_
            refine mk_aloadn (nx := 71) X 1 d_Mo_beside_70 rfl rfl ?_
            refine mk_get (nx := 74) (v := .ref (ad 11)) X 0 (by decide) (mh_Mo cs ad _) rfl in_Mo 18 (by decide) wd_613 rfl rfl d_Mo_beside_71 rfl ?_
            refine mk_bipush (nx := 76) X d_Mo_beside_74 (by decide) rfl ?_
            refine mk_iloadn (nx := 77) X 2 d_Mo_beside_76 rfl rfl ?_
            refine mk_imul (nx := 78) X d_Mo_beside_77 rfl ?_
            refine mk_iload (nx := 80) X 0 d_Mo_beside_78 rfl rfl ?_
            refine mk_iadd (nx := 81) X d_Mo_beside_80 rfl ?_
            refine mk_iald (nx := 82) (j := ((24 * v) + 0)) X 11 0 (by decide) (mh_line cs ad _) rfl (by omega) (by omega) (by decide) (by omega) d_Mo_beside_81 rfl ?_
            exact hret _ _ _ _ d_Mo_beside_82 (by first | exact ⟨rfl, by rw [cbs, if_pos (by omega)]; exact lineat (hL.2 v hv hon).1 (y := cpl c v (t : Int) + way) (by omega) (by omega)⟩ | exact ⟨rfl, by rw [cbs, if_neg (by omega), if_neg (by omega), if_pos (by omega), show cn c - 1 = (c 0 0 - 1).toNat by unfold cn; omega]; exact lineat (hL.2 v hv hon).1 (y := c 0 0 - 1) (by omega) (by omega)⟩ | exact ⟨rfl, by rw [cbs, if_neg (by omega), if_neg (by omega), if_neg (by omega)]; exact lineat (hL.2 v hv hon).1 (y := 0) (by omega) (by omega)⟩)
          · skip
            refine mk_aloadn (nx := 59) X 1 d_Mo_beside_58 rfl rfl ?_
            refine mk_get (nx := 62) (v := .int (zi (I 0 2))) X 0 (by decide) (mh_Mo cs ad _) rfl in_Mo 2 (by decide) wd_597 rfl rfl d_Mo_beside_59 rfl ?_
            rw [show I 0 2 = c 0 0 from i12]
            refine mk_iconst (nx := 63) X d_Mo_beside_62 rfl ?_
            refine mk_isub (nx := 64) X d_Mo_beside_63 rfl ?_
            refine mk_goto (tgt := 68) X d_Mo_beside_64 (by decide) ?_
            refine mk_istore (nx := 70) X [(4, .int (zi ((c 0 0) - 1))), (0, .ref (ad 0)), (1, .int (zi (v : Int))), (2, .int (zi (t : Int))), (3, .int (zi way))] d_Mo_beside_68 (by decide) rfl rfl ?_
            refine mk_aloadn (nx := 71) X 1 d_Mo_beside_70 rfl rfl ?_
            refine mk_get (nx := 74) (v := .ref (ad 11)) X 0 (by decide) (mh_Mo cs ad _) rfl in_Mo 18 (by decide) wd_613 rfl rfl d_Mo_beside_71 rfl ?_
            refine mk_bipush (nx := 76) X d_Mo_beside_74 (by decide) rfl ?_
            refine mk_iloadn (nx := 77) X 2 d_Mo_beside_76 rfl rfl ?_
            refine mk_imul (nx := 78) X d_Mo_beside_77 rfl ?_
            refine mk_iload (nx := 80) X 0 d_Mo_beside_78 rfl rfl ?_
            refine mk_iadd (nx := 81) X d_Mo_beside_80 rfl ?_
            refine mk_iald (nx := 82) (j := ((24 * (v : Int)) + ((c 0 0) - 1)).toNat) X 11 0 (by decide) (mh_line cs ad _) rfl (by omega) (by omega) (by decide) rfl d_Mo_beside_81 rfl ?_
            exact hret _ _ _ _ d_Mo_beside_82 (by first | exact ⟨rfl, by rw [cbs, if_pos (by omega)]; exact lineat (hL.2 v hv hon).1 (y := cpl c v (t : Int) + way) (by omega) (by omega)⟩ | exact ⟨rfl, by rw [cbs, if_neg (by omega), if_neg (by omega), if_pos (by omega), show cn c - 1 = (c 0 0 - 1).toNat by unfold cn; omega]; exact lineat (hL.2 v hv hon).1 (y := c 0 0 - 1) (by omega) (by omega)⟩ | exact ⟨rfl, by rw [cbs, if_neg (by omega), if_neg (by omega), if_neg (by omega)]; exact lineat (hL.2 v hv hon).1 (y := 0) (by omega) (by omega)⟩)
        · skip
          refine mk_sipush (nx := 52) X d_Mo_beside_49 (by decide) rfl ?_
          exact hret _ _ _ _ d_Mo_beside_52 (by exact ⟨rfl, by rw [cbs, if_neg (by omega), if_pos (by omega)]⟩)

-- CanonMakerModel.steps(II)I
theorem d_Mo_stepsAt_0 : decode prog_9_method_27_code 0 = .ok (.aload_n 0, 1) := by decide +kernel
theorem d_Mo_stepsAt_1 : decode prog_9_method_27_code 1 = .ok (.iload_n 1, 1) := by decide +kernel
theorem d_Mo_stepsAt_2 : decode prog_9_method_27_code 2 = .ok (.iload_n 2, 1) := by decide +kernel
theorem d_Mo_stepsAt_3 : decode prog_9_method_27_code 3 = .ok (.iconst (-1), 1) := by decide +kernel
theorem d_Mo_stepsAt_4 : decode prog_9_method_27_code 4 = .ok (.invokevirtual 107, 3) := by decide +kernel
theorem d_Mo_stepsAt_7 : decode prog_9_method_27_code 7 = .ok (.istore_n 3, 1) := by decide +kernel
theorem d_Mo_stepsAt_8 : decode prog_9_method_27_code 8 = .ok (.aload_n 0, 1) := by decide +kernel
theorem d_Mo_stepsAt_9 : decode prog_9_method_27_code 9 = .ok (.iload_n 1, 1) := by decide +kernel
theorem d_Mo_stepsAt_10 : decode prog_9_method_27_code 10 = .ok (.iload_n 2, 1) := by decide +kernel
theorem d_Mo_stepsAt_11 : decode prog_9_method_27_code 11 = .ok (.iconst 1, 1) := by decide +kernel
theorem d_Mo_stepsAt_12 : decode prog_9_method_27_code 12 = .ok (.invokevirtual 107, 3) := by decide +kernel
theorem d_Mo_stepsAt_15 : decode prog_9_method_27_code 15 = .ok (.istore 4, 2) := by decide +kernel
theorem d_Mo_stepsAt_17 : decode prog_9_method_27_code 17 = .ok (.aload_n 0, 1) := by decide +kernel
theorem d_Mo_stepsAt_18 : decode prog_9_method_27_code 18 = .ok (.getfield 42, 3) := by decide +kernel
theorem d_Mo_stepsAt_21 : decode prog_9_method_27_code 21 = .ok (.sipush 1300, 3) := by decide +kernel
theorem d_Mo_stepsAt_24 : decode prog_9_method_27_code 24 = .ok (.iload_n 1, 1) := by decide +kernel
theorem d_Mo_stepsAt_25 : decode prog_9_method_27_code 25 = .ok (.imul, 1) := by decide +kernel
theorem d_Mo_stepsAt_26 : decode prog_9_method_27_code 26 = .ok (.iload_n 2, 1) := by decide +kernel
theorem d_Mo_stepsAt_27 : decode prog_9_method_27_code 27 = .ok (.iadd, 1) := by decide +kernel
theorem d_Mo_stepsAt_28 : decode prog_9_method_27_code 28 = .ok (.iaload, 1) := by decide +kernel
theorem d_Mo_stepsAt_29 : decode prog_9_method_27_code 29 = .ok (.istore 5, 2) := by decide +kernel
theorem d_Mo_stepsAt_31 : decode prog_9_method_27_code 31 = .ok (.iload_n 3, 1) := by decide +kernel
theorem d_Mo_stepsAt_32 : decode prog_9_method_27_code 32 = .ok (.sipush 1000, 3) := by decide +kernel
theorem d_Mo_stepsAt_35 : decode prog_9_method_27_code 35 = .ok (.if_icmp .eq 11, 3) := by decide +kernel
theorem d_Mo_stepsAt_38 : decode prog_9_method_27_code 38 = .ok (.iload 4, 2) := by decide +kernel
theorem d_Mo_stepsAt_40 : decode prog_9_method_27_code 40 = .ok (.sipush 1000, 3) := by decide +kernel
theorem d_Mo_stepsAt_43 : decode prog_9_method_27_code 43 = .ok (.if_icmp .ne 5, 3) := by decide +kernel
theorem d_Mo_stepsAt_46 : decode prog_9_method_27_code 46 = .ok (.iconst 0, 1) := by decide +kernel
theorem d_Mo_stepsAt_47 : decode prog_9_method_27_code 47 = .ok (.ireturn, 1) := by decide +kernel
theorem d_Mo_stepsAt_48 : decode prog_9_method_27_code 48 = .ok (.iload_n 3, 1) := by decide +kernel
theorem d_Mo_stepsAt_49 : decode prog_9_method_27_code 49 = .ok (.sipush 1001, 3) := by decide +kernel
theorem d_Mo_stepsAt_52 : decode prog_9_method_27_code 52 = .ok (.if_icmp .eq 11, 3) := by decide +kernel
theorem d_Mo_stepsAt_55 : decode prog_9_method_27_code 55 = .ok (.iload 4, 2) := by decide +kernel
theorem d_Mo_stepsAt_57 : decode prog_9_method_27_code 57 = .ok (.sipush 1001, 3) := by decide +kernel
theorem d_Mo_stepsAt_60 : decode prog_9_method_27_code 60 = .ok (.if_icmp .ne 5, 3) := by decide +kernel
theorem d_Mo_stepsAt_63 : decode prog_9_method_27_code 63 = .ok (.iconst 2, 1) := by decide +kernel
theorem d_Mo_stepsAt_64 : decode prog_9_method_27_code 64 = .ok (.ireturn, 1) := by decide +kernel
theorem d_Mo_stepsAt_65 : decode prog_9_method_27_code 65 = .ok (.iload 5, 2) := by decide +kernel
theorem d_Mo_stepsAt_67 : decode prog_9_method_27_code 67 = .ok (.iload_n 3, 1) := by decide +kernel
theorem d_Mo_stepsAt_68 : decode prog_9_method_27_code 68 = .ok (.isub, 1) := by decide +kernel
theorem d_Mo_stepsAt_69 : decode prog_9_method_27_code 69 = .ok (.istore 6, 2) := by decide +kernel
theorem d_Mo_stepsAt_71 : decode prog_9_method_27_code 71 = .ok (.iload 4, 2) := by decide +kernel
theorem d_Mo_stepsAt_73 : decode prog_9_method_27_code 73 = .ok (.iload 5, 2) := by decide +kernel
theorem d_Mo_stepsAt_75 : decode prog_9_method_27_code 75 = .ok (.isub, 1) := by decide +kernel
theorem d_Mo_stepsAt_76 : decode prog_9_method_27_code 76 = .ok (.istore 7, 2) := by decide +kernel
theorem d_Mo_stepsAt_78 : decode prog_9_method_27_code 78 = .ok (.iload 6, 2) := by decide +kernel
theorem d_Mo_stepsAt_80 : decode prog_9_method_27_code 80 = .ok (.iconst 1, 1) := by decide +kernel
theorem d_Mo_stepsAt_81 : decode prog_9_method_27_code 81 = .ok (.if_icmp .lt 21, 3) := by decide +kernel
theorem d_Mo_stepsAt_84 : decode prog_9_method_27_code 84 = .ok (.iload 6, 2) := by decide +kernel
theorem d_Mo_stepsAt_86 : decode prog_9_method_27_code 86 = .ok (.iconst 2, 1) := by decide +kernel
theorem d_Mo_stepsAt_87 : decode prog_9_method_27_code 87 = .ok (.if_icmp .gt 15, 3) := by decide +kernel
theorem d_Mo_stepsAt_90 : decode prog_9_method_27_code 90 = .ok (.iload 7, 2) := by decide +kernel
theorem d_Mo_stepsAt_92 : decode prog_9_method_27_code 92 = .ok (.iconst 1, 1) := by decide +kernel
theorem d_Mo_stepsAt_93 : decode prog_9_method_27_code 93 = .ok (.if_icmp .lt 9, 3) := by decide +kernel
theorem d_Mo_stepsAt_96 : decode prog_9_method_27_code 96 = .ok (.iload 7, 2) := by decide +kernel
theorem d_Mo_stepsAt_98 : decode prog_9_method_27_code 98 = .ok (.iconst 2, 1) := by decide +kernel
theorem d_Mo_stepsAt_99 : decode prog_9_method_27_code 99 = .ok (.if_icmp .le 29, 3) := by decide +kernel
theorem d_Mo_stepsAt_102 : decode prog_9_method_27_code 102 = .ok (.iload 6, 2) := by decide +kernel
theorem d_Mo_stepsAt_104 : decode prog_9_method_27_code 104 = .ok (.iconst (-1), 1) := by decide +kernel
theorem d_Mo_stepsAt_105 : decode prog_9_method_27_code 105 = .ok (.if_icmp .gt 27, 3) := by decide +kernel
theorem d_Mo_stepsAt_108 : decode prog_9_method_27_code 108 = .ok (.iload 6, 2) := by decide +kernel
theorem d_Mo_stepsAt_110 : decode prog_9_method_27_code 110 = .ok (.bipush (-2), 2) := by decide +kernel
theorem d_Mo_stepsAt_112 : decode prog_9_method_27_code 112 = .ok (.if_icmp .lt 20, 3) := by decide +kernel
theorem d_Mo_stepsAt_115 : decode prog_9_method_27_code 115 = .ok (.iload 7, 2) := by decide +kernel
theorem d_Mo_stepsAt_117 : decode prog_9_method_27_code 117 = .ok (.iconst (-1), 1) := by decide +kernel
theorem d_Mo_stepsAt_118 : decode prog_9_method_27_code 118 = .ok (.if_icmp .gt 14, 3) := by decide +kernel
theorem d_Mo_stepsAt_121 : decode prog_9_method_27_code 121 = .ok (.iload 7, 2) := by decide +kernel
theorem d_Mo_stepsAt_123 : decode prog_9_method_27_code 123 = .ok (.bipush (-2), 2) := by decide +kernel
theorem d_Mo_stepsAt_125 : decode prog_9_method_27_code 125 = .ok (.if_icmp .lt 7, 3) := by decide +kernel
theorem d_Mo_stepsAt_128 : decode prog_9_method_27_code 128 = .ok (.iconst 1, 1) := by decide +kernel
theorem d_Mo_stepsAt_129 : decode prog_9_method_27_code 129 = .ok (.goto 4, 3) := by decide +kernel
theorem d_Mo_stepsAt_132 : decode prog_9_method_27_code 132 = .ok (.iconst 0, 1) := by decide +kernel
theorem d_Mo_stepsAt_133 : decode prog_9_method_27_code 133 = .ok (.ireturn, 1) := by decide +kernel
abbrev rm_Mo_stepsAt : Room := { frames := 3, cells := 0, slots := 0, locals := 67 }
set_option maxHeartbeats 4000000 in
set_option maxRecDepth 100000 in
theorem c_Mo_stepsAt (l : Launch) (D : va_G) (cs : Nat → ClassId) (ad : Nat → Nat) (hi : mo_inj ad) (c I : Wo) (h : moR c I) (hL : MoL c I) (v : Nat) (hv : v < 4) (t : Nat) (ht : (t : Int) < an_end c) (hon : c (3 + v) 0 = 1) (hp : ¬ cpl c v t = -1) : mo_C l D cs ad y_Mo_stepsAt ws_Mo_stepsAt rm_Mo_stepsAt [.ref (ad 0), .int (zi (v : Int)), .int (zi (t : Int))] I (mk_pi (fun r J => I = J ∧ r = gst (cpt c v t) (ob c v t) (nb c v t))) := by
  refine mk_meti (own := "CanonMakerModel") (Ts := wA) hi (Nat.le_refl _) (by decide) rfl (fun w h => List.mem_cons_of_mem _ h) rfl (Nat.le_of_ble_eq_true rfl) [(0, .ref (ad 0)), (1, .int (zi (v : Int))), (2, .int (zi (t : Int)))] rfl ?_
  intro p_ e_ s_ m_ as_ bl_ me_ co_ Q_ X hret
  obtain ⟨⟨⟨hn, hN⟩, ⟨hlo, hsc, hbt, hru, hrd, hst⟩, ⟨hV, hV0⟩, ⟨hfc, hF⟩⟩, ⟨i12, iN⟩, ⟨⟨i50, i51, i52, i53, i54⟩, i07, i09⟩, iV, ⟨i010, iF⟩⟩ := id h
  have heb := an_end_b h.1.1 h.1.2.1 h.1.2.2.1
  have hcn := cn_e h.1.1
  have hv5 := hV v hv
  have hpb := cpt_b h.1.1 h.1.2.2.1 hv (t : Int)
  have hsb := csk_b c v (t : Int)
  have hlb := cpl_b h.1.1 h.1.2.2.1 hv (t : Int)
  have hcp : 0 < cn c := by omega
  have hob := cbs_b h.1.1 h.1.2.2.1 hv hcp (cpl c v (t : Int)) (-1)
  have hnb := cbs_b h.1.1 h.1.2.2.1 hv hcp (cpl c v (t : Int)) 1
  refine mk_aloadn (nx := 1) X 0 d_Mo_stepsAt_0 rfl rfl ?_
  refine mk_iloadn (nx := 2) X 1 d_Mo_stepsAt_1 rfl rfl ?_
  refine mk_iloadn (nx := 3) X 2 d_Mo_stepsAt_2 rfl rfl ?_
  refine mk_iconst (nx := 4) X d_Mo_stepsAt_3 rfl ?_
  refine mk_callVi (nx := 7) (n := 3) (As := [.int (zi (v : Int)), .int (zi (t : Int)), .int (zi (-1))]) (rest := []) X 0 (by decide) (mh_Mo cs ad _) rfl (c_Mo_beside l D cs ad hi c I h hL v hv t ht hon hp (-1) (by omega)) (g_Mo_beside wd_780) rfl ⟨rfl, rfl⟩ (by decide +kernel) ⟨by decide, by decide⟩ rfl (Nat.le_of_ble_eq_true rfl) rfl d_Mo_stepsAt_4 rfl ?_
  intro r4 J1 hJ1
  obtain ⟨rfl, rfl⟩ := hJ1
  refine mk_istoren (nx := 8) X [(3, .int (zi (cbs c v (cpl c v (t : Int)) (-1)))), (0, .ref (ad 0)), (1, .int (zi (v : Int))), (2, .int (zi (t : Int)))] d_Mo_stepsAt_7 (by decide) rfl rfl ?_
  refine mk_aloadn (nx := 9) X 1 d_Mo_stepsAt_8 rfl rfl ?_
  refine mk_iloadn (nx := 10) X 2 d_Mo_stepsAt_9 rfl rfl ?_
  refine mk_iloadn (nx := 11) X 3 d_Mo_stepsAt_10 rfl rfl ?_
  refine mk_iconst (nx := 12) X d_Mo_stepsAt_11 rfl ?_
  refine mk_callVi (nx := 15) (n := 3) (As := [.int (zi (v : Int)), .int (zi (t : Int)), .int (zi 1)]) (rest := []) X 0 (by decide) (mh_Mo cs ad _) rfl (c_Mo_beside l D cs ad hi c I h hL v hv t ht hon hp (1) (by omega)) (g_Mo_beside wd_780) rfl ⟨rfl, rfl⟩ (by decide +kernel) ⟨by decide, by decide⟩ rfl (Nat.le_of_ble_eq_true rfl) rfl d_Mo_stepsAt_12 rfl ?_
  intro r12 J2 hJ2
  obtain ⟨rfl, rfl⟩ := hJ2
  refine mk_istore (nx := 17) X [(4, .int (zi (cbs c v (cpl c v (t : Int)) (1)))), (3, .int (zi (cbs c v (cpl c v (t : Int)) (-1)))), (0, .ref (ad 0)), (1, .int (zi (v : Int))), (2, .int (zi (t : Int)))] d_Mo_stepsAt_15 (by decide) rfl rfl ?_
  refine mk_aloadn (nx := 18) X 2 d_Mo_stepsAt_17 rfl rfl ?_
  refine mk_get (nx := 21) (v := .ref (ad 8)) X 0 (by decide) (mh_Mo cs ad _) rfl in_Mo 15 (by decide) wd_610 rfl rfl d_Mo_stepsAt_18 rfl ?_
  refine mk_sipush (nx := 24) X d_Mo_stepsAt_21 (by decide) rfl ?_
  refine mk_iloadn (nx := 25) X 3 d_Mo_stepsAt_24 rfl rfl ?_
  refine mk_imul (nx := 26) X d_Mo_stepsAt_25 rfl ?_
  refine mk_iloadn (nx := 27) X 4 d_Mo_stepsAt_26 rfl rfl ?_
  refine mk_iadd (nx := 28) X d_Mo_stepsAt_27 rfl ?_
  refine mk_iald (nx := 29) (j := ((1300 * v) + t)) X 8 0 (by decide) (mh_pitchAt cs ad _) rfl (by omega) (by omega) (by decide) (by omega) d_Mo_stepsAt_28 rfl ?_
  rw [show I 8 ((1300 * v) + t) = cpt c v (t : Int) from ((hL.2 v hv hon).2 t ht).2.1]
  refine mk_istore (nx := 31) X [(5, .int (zi (cpt c v (t : Int)))), (4, .int (zi (cbs c v (cpl c v (t : Int)) (1)))), (3, .int (zi (cbs c v (cpl c v (t : Int)) (-1)))), (0, .ref (ad 0)), (1, .int (zi (v : Int))), (2, .int (zi (t : Int)))] d_Mo_stepsAt_29 (by decide) rfl rfl ?_
  refine mk_iloadn (nx := 32) X 2 d_Mo_stepsAt_31 rfl rfl ?_
  refine mk_sipush (nx := 35) X d_Mo_stepsAt_32 (by decide) rfl ?_
  refine mk_icmp_eq (tgt := 46) (nx := 38) X d_Mo_stepsAt_35 (by omega) (by omega) (by decide) rfl (fun c35 => ?_) (fun c35 => ?_)
  · skip
    refine mk_iconst (nx := 47) X d_Mo_stepsAt_46 rfl ?_
    exact hret _ _ _ _ d_Mo_stepsAt_47 (by first | (exfalso; omega) | exact ⟨rfl, by unfold gst ob nb; rw [if_pos (by omega)]⟩ | exact ⟨rfl, by unfold gst ob nb; rw [if_neg (by omega), if_pos (by omega)]⟩ | exact ⟨rfl, by unfold gst ob nb; rw [if_neg (by omega), if_neg (by omega), if_pos (by omega)]⟩ | exact ⟨rfl, by unfold gst ob nb; rw [if_neg (by omega), if_neg (by omega), if_neg (by omega)]⟩)
  · skip
    refine mk_iload (nx := 40) X 1 d_Mo_stepsAt_38 rfl rfl ?_
    refine mk_sipush (nx := 43) X d_Mo_stepsAt_40 (by decide) rfl ?_
    refine mk_icmp_ne (tgt := 48) (nx := 46) X d_Mo_stepsAt_43 (by omega) (by omega) (by decide) rfl (fun c43 => ?_) (fun c43 => ?_)
    · skip
      refine mk_iloadn (nx := 49) X 2 d_Mo_stepsAt_48 rfl rfl ?_
      refine mk_sipush (nx := 52) X d_Mo_stepsAt_49 (by decide) rfl ?_
      refine mk_icmp_eq (tgt := 63) (nx := 55) X d_Mo_stepsAt_52 (by omega) (by omega) (by decide) rfl (fun c52 => ?_) (fun c52 => ?_)
      · skip
        refine mk_iconst (nx := 64) X d_Mo_stepsAt_63 rfl ?_
        exact hret _ _ _ _ d_Mo_stepsAt_64 (by first | (exfalso; omega) | exact ⟨rfl, by unfold gst ob nb; rw [if_pos (by omega)]⟩ | exact ⟨rfl, by unfold gst ob nb; rw [if_neg (by omega), if_pos (by omega)]⟩ | exact ⟨rfl, by unfold gst ob nb; rw [if_neg (by omega), if_neg (by omega), if_pos (by omega)]⟩ | exact ⟨rfl, by unfold gst ob nb; rw [if_neg (by omega), if_neg (by omega), if_neg (by omega)]⟩)
      · skip
        refine mk_iload (nx := 57) X 1 d_Mo_stepsAt_55 rfl rfl ?_
        refine mk_sipush (nx := 60) X d_Mo_stepsAt_57 (by decide) rfl ?_
        refine mk_icmp_ne (tgt := 65) (nx := 63) X d_Mo_stepsAt_60 (by omega) (by omega) (by decide) rfl (fun c60 => ?_) (fun c60 => ?_)
        · skip
          refine mk_iload (nx := 67) X 0 d_Mo_stepsAt_65 rfl rfl ?_
          refine mk_iloadn (nx := 68) X 2 d_Mo_stepsAt_67 rfl rfl ?_
          refine mk_isub (nx := 69) X d_Mo_stepsAt_68 rfl ?_
          refine mk_istore (nx := 71) X [(6, .int (zi ((cpt c v (t : Int)) - (cbs c v (cpl c v (t : Int)) (-1))))), (5, .int (zi (cpt c v (t : Int)))), (4, .int (zi (cbs c v (cpl c v (t : Int)) (1)))), (3, .int (zi (cbs c v (cpl c v (t : Int)) (-1)))), (0, .ref (ad 0)), (1, .int (zi (v : Int))), (2, .int (zi (t : Int)))] d_Mo_stepsAt_69 (by decide) rfl rfl ?_
          refine mk_iload (nx := 73) X 2 d_Mo_stepsAt_71 rfl rfl ?_
          refine mk_iload (nx := 75) X 1 d_Mo_stepsAt_73 rfl rfl ?_
          refine mk_isub (nx := 76) X d_Mo_stepsAt_75 rfl ?_
          refine mk_istore (nx := 78) X [(7, .int (zi ((cbs c v (cpl c v (t : Int)) (1)) - (cpt c v (t : Int))))), (6, .int (zi ((cpt c v (t : Int)) - (cbs c v (cpl c v (t : Int)) (-1))))), (5, .int (zi (cpt c v (t : Int)))), (4, .int (zi (cbs c v (cpl c v (t : Int)) (1)))), (3, .int (zi (cbs c v (cpl c v (t : Int)) (-1)))), (0, .ref (ad 0)), (1, .int (zi (v : Int))), (2, .int (zi (t : Int)))] d_Mo_stepsAt_76 (by decide) rfl rfl ?_
          refine mk_iload (nx := 80) X 1 d_Mo_stepsAt_78 rfl rfl ?_
          refine mk_iconst (nx := 81) X d_Mo_stepsAt_80 rfl ?_
          refine mk_icmp_lt (tgt := 102) (nx := 84) X d_Mo_stepsAt_81 (by omega) (by omega) (by decide) rfl (fun c81 => ?_) (fun c81 => ?_)
          · skip
            refine mk_iload (nx := 104) X 1 d_Mo_stepsAt_102 rfl rfl ?_
            refine mk_iconst (nx := 105) X d_Mo_stepsAt_104 rfl ?_
            refine mk_icmp_gt (tgt := 132) (nx := 108) X d_Mo_stepsAt_105 (by omega) (by omega) (by decide) rfl (fun c105 => ?_) (fun c105 => ?_)
            · skip
              refine mk_iconst (nx := 133) X d_Mo_stepsAt_132 rfl ?_
              exact hret _ _ _ _ d_Mo_stepsAt_133 (by first | (exfalso; omega) | exact ⟨rfl, by unfold gst ob nb; rw [if_pos (by omega)]⟩ | exact ⟨rfl, by unfold gst ob nb; rw [if_neg (by omega), if_pos (by omega)]⟩ | exact ⟨rfl, by unfold gst ob nb; rw [if_neg (by omega), if_neg (by omega), if_pos (by omega)]⟩ | exact ⟨rfl, by unfold gst ob nb; rw [if_neg (by omega), if_neg (by omega), if_neg (by omega)]⟩)
            · skip
              refine mk_iload (nx := 110) X 1 d_Mo_stepsAt_108 rfl rfl ?_
              refine mk_bipush (nx := 112) X d_Mo_stepsAt_110 (by decide) rfl ?_
              refine mk_icmp_lt (tgt := 132) (nx := 115) X d_Mo_stepsAt_112 (by omega) (by omega) (by decide) rfl (fun c112 => ?_) (fun c112 => ?_)
              · skip
                refine mk_iconst (nx := 133) X d_Mo_stepsAt_132 rfl ?_
                exact hret _ _ _ _ d_Mo_stepsAt_133 (by first | (exfalso; omega) | exact ⟨rfl, by unfold gst ob nb; rw [if_pos (by omega)]⟩ | exact ⟨rfl, by unfold gst ob nb; rw [if_neg (by omega), if_pos (by omega)]⟩ | exact ⟨rfl, by unfold gst ob nb; rw [if_neg (by omega), if_neg (by omega), if_pos (by omega)]⟩ | exact ⟨rfl, by unfold gst ob nb; rw [if_neg (by omega), if_neg (by omega), if_neg (by omega)]⟩)
              · skip
                refine mk_iload (nx := 117) X 0 d_Mo_stepsAt_115 rfl rfl ?_
                refine mk_iconst (nx := 118) X d_Mo_stepsAt_117 rfl ?_
                refine mk_icmp_gt (tgt := 132) (nx := 121) X d_Mo_stepsAt_118 (by omega) (by omega) (by decide) rfl (fun c118 => ?_) (fun c118 => ?_)
                · skip
                  refine mk_iconst (nx := 133) X d_Mo_stepsAt_132 rfl ?_
                  exact hret _ _ _ _ d_Mo_stepsAt_133 (by first | (exfalso; omega) | exact ⟨rfl, by unfold gst ob nb; rw [if_pos (by omega)]⟩ | exact ⟨rfl, by unfold gst ob nb; rw [if_neg (by omega), if_pos (by omega)]⟩ | exact ⟨rfl, by unfold gst ob nb; rw [if_neg (by omega), if_neg (by omega), if_pos (by omega)]⟩ | exact ⟨rfl, by unfold gst ob nb; rw [if_neg (by omega), if_neg (by omega), if_neg (by omega)]⟩)
                · skip
                  refine mk_iload (nx := 123) X 0 d_Mo_stepsAt_121 rfl rfl ?_
                  refine mk_bipush (nx := 125) X d_Mo_stepsAt_123 (by decide) rfl ?_
                  refine mk_icmp_lt (tgt := 132) (nx := 128) X d_Mo_stepsAt_125 (by omega) (by omega) (by decide) rfl (fun c125 => ?_) (fun c125 => ?_)
                  · skip
                    refine mk_iconst (nx := 133) X d_Mo_stepsAt_132 rfl ?_
                    exact hret _ _ _ _ d_Mo_stepsAt_133 (by first | (exfalso; omega) | exact ⟨rfl, by unfold gst ob nb; rw [if_pos (by omega)]⟩ | exact ⟨rfl, by unfold gst ob nb; rw [if_neg (by omega), if_pos (by omega)]⟩ | exact ⟨rfl, by unfold gst ob nb; rw [if_neg (by omega), if_neg (by omega), if_pos (by omega)]⟩ | exact ⟨rfl, by unfold gst ob nb; rw [if_neg (by omega), if_neg (by omega), if_neg (by omega)]⟩)
                  · skip
                    refine mk_iconst (nx := 129) X d_Mo_stepsAt_128 rfl ?_
                    refine mk_goto (tgt := 133) X d_Mo_stepsAt_129 (by decide) ?_
                    exact hret _ _ _ _ d_Mo_stepsAt_133 (by first | (exfalso; omega) | exact ⟨rfl, by unfold gst ob nb; rw [if_pos (by omega)]⟩ | exact ⟨rfl, by unfold gst ob nb; rw [if_neg (by omega), if_pos (by omega)]⟩ | exact ⟨rfl, by unfold gst ob nb; rw [if_neg (by omega), if_neg (by omega), if_pos (by omega)]⟩ | exact ⟨rfl, by unfold gst ob nb; rw [if_neg (by omega), if_neg (by omega), if_neg (by omega)]⟩)
          · skip
            refine mk_iload (nx := 86) X 1 d_Mo_stepsAt_84 rfl rfl ?_
            refine mk_iconst (nx := 87) X d_Mo_stepsAt_86 rfl ?_
            refine mk_icmp_gt (tgt := 102) (nx := 90) X d_Mo_stepsAt_87 (by omega) (by omega) (by decide) rfl (fun c87 => ?_) (fun c87 => ?_)
            · skip
              refine mk_iload (nx := 104) X 1 d_Mo_stepsAt_102 rfl rfl ?_
              refine mk_iconst (nx := 105) X d_Mo_stepsAt_104 rfl ?_
              refine mk_icmp_gt (tgt := 132) (nx := 108) X d_Mo_stepsAt_105 (by omega) (by omega) (by decide) rfl (fun c105 => ?_) (fun c105 => ?_)
              · skip
                refine mk_iconst (nx := 133) X d_Mo_stepsAt_132 rfl ?_
                exact hret _ _ _ _ d_Mo_stepsAt_133 (by first | (exfalso; omega) | exact ⟨rfl, by unfold gst ob nb; rw [if_pos (by omega)]⟩ | exact ⟨rfl, by unfold gst ob nb; rw [if_neg (by omega), if_pos (by omega)]⟩ | exact ⟨rfl, by unfold gst ob nb; rw [if_neg (by omega), if_neg (by omega), if_pos (by omega)]⟩ | exact ⟨rfl, by unfold gst ob nb; rw [if_neg (by omega), if_neg (by omega), if_neg (by omega)]⟩)
              · skip
                refine mk_iload (nx := 110) X 1 d_Mo_stepsAt_108 rfl rfl ?_
                refine mk_bipush (nx := 112) X d_Mo_stepsAt_110 (by decide) rfl ?_
                refine mk_icmp_lt (tgt := 132) (nx := 115) X d_Mo_stepsAt_112 (by omega) (by omega) (by decide) rfl (fun c112 => ?_) (fun c112 => ?_)
                · skip
                  refine mk_iconst (nx := 133) X d_Mo_stepsAt_132 rfl ?_
                  exact hret _ _ _ _ d_Mo_stepsAt_133 (by first | (exfalso; omega) | exact ⟨rfl, by unfold gst ob nb; rw [if_pos (by omega)]⟩ | exact ⟨rfl, by unfold gst ob nb; rw [if_neg (by omega), if_pos (by omega)]⟩ | exact ⟨rfl, by unfold gst ob nb; rw [if_neg (by omega), if_neg (by omega), if_pos (by omega)]⟩ | exact ⟨rfl, by unfold gst ob nb; rw [if_neg (by omega), if_neg (by omega), if_neg (by omega)]⟩)
                · skip
                  refine mk_iload (nx := 117) X 0 d_Mo_stepsAt_115 rfl rfl ?_
                  refine mk_iconst (nx := 118) X d_Mo_stepsAt_117 rfl ?_
                  refine mk_icmp_gt (tgt := 132) (nx := 121) X d_Mo_stepsAt_118 (by omega) (by omega) (by decide) rfl (fun c118 => ?_) (fun c118 => ?_)
                  · skip
                    refine mk_iconst (nx := 133) X d_Mo_stepsAt_132 rfl ?_
                    exact hret _ _ _ _ d_Mo_stepsAt_133 (by first | (exfalso; omega) | exact ⟨rfl, by unfold gst ob nb; rw [if_pos (by omega)]⟩ | exact ⟨rfl, by unfold gst ob nb; rw [if_neg (by omega), if_pos (by omega)]⟩ | exact ⟨rfl, by unfold gst ob nb; rw [if_neg (by omega), if_neg (by omega), if_pos (by omega)]⟩ | exact ⟨rfl, by unfold gst ob nb; rw [if_neg (by omega), if_neg (by omega), if_neg (by omega)]⟩)
                  · skip
                    refine mk_iload (nx := 123) X 0 d_Mo_stepsAt_121 rfl rfl ?_
                    refine mk_bipush (nx := 125) X d_Mo_stepsAt_123 (by decide) rfl ?_
                    refine mk_icmp_lt (tgt := 132) (nx := 128) X d_Mo_stepsAt_125 (by omega) (by omega) (by decide) rfl (fun c125 => ?_) (fun c125 => ?_)
                    · skip
                      refine mk_iconst (nx := 133) X d_Mo_stepsAt_132 rfl ?_
                      exact hret _ _ _ _ d_Mo_stepsAt_133 (by first | (exfalso; omega) | exact ⟨rfl, by unfold gst ob nb; rw [if_pos (by omega)]⟩ | exact ⟨rfl, by unfold gst ob nb; rw [if_neg (by omega), if_pos (by omega)]⟩ | exact ⟨rfl, by unfold gst ob nb; rw [if_neg (by omega), if_neg (by omega), if_pos (by omega)]⟩ | exact ⟨rfl, by unfold gst ob nb; rw [if_neg (by omega), if_neg (by omega), if_neg (by omega)]⟩)
                    · skip
                      refine mk_iconst (nx := 129) X d_Mo_stepsAt_128 rfl ?_
                      refine mk_goto (tgt := 133) X d_Mo_stepsAt_129 (by decide) ?_
                      exact hret _ _ _ _ d_Mo_stepsAt_133 (by first | (exfalso; omega) | exact ⟨rfl, by unfold gst ob nb; rw [if_pos (by omega)]⟩ | exact ⟨rfl, by unfold gst ob nb; rw [if_neg (by omega), if_pos (by omega)]⟩ | exact ⟨rfl, by unfold gst ob nb; rw [if_neg (by omega), if_neg (by omega), if_pos (by omega)]⟩ | exact ⟨rfl, by unfold gst ob nb; rw [if_neg (by omega), if_neg (by omega), if_neg (by omega)]⟩)
            · skip
              refine mk_iload (nx := 92) X 0 d_Mo_stepsAt_90 rfl rfl ?_
              refine mk_iconst (nx := 93) X d_Mo_stepsAt_92 rfl ?_
              refine mk_icmp_lt (tgt := 102) (nx := 96) X d_Mo_stepsAt_93 (by omega) (by omega) (by decide) rfl (fun c93 => ?_) (fun c93 => ?_)
              · skip
                refine mk_iload (nx := 104) X 1 d_Mo_stepsAt_102 rfl rfl ?_
                refine mk_iconst (nx := 105) X d_Mo_stepsAt_104 rfl ?_
                refine mk_icmp_gt (tgt := 132) (nx := 108) X d_Mo_stepsAt_105 (by omega) (by omega) (by decide) rfl (fun c105 => ?_) (fun c105 => ?_)
                · skip
                  refine mk_iconst (nx := 133) X d_Mo_stepsAt_132 rfl ?_
                  exact hret _ _ _ _ d_Mo_stepsAt_133 (by first | (exfalso; omega) | exact ⟨rfl, by unfold gst ob nb; rw [if_pos (by omega)]⟩ | exact ⟨rfl, by unfold gst ob nb; rw [if_neg (by omega), if_pos (by omega)]⟩ | exact ⟨rfl, by unfold gst ob nb; rw [if_neg (by omega), if_neg (by omega), if_pos (by omega)]⟩ | exact ⟨rfl, by unfold gst ob nb; rw [if_neg (by omega), if_neg (by omega), if_neg (by omega)]⟩)
                · skip
                  refine mk_iload (nx := 110) X 1 d_Mo_stepsAt_108 rfl rfl ?_
                  refine mk_bipush (nx := 112) X d_Mo_stepsAt_110 (by decide) rfl ?_
                  refine mk_icmp_lt (tgt := 132) (nx := 115) X d_Mo_stepsAt_112 (by omega) (by omega) (by decide) rfl (fun c112 => ?_) (fun c112 => ?_)
                  · skip
                    refine mk_iconst (nx := 133) X d_Mo_stepsAt_132 rfl ?_
                    exact hret _ _ _ _ d_Mo_stepsAt_133 (by first | (exfalso; omega) | exact ⟨rfl, by unfold gst ob nb; rw [if_pos (by omega)]⟩ | exact ⟨rfl, by unfold gst ob nb; rw [if_neg (by omega), if_pos (by omega)]⟩ | exact ⟨rfl, by unfold gst ob nb; rw [if_neg (by omega), if_neg (by omega), if_pos (by omega)]⟩ | exact ⟨rfl, by unfold gst ob nb; rw [if_neg (by omega), if_neg (by omega), if_neg (by omega)]⟩)
                  · skip
                    refine mk_iload (nx := 117) X 0 d_Mo_stepsAt_115 rfl rfl ?_
                    refine mk_iconst (nx := 118) X d_Mo_stepsAt_117 rfl ?_
                    refine mk_icmp_gt (tgt := 132) (nx := 121) X d_Mo_stepsAt_118 (by omega) (by omega) (by decide) rfl (fun c118 => ?_) (fun c118 => ?_)
                    · skip
                      refine mk_iconst (nx := 133) X d_Mo_stepsAt_132 rfl ?_
                      exact hret _ _ _ _ d_Mo_stepsAt_133 (by first | (exfalso; omega) | exact ⟨rfl, by unfold gst ob nb; rw [if_pos (by omega)]⟩ | exact ⟨rfl, by unfold gst ob nb; rw [if_neg (by omega), if_pos (by omega)]⟩ | exact ⟨rfl, by unfold gst ob nb; rw [if_neg (by omega), if_neg (by omega), if_pos (by omega)]⟩ | exact ⟨rfl, by unfold gst ob nb; rw [if_neg (by omega), if_neg (by omega), if_neg (by omega)]⟩)
                    · skip
                      refine mk_iload (nx := 123) X 0 d_Mo_stepsAt_121 rfl rfl ?_
                      refine mk_bipush (nx := 125) X d_Mo_stepsAt_123 (by decide) rfl ?_
                      refine mk_icmp_lt (tgt := 132) (nx := 128) X d_Mo_stepsAt_125 (by omega) (by omega) (by decide) rfl (fun c125 => ?_) (fun c125 => ?_)
                      · skip
                        refine mk_iconst (nx := 133) X d_Mo_stepsAt_132 rfl ?_
                        exact hret _ _ _ _ d_Mo_stepsAt_133 (by first | (exfalso; omega) | exact ⟨rfl, by unfold gst ob nb; rw [if_pos (by omega)]⟩ | exact ⟨rfl, by unfold gst ob nb; rw [if_neg (by omega), if_pos (by omega)]⟩ | exact ⟨rfl, by unfold gst ob nb; rw [if_neg (by omega), if_neg (by omega), if_pos (by omega)]⟩ | exact ⟨rfl, by unfold gst ob nb; rw [if_neg (by omega), if_neg (by omega), if_neg (by omega)]⟩)
                      · skip
                        refine mk_iconst (nx := 129) X d_Mo_stepsAt_128 rfl ?_
                        refine mk_goto (tgt := 133) X d_Mo_stepsAt_129 (by decide) ?_
                        exact hret _ _ _ _ d_Mo_stepsAt_133 (by first | (exfalso; omega) | exact ⟨rfl, by unfold gst ob nb; rw [if_pos (by omega)]⟩ | exact ⟨rfl, by unfold gst ob nb; rw [if_neg (by omega), if_pos (by omega)]⟩ | exact ⟨rfl, by unfold gst ob nb; rw [if_neg (by omega), if_neg (by omega), if_pos (by omega)]⟩ | exact ⟨rfl, by unfold gst ob nb; rw [if_neg (by omega), if_neg (by omega), if_neg (by omega)]⟩)
              · skip
                refine mk_iload (nx := 98) X 0 d_Mo_stepsAt_96 rfl rfl ?_
                refine mk_iconst (nx := 99) X d_Mo_stepsAt_98 rfl ?_
                refine mk_icmp_le (tgt := 128) (nx := 102) X d_Mo_stepsAt_99 (by omega) (by omega) (by decide) rfl (fun c99 => ?_) (fun c99 => ?_)
                · skip
                  refine mk_iconst (nx := 129) X d_Mo_stepsAt_128 rfl ?_
                  refine mk_goto (tgt := 133) X d_Mo_stepsAt_129 (by decide) ?_
                  exact hret _ _ _ _ d_Mo_stepsAt_133 (by first | (exfalso; omega) | exact ⟨rfl, by unfold gst ob nb; rw [if_pos (by omega)]⟩ | exact ⟨rfl, by unfold gst ob nb; rw [if_neg (by omega), if_pos (by omega)]⟩ | exact ⟨rfl, by unfold gst ob nb; rw [if_neg (by omega), if_neg (by omega), if_pos (by omega)]⟩ | exact ⟨rfl, by unfold gst ob nb; rw [if_neg (by omega), if_neg (by omega), if_neg (by omega)]⟩)
                · skip
                  refine mk_iload (nx := 104) X 1 d_Mo_stepsAt_102 rfl rfl ?_
                  refine mk_iconst (nx := 105) X d_Mo_stepsAt_104 rfl ?_
                  refine mk_icmp_gt (tgt := 132) (nx := 108) X d_Mo_stepsAt_105 (by omega) (by omega) (by decide) rfl (fun c105 => ?_) (fun c105 => ?_)
                  · skip
                    refine mk_iconst (nx := 133) X d_Mo_stepsAt_132 rfl ?_
                    exact hret _ _ _ _ d_Mo_stepsAt_133 (by first | (exfalso; omega) | exact ⟨rfl, by unfold gst ob nb; rw [if_pos (by omega)]⟩ | exact ⟨rfl, by unfold gst ob nb; rw [if_neg (by omega), if_pos (by omega)]⟩ | exact ⟨rfl, by unfold gst ob nb; rw [if_neg (by omega), if_neg (by omega), if_pos (by omega)]⟩ | exact ⟨rfl, by unfold gst ob nb; rw [if_neg (by omega), if_neg (by omega), if_neg (by omega)]⟩)
                  · skip
                    refine mk_iload (nx := 110) X 1 d_Mo_stepsAt_108 rfl rfl ?_
                    refine mk_bipush (nx := 112) X d_Mo_stepsAt_110 (by decide) rfl ?_
                    refine mk_icmp_lt (tgt := 132) (nx := 115) X d_Mo_stepsAt_112 (by omega) (by omega) (by decide) rfl (fun c112 => ?_) (fun c112 => ?_)
                    · skip
                      refine mk_iconst (nx := 133) X d_Mo_stepsAt_132 rfl ?_
                      exact hret _ _ _ _ d_Mo_stepsAt_133 (by first | (exfalso; omega) | exact ⟨rfl, by unfold gst ob nb; rw [if_pos (by omega)]⟩ | exact ⟨rfl, by unfold gst ob nb; rw [if_neg (by omega), if_pos (by omega)]⟩ | exact ⟨rfl, by unfold gst ob nb; rw [if_neg (by omega), if_neg (by omega), if_pos (by omega)]⟩ | exact ⟨rfl, by unfold gst ob nb; rw [if_neg (by omega), if_neg (by omega), if_neg (by omega)]⟩)
                    · skip
                      refine mk_iload (nx := 117) X 0 d_Mo_stepsAt_115 rfl rfl ?_
                      refine mk_iconst (nx := 118) X d_Mo_stepsAt_117 rfl ?_
                      refine mk_icmp_gt (tgt := 132) (nx := 121) X d_Mo_stepsAt_118 (by omega) (by omega) (by decide) rfl (fun c118 => ?_) (fun c118 => ?_)
                      · skip
                        refine mk_iconst (nx := 133) X d_Mo_stepsAt_132 rfl ?_
                        exact hret _ _ _ _ d_Mo_stepsAt_133 (by first | (exfalso; omega) | exact ⟨rfl, by unfold gst ob nb; rw [if_pos (by omega)]⟩ | exact ⟨rfl, by unfold gst ob nb; rw [if_neg (by omega), if_pos (by omega)]⟩ | exact ⟨rfl, by unfold gst ob nb; rw [if_neg (by omega), if_neg (by omega), if_pos (by omega)]⟩ | exact ⟨rfl, by unfold gst ob nb; rw [if_neg (by omega), if_neg (by omega), if_neg (by omega)]⟩)
                      · skip
                        refine mk_iload (nx := 123) X 0 d_Mo_stepsAt_121 rfl rfl ?_
                        refine mk_bipush (nx := 125) X d_Mo_stepsAt_123 (by decide) rfl ?_
                        refine mk_icmp_lt (tgt := 132) (nx := 128) X d_Mo_stepsAt_125 (by omega) (by omega) (by decide) rfl (fun c125 => ?_) (fun c125 => ?_)
                        · skip
                          refine mk_iconst (nx := 133) X d_Mo_stepsAt_132 rfl ?_
                          exact hret _ _ _ _ d_Mo_stepsAt_133 (by first | (exfalso; omega) | exact ⟨rfl, by unfold gst ob nb; rw [if_pos (by omega)]⟩ | exact ⟨rfl, by unfold gst ob nb; rw [if_neg (by omega), if_pos (by omega)]⟩ | exact ⟨rfl, by unfold gst ob nb; rw [if_neg (by omega), if_neg (by omega), if_pos (by omega)]⟩ | exact ⟨rfl, by unfold gst ob nb; rw [if_neg (by omega), if_neg (by omega), if_neg (by omega)]⟩)
                        · skip
                          refine mk_iconst (nx := 129) X d_Mo_stepsAt_128 rfl ?_
                          refine mk_goto (tgt := 133) X d_Mo_stepsAt_129 (by decide) ?_
                          exact hret _ _ _ _ d_Mo_stepsAt_133 (by first | (exfalso; omega) | exact ⟨rfl, by unfold gst ob nb; rw [if_pos (by omega)]⟩ | exact ⟨rfl, by unfold gst ob nb; rw [if_neg (by omega), if_pos (by omega)]⟩ | exact ⟨rfl, by unfold gst ob nb; rw [if_neg (by omega), if_neg (by omega), if_pos (by omega)]⟩ | exact ⟨rfl, by unfold gst ob nb; rw [if_neg (by omega), if_neg (by omega), if_neg (by omega)]⟩)
        · skip
          refine mk_iconst (nx := 64) X d_Mo_stepsAt_63 rfl ?_
          exact hret _ _ _ _ d_Mo_stepsAt_64 (by first | (exfalso; omega) | exact ⟨rfl, by unfold gst ob nb; rw [if_pos (by omega)]⟩ | exact ⟨rfl, by unfold gst ob nb; rw [if_neg (by omega), if_pos (by omega)]⟩ | exact ⟨rfl, by unfold gst ob nb; rw [if_neg (by omega), if_neg (by omega), if_pos (by omega)]⟩ | exact ⟨rfl, by unfold gst ob nb; rw [if_neg (by omega), if_neg (by omega), if_neg (by omega)]⟩)
    · skip
      refine mk_iconst (nx := 47) X d_Mo_stepsAt_46 rfl ?_
      exact hret _ _ _ _ d_Mo_stepsAt_47 (by first | (exfalso; omega) | exact ⟨rfl, by unfold gst ob nb; rw [if_pos (by omega)]⟩ | exact ⟨rfl, by unfold gst ob nb; rw [if_neg (by omega), if_pos (by omega)]⟩ | exact ⟨rfl, by unfold gst ob nb; rw [if_neg (by omega), if_neg (by omega), if_pos (by omega)]⟩ | exact ⟨rfl, by unfold gst ob nb; rw [if_neg (by omega), if_neg (by omega), if_neg (by omega)]⟩)

-- CanonMakerModel.breaksAlone(III)Z
theorem d_Mo_breaksAlone_0 : decode prog_9_method_26_code 0 = .ok (.aload_n 0, 1) := by decide +kernel
theorem d_Mo_breaksAlone_1 : decode prog_9_method_26_code 1 = .ok (.getfield 42, 3) := by decide +kernel
theorem d_Mo_breaksAlone_4 : decode prog_9_method_26_code 4 = .ok (.sipush 1300, 3) := by decide +kernel
theorem d_Mo_breaksAlone_7 : decode prog_9_method_26_code 7 = .ok (.iload_n 2, 1) := by decide +kernel
theorem d_Mo_breaksAlone_8 : decode prog_9_method_26_code 8 = .ok (.imul, 1) := by decide +kernel
theorem d_Mo_breaksAlone_9 : decode prog_9_method_26_code 9 = .ok (.iload_n 3, 1) := by decide +kernel
theorem d_Mo_breaksAlone_10 : decode prog_9_method_26_code 10 = .ok (.iadd, 1) := by decide +kernel
theorem d_Mo_breaksAlone_11 : decode prog_9_method_26_code 11 = .ok (.iaload, 1) := by decide +kernel
theorem d_Mo_breaksAlone_12 : decode prog_9_method_26_code 12 = .ok (.istore 4, 2) := by decide +kernel
theorem d_Mo_breaksAlone_14 : decode prog_9_method_26_code 14 = .ok (.aload_n 0, 1) := by decide +kernel
theorem d_Mo_breaksAlone_15 : decode prog_9_method_26_code 15 = .ok (.iload_n 2, 1) := by decide +kernel
theorem d_Mo_breaksAlone_16 : decode prog_9_method_26_code 16 = .ok (.iload_n 3, 1) := by decide +kernel
theorem d_Mo_breaksAlone_17 : decode prog_9_method_26_code 17 = .ok (.invokevirtual 103, 3) := by decide +kernel
theorem d_Mo_breaksAlone_20 : decode prog_9_method_26_code 20 = .ok (.ifCond .eq 11, 3) := by decide +kernel
theorem d_Mo_breaksAlone_23 : decode prog_9_method_26_code 23 = .ok (.iload 4, 2) := by decide +kernel
theorem d_Mo_breaksAlone_25 : decode prog_9_method_26_code 25 = .ok (.sipush 1001, 3) := by decide +kernel
theorem d_Mo_breaksAlone_28 : decode prog_9_method_26_code 28 = .ok (.if_icmp .ne 5, 3) := by decide +kernel
theorem d_Mo_breaksAlone_31 : decode prog_9_method_26_code 31 = .ok (.iconst 0, 1) := by decide +kernel
theorem d_Mo_breaksAlone_32 : decode prog_9_method_26_code 32 = .ok (.ireturn, 1) := by decide +kernel
theorem d_Mo_breaksAlone_33 : decode prog_9_method_26_code 33 = .ok (.iload_n 1, 1) := by decide +kernel
theorem d_Mo_breaksAlone_34 : decode prog_9_method_26_code 34 = .ok (.iconst 1, 1) := by decide +kernel
theorem d_Mo_breaksAlone_35 : decode prog_9_method_26_code 35 = .ok (.if_icmp .ne 27, 3) := by decide +kernel
theorem d_Mo_breaksAlone_38 : decode prog_9_method_26_code 38 = .ok (.iload 4, 2) := by decide +kernel
theorem d_Mo_breaksAlone_40 : decode prog_9_method_26_code 40 = .ok (.aload_n 0, 1) := by decide +kernel
theorem d_Mo_breaksAlone_41 : decode prog_9_method_26_code 41 = .ok (.getfield 69, 3) := by decide +kernel
theorem d_Mo_breaksAlone_44 : decode prog_9_method_26_code 44 = .ok (.if_icmp .lt 12, 3) := by decide +kernel
theorem d_Mo_breaksAlone_47 : decode prog_9_method_26_code 47 = .ok (.iload 4, 2) := by decide +kernel
theorem d_Mo_breaksAlone_49 : decode prog_9_method_26_code 49 = .ok (.aload_n 0, 1) := by decide +kernel
theorem d_Mo_breaksAlone_50 : decode prog_9_method_26_code 50 = .ok (.getfield 32, 3) := by decide +kernel
theorem d_Mo_breaksAlone_53 : decode prog_9_method_26_code 53 = .ok (.if_icmp .le 7, 3) := by decide +kernel
theorem d_Mo_breaksAlone_56 : decode prog_9_method_26_code 56 = .ok (.iconst 1, 1) := by decide +kernel
theorem d_Mo_breaksAlone_57 : decode prog_9_method_26_code 57 = .ok (.goto 4, 3) := by decide +kernel
theorem d_Mo_breaksAlone_60 : decode prog_9_method_26_code 60 = .ok (.iconst 0, 1) := by decide +kernel
theorem d_Mo_breaksAlone_61 : decode prog_9_method_26_code 61 = .ok (.ireturn, 1) := by decide +kernel
theorem d_Mo_breaksAlone_62 : decode prog_9_method_26_code 62 = .ok (.iload_n 1, 1) := by decide +kernel
theorem d_Mo_breaksAlone_63 : decode prog_9_method_26_code 63 = .ok (.iconst 2, 1) := by decide +kernel
theorem d_Mo_breaksAlone_64 : decode prog_9_method_26_code 64 = .ok (.if_icmp .ne 30, 3) := by decide +kernel
theorem d_Mo_breaksAlone_67 : decode prog_9_method_26_code 67 = .ok (.aload_n 0, 1) := by decide +kernel
theorem d_Mo_breaksAlone_68 : decode prog_9_method_26_code 68 = .ok (.getfield 36, 3) := by decide +kernel
theorem d_Mo_breaksAlone_71 : decode prog_9_method_26_code 71 = .ok (.iload 4, 2) := by decide +kernel
theorem d_Mo_breaksAlone_73 : decode prog_9_method_26_code 73 = .ok (.bipush 12, 2) := by decide +kernel
theorem d_Mo_breaksAlone_75 : decode prog_9_method_26_code 75 = .ok (.irem, 1) := by decide +kernel
theorem d_Mo_breaksAlone_76 : decode prog_9_method_26_code 76 = .ok (.bipush 12, 2) := by decide +kernel
theorem d_Mo_breaksAlone_78 : decode prog_9_method_26_code 78 = .ok (.iadd, 1) := by decide +kernel
theorem d_Mo_breaksAlone_79 : decode prog_9_method_26_code 79 = .ok (.bipush 12, 2) := by decide +kernel
theorem d_Mo_breaksAlone_81 : decode prog_9_method_26_code 81 = .ok (.irem, 1) := by decide +kernel
theorem d_Mo_breaksAlone_82 : decode prog_9_method_26_code 82 = .ok (.ishr, 1) := by decide +kernel
theorem d_Mo_breaksAlone_83 : decode prog_9_method_26_code 83 = .ok (.iconst 1, 1) := by decide +kernel
theorem d_Mo_breaksAlone_84 : decode prog_9_method_26_code 84 = .ok (.iand, 1) := by decide +kernel
theorem d_Mo_breaksAlone_85 : decode prog_9_method_26_code 85 = .ok (.ifCond .ne 7, 3) := by decide +kernel
theorem d_Mo_breaksAlone_88 : decode prog_9_method_26_code 88 = .ok (.iconst 1, 1) := by decide +kernel
theorem d_Mo_breaksAlone_89 : decode prog_9_method_26_code 89 = .ok (.goto 4, 3) := by decide +kernel
theorem d_Mo_breaksAlone_92 : decode prog_9_method_26_code 92 = .ok (.iconst 0, 1) := by decide +kernel
theorem d_Mo_breaksAlone_93 : decode prog_9_method_26_code 93 = .ok (.ireturn, 1) := by decide +kernel
theorem d_Mo_breaksAlone_94 : decode prog_9_method_26_code 94 = .ok (.aload_n 0, 1) := by decide +kernel
theorem d_Mo_breaksAlone_95 : decode prog_9_method_26_code 95 = .ok (.iload_n 2, 1) := by decide +kernel
theorem d_Mo_breaksAlone_96 : decode prog_9_method_26_code 96 = .ok (.iload_n 3, 1) := by decide +kernel
theorem d_Mo_breaksAlone_97 : decode prog_9_method_26_code 97 = .ok (.iconst (-1), 1) := by decide +kernel
theorem d_Mo_breaksAlone_98 : decode prog_9_method_26_code 98 = .ok (.invokevirtual 107, 3) := by decide +kernel
theorem d_Mo_breaksAlone_101 : decode prog_9_method_26_code 101 = .ok (.istore 5, 2) := by decide +kernel
theorem d_Mo_breaksAlone_103 : decode prog_9_method_26_code 103 = .ok (.iload 5, 2) := by decide +kernel
theorem d_Mo_breaksAlone_105 : decode prog_9_method_26_code 105 = .ok (.sipush 1000, 3) := by decide +kernel
theorem d_Mo_breaksAlone_108 : decode prog_9_method_26_code 108 = .ok (.if_icmp .lt 5, 3) := by decide +kernel
theorem d_Mo_breaksAlone_111 : decode prog_9_method_26_code 111 = .ok (.iconst 0, 1) := by decide +kernel
theorem d_Mo_breaksAlone_112 : decode prog_9_method_26_code 112 = .ok (.ireturn, 1) := by decide +kernel
theorem d_Mo_breaksAlone_113 : decode prog_9_method_26_code 113 = .ok (.iload 4, 2) := by decide +kernel
theorem d_Mo_breaksAlone_115 : decode prog_9_method_26_code 115 = .ok (.iload 5, 2) := by decide +kernel
theorem d_Mo_breaksAlone_117 : decode prog_9_method_26_code 117 = .ok (.if_icmp .ge 11, 3) := by decide +kernel
theorem d_Mo_breaksAlone_120 : decode prog_9_method_26_code 120 = .ok (.iload 5, 2) := by decide +kernel
theorem d_Mo_breaksAlone_122 : decode prog_9_method_26_code 122 = .ok (.iload 4, 2) := by decide +kernel
theorem d_Mo_breaksAlone_124 : decode prog_9_method_26_code 124 = .ok (.isub, 1) := by decide +kernel
theorem d_Mo_breaksAlone_125 : decode prog_9_method_26_code 125 = .ok (.goto 8, 3) := by decide +kernel
theorem d_Mo_breaksAlone_128 : decode prog_9_method_26_code 128 = .ok (.iload 4, 2) := by decide +kernel
theorem d_Mo_breaksAlone_130 : decode prog_9_method_26_code 130 = .ok (.iload 5, 2) := by decide +kernel
theorem d_Mo_breaksAlone_132 : decode prog_9_method_26_code 132 = .ok (.isub, 1) := by decide +kernel
theorem d_Mo_breaksAlone_133 : decode prog_9_method_26_code 133 = .ok (.istore 6, 2) := by decide +kernel
theorem d_Mo_breaksAlone_135 : decode prog_9_method_26_code 135 = .ok (.iload 6, 2) := by decide +kernel
theorem d_Mo_breaksAlone_137 : decode prog_9_method_26_code 137 = .ok (.bipush 12, 2) := by decide +kernel
theorem d_Mo_breaksAlone_139 : decode prog_9_method_26_code 139 = .ok (.if_icmp .gt 24, 3) := by decide +kernel
theorem d_Mo_breaksAlone_142 : decode prog_9_method_26_code 142 = .ok (.iload 6, 2) := by decide +kernel
theorem d_Mo_breaksAlone_144 : decode prog_9_method_26_code 144 = .ok (.bipush 6, 2) := by decide +kernel
theorem d_Mo_breaksAlone_146 : decode prog_9_method_26_code 146 = .ok (.if_icmp .eq 17, 3) := by decide +kernel
theorem d_Mo_breaksAlone_149 : decode prog_9_method_26_code 149 = .ok (.iload 6, 2) := by decide +kernel
theorem d_Mo_breaksAlone_151 : decode prog_9_method_26_code 151 = .ok (.bipush 10, 2) := by decide +kernel
theorem d_Mo_breaksAlone_153 : decode prog_9_method_26_code 153 = .ok (.if_icmp .eq 10, 3) := by decide +kernel
theorem d_Mo_breaksAlone_156 : decode prog_9_method_26_code 156 = .ok (.iload 6, 2) := by decide +kernel
theorem d_Mo_breaksAlone_158 : decode prog_9_method_26_code 158 = .ok (.bipush 11, 2) := by decide +kernel
theorem d_Mo_breaksAlone_160 : decode prog_9_method_26_code 160 = .ok (.if_icmp .ne 7, 3) := by decide +kernel
theorem d_Mo_breaksAlone_163 : decode prog_9_method_26_code 163 = .ok (.iconst 1, 1) := by decide +kernel
theorem d_Mo_breaksAlone_164 : decode prog_9_method_26_code 164 = .ok (.goto 4, 3) := by decide +kernel
theorem d_Mo_breaksAlone_167 : decode prog_9_method_26_code 167 = .ok (.iconst 0, 1) := by decide +kernel
theorem d_Mo_breaksAlone_168 : decode prog_9_method_26_code 168 = .ok (.ireturn, 1) := by decide +kernel
abbrev rm_Mo_breaksAlone : Room := { frames := 3, cells := 0, slots := 0, locals := 67 }
set_option maxHeartbeats 4000000 in
set_option maxRecDepth 100000 in
theorem c_Mo_breaksAlone (l : Launch) (D : va_G) (cs : Nat → ClassId) (ad : Nat → Nat) (hi : mo_inj ad) (c I : Wo) (h : moR c I) (hL : MoL c I) (rule : Int) (hru2 : rule = 1 ∨ rule = 2 ∨ rule = 128) (v : Nat) (hv : v < 4) (t : Nat) (ht : (t : Int) < an_end c) : mo_C l D cs ad y_Mo_breaksAlone ws_Mo_breaksAlone rm_Mo_breaksAlone [.ref (ad 0), .int (zi rule), .int (zi (v : Int)), .int (zi (t : Int))] I (mk_pi (fun r J => I = J ∧ ((r = 1 ∧ brA c rule v t) ∨ (r = 0 ∧ ¬ brA c rule v t)))) := by
  refine mk_metz (own := "CanonMakerModel") (Ts := wA) hi (Nat.le_refl _) (by decide) rfl (fun w h => List.mem_cons_of_mem _ h) rfl (Nat.le_of_ble_eq_true rfl) [(0, .ref (ad 0)), (1, .int (zi rule)), (2, .int (zi (v : Int))), (3, .int (zi (t : Int)))] rfl ?_
  intro p_ e_ s_ m_ as_ bl_ me_ co_ Q_ X hret
  obtain ⟨⟨⟨hn, hN⟩, ⟨hlo, hsc, hbt, hru, hrd, hst⟩, ⟨hV, hV0⟩, ⟨hfc, hF⟩⟩, ⟨i12, iN⟩, ⟨⟨i50, i51, i52, i53, i54⟩, i07, i09⟩, iV, ⟨i010, iF⟩⟩ := id h
  have heb := an_end_b h.1.1 h.1.2.1 h.1.2.2.1
  have hcn := cn_e h.1.1
  have hv5 := hV v hv
  have hpb := cpt_b h.1.1 h.1.2.2.1 hv (t : Int)
  have hsb := csk_b c v (t : Int)
  have hlb := cpl_b h.1.1 h.1.2.2.1 hv (t : Int)
  refine mk_aloadn (nx := 1) X 0 d_Mo_breaksAlone_0 rfl rfl ?_
  refine mk_get (nx := 4) (v := .ref (ad 8)) X 0 (by decide) (mh_Mo cs ad _) rfl in_Mo 15 (by decide) wd_610 rfl rfl d_Mo_breaksAlone_1 rfl ?_
  refine mk_sipush (nx := 7) X d_Mo_breaksAlone_4 (by decide) rfl ?_
  refine mk_iloadn (nx := 8) X 2 d_Mo_breaksAlone_7 rfl rfl ?_
  refine mk_imul (nx := 9) X d_Mo_breaksAlone_8 rfl ?_
  refine mk_iloadn (nx := 10) X 3 d_Mo_breaksAlone_9 rfl rfl ?_
  refine mk_iadd (nx := 11) X d_Mo_breaksAlone_10 rfl ?_
  refine mk_iald (nx := 12) (j := ((1300 * v) + t)) X 8 0 (by decide) (mh_pitchAt cs ad _) rfl (by omega) (by omega) (by decide) (by omega) d_Mo_breaksAlone_11 rfl ?_
  refine mk_istore (nx := 14) X [(4, .int (zi (I 8 ((1300 * v) + t)))), (0, .ref (ad 0)), (1, .int (zi rule)), (2, .int (zi (v : Int))), (3, .int (zi (t : Int)))] d_Mo_breaksAlone_12 (by decide) rfl rfl ?_
  refine mk_aloadn (nx := 15) X 1 d_Mo_breaksAlone_14 rfl rfl ?_
  refine mk_iloadn (nx := 16) X 3 d_Mo_breaksAlone_15 rfl rfl ?_
  refine mk_iloadn (nx := 17) X 4 d_Mo_breaksAlone_16 rfl rfl ?_
  refine mk_callVi (nx := 20) (n := 2) (As := [.int (zi (v : Int)), .int (zi (t : Int))]) (rest := []) X 0 (by decide) (mh_Mo cs ad _) rfl (c_Mo_isStruck l D cs ad hi c I h hL v hv t ht) (g_Mo_isStruck wd_776) rfl ⟨rfl, rfl⟩ (by decide +kernel) ⟨by decide, by decide⟩ rfl (Nat.le_of_ble_eq_true rfl) rfl d_Mo_breaksAlone_17 rfl ?_
  intro r17 J1 hJ1
  obtain ⟨rfl, hr17⟩ := hJ1
  refine mk_if_eq (tgt := 31) (nx := 23) X d_Mo_breaksAlone_20 (by omega) (by decide) rfl (fun c20 => ?_) (fun c20 => ?_)
  · skip
    refine mk_iconst (nx := 32) X d_Mo_breaksAlone_31 rfl ?_
    exact hret _ _ _ _ d_Mo_breaksAlone_32 (by omega) (by exact ⟨rfl, Or.inr ⟨rfl, by unfold brA hsk; omega⟩⟩)
  · skip
    have hon : c (3 + v) 0 = 1 := by omega
    have hk1 : csk c v (t : Int) = 1 := by omega
    have hp := (csk_pl hk1).1
    have hcp : 0 < cn c := by omega
    have hob := cbs_b h.1.1 h.1.2.2.1 hv hcp (cpl c v (t : Int)) (-1)
    rw [show I 8 ((1300 * v) + t) = cpt c v (t : Int) from ((hL.2 v hv hon).2 t ht).2.1]
    refine mk_iload (nx := 25) X 0 d_Mo_breaksAlone_23 rfl rfl ?_
    refine mk_sipush (nx := 28) X d_Mo_breaksAlone_25 (by decide) rfl ?_
    refine mk_icmp_ne (tgt := 33) (nx := 31) X d_Mo_breaksAlone_28 (by omega) (by omega) (by decide) rfl (fun c28 => ?_) (fun c28 => ?_)
    · skip
      refine mk_iloadn (nx := 34) X 2 d_Mo_breaksAlone_33 rfl rfl ?_
      refine mk_iconst (nx := 35) X d_Mo_breaksAlone_34 rfl ?_
      refine mk_icmp_ne (tgt := 62) (nx := 38) X d_Mo_breaksAlone_35 (by omega) (by omega) (by decide) rfl (fun c35 => ?_) (fun c35 => ?_)
      · skip
        refine mk_iloadn (nx := 63) X 2 d_Mo_breaksAlone_62 rfl rfl ?_
        refine mk_iconst (nx := 64) X d_Mo_breaksAlone_63 rfl ?_
        refine mk_icmp_ne (tgt := 94) (nx := 67) X d_Mo_breaksAlone_64 (by omega) (by omega) (by decide) rfl (fun c64 => ?_) (fun c64 => ?_)
        · skip
          refine mk_aloadn (nx := 95) X 1 d_Mo_breaksAlone_94 rfl rfl ?_
          refine mk_iloadn (nx := 96) X 3 d_Mo_breaksAlone_95 rfl rfl ?_
          refine mk_iloadn (nx := 97) X 4 d_Mo_breaksAlone_96 rfl rfl ?_
          refine mk_iconst (nx := 98) X d_Mo_breaksAlone_97 rfl ?_
          refine mk_callVi (nx := 101) (n := 3) (As := [.int (zi (v : Int)), .int (zi (t : Int)), .int (zi (-1))]) (rest := []) X 0 (by decide) (mh_Mo cs ad _) rfl (c_Mo_beside l D cs ad hi c I h hL v hv t ht hon hp (-1) (by omega)) (g_Mo_beside wd_780) rfl ⟨rfl, rfl⟩ (by decide +kernel) ⟨by decide, by decide⟩ rfl (Nat.le_of_ble_eq_true rfl) rfl d_Mo_breaksAlone_98 rfl ?_
          intro r98 J2 hJ2
          obtain ⟨rfl, rfl⟩ := hJ2
          refine mk_istore (nx := 103) X [(5, .int (zi (cbs c v (cpl c v (t : Int)) (-1)))), (4, .int (zi (cpt c v (t : Int)))), (0, .ref (ad 0)), (1, .int (zi rule)), (2, .int (zi (v : Int))), (3, .int (zi (t : Int)))] d_Mo_breaksAlone_101 (by decide) rfl rfl ?_
          refine mk_iload (nx := 105) X 0 d_Mo_breaksAlone_103 rfl rfl ?_
          refine mk_sipush (nx := 108) X d_Mo_breaksAlone_105 (by decide) rfl ?_
          refine mk_icmp_lt (tgt := 113) (nx := 111) X d_Mo_breaksAlone_108 (by omega) (by omega) (by decide) rfl (fun c108 => ?_) (fun c108 => ?_)
          · skip
            refine mk_iload (nx := 115) X 1 d_Mo_breaksAlone_113 rfl rfl ?_
            refine mk_iload (nx := 117) X 0 d_Mo_breaksAlone_115 rfl rfl ?_
            refine mk_icmp_ge (tgt := 128) (nx := 120) X d_Mo_breaksAlone_117 (by omega) (by omega) (by decide) rfl (fun c117 => ?_) (fun c117 => ?_)
            · skip
              refine mk_iload (nx := 130) X 1 d_Mo_breaksAlone_128 rfl rfl ?_
              refine mk_iload (nx := 132) X 0 d_Mo_breaksAlone_130 rfl rfl ?_
              refine mk_isub (nx := 133) X d_Mo_breaksAlone_132 rfl ?_
              refine mk_istore (nx := 135) X [(6, .int (zi ((cpt c v (t : Int)) - (cbs c v (cpl c v (t : Int)) (-1))))), (5, .int (zi (cbs c v (cpl c v (t : Int)) (-1)))), (4, .int (zi (cpt c v (t : Int)))), (0, .ref (ad 0)), (1, .int (zi rule)), (2, .int (zi (v : Int))), (3, .int (zi (t : Int)))] d_Mo_breaksAlone_133 (by decide) rfl rfl ?_
              refine mk_iload (nx := 137) X 0 d_Mo_breaksAlone_135 rfl rfl ?_
              refine mk_bipush (nx := 139) X d_Mo_breaksAlone_137 (by decide) rfl ?_
              refine mk_icmp_gt (tgt := 163) (nx := 142) X d_Mo_breaksAlone_139 (by omega) (by omega) (by decide) rfl (fun c139 => ?_) (fun c139 => ?_)
              · skip
                refine mk_iconst (nx := 164) X d_Mo_breaksAlone_163 rfl ?_
                refine mk_goto (tgt := 168) X d_Mo_breaksAlone_164 (by decide) ?_
                exact hret _ _ _ _ d_Mo_breaksAlone_168 (by omega) (by exact ⟨rfl, by unfold brA hsk ob leap; omega⟩)
              · skip
                refine mk_iload (nx := 144) X 0 d_Mo_breaksAlone_142 rfl rfl ?_
                refine mk_bipush (nx := 146) X d_Mo_breaksAlone_144 (by decide) rfl ?_
                refine mk_icmp_eq (tgt := 163) (nx := 149) X d_Mo_breaksAlone_146 (by omega) (by omega) (by decide) rfl (fun c146 => ?_) (fun c146 => ?_)
                · skip
                  refine mk_iconst (nx := 164) X d_Mo_breaksAlone_163 rfl ?_
                  refine mk_goto (tgt := 168) X d_Mo_breaksAlone_164 (by decide) ?_
                  exact hret _ _ _ _ d_Mo_breaksAlone_168 (by omega) (by exact ⟨rfl, by unfold brA hsk ob leap; omega⟩)
                · skip
                  refine mk_iload (nx := 151) X 0 d_Mo_breaksAlone_149 rfl rfl ?_
                  refine mk_bipush (nx := 153) X d_Mo_breaksAlone_151 (by decide) rfl ?_
                  refine mk_icmp_eq (tgt := 163) (nx := 156) X d_Mo_breaksAlone_153 (by omega) (by omega) (by decide) rfl (fun c153 => ?_) (fun c153 => ?_)
                  · skip
                    refine mk_iconst (nx := 164) X d_Mo_breaksAlone_163 rfl ?_
                    refine mk_goto (tgt := 168) X d_Mo_breaksAlone_164 (by decide) ?_
                    exact hret _ _ _ _ d_Mo_breaksAlone_168 (by omega) (by exact ⟨rfl, by unfold brA hsk ob leap; omega⟩)
                  · skip
                    refine mk_iload (nx := 158) X 0 d_Mo_breaksAlone_156 rfl rfl ?_
                    refine mk_bipush (nx := 160) X d_Mo_breaksAlone_158 (by decide) rfl ?_
                    refine mk_icmp_ne (tgt := 167) (nx := 163) X d_Mo_breaksAlone_160 (by omega) (by omega) (by decide) rfl (fun c160 => ?_) (fun c160 => ?_)
                    · skip
                      refine mk_iconst (nx := 168) X d_Mo_breaksAlone_167 rfl ?_
                      exact hret _ _ _ _ d_Mo_breaksAlone_168 (by omega) (by exact ⟨rfl, by unfold brA hsk ob leap; omega⟩)
                    · skip
                      refine mk_iconst (nx := 164) X d_Mo_breaksAlone_163 rfl ?_
                      refine mk_goto (tgt := 168) X d_Mo_breaksAlone_164 (by decide) ?_
                      exact hret _ _ _ _ d_Mo_breaksAlone_168 (by omega) (by exact ⟨rfl, by unfold brA hsk ob leap; omega⟩)
            · skip
              refine mk_iload (nx := 122) X 0 d_Mo_breaksAlone_120 rfl rfl ?_
              refine mk_iload (nx := 124) X 1 d_Mo_breaksAlone_122 rfl rfl ?_
              refine mk_isub (nx := 125) X d_Mo_breaksAlone_124 rfl ?_
              refine mk_goto (tgt := 133) X d_Mo_breaksAlone_125 (by decide) ?_
              refine mk_istore (nx := 135) X [(6, .int (zi ((cbs c v (cpl c v (t : Int)) (-1)) - (cpt c v (t : Int))))), (5, .int (zi (cbs c v (cpl c v (t : Int)) (-1)))), (4, .int (zi (cpt c v (t : Int)))), (0, .ref (ad 0)), (1, .int (zi rule)), (2, .int (zi (v : Int))), (3, .int (zi (t : Int)))] d_Mo_breaksAlone_133 (by decide) rfl rfl ?_
              refine mk_iload (nx := 137) X 0 d_Mo_breaksAlone_135 rfl rfl ?_
              refine mk_bipush (nx := 139) X d_Mo_breaksAlone_137 (by decide) rfl ?_
              refine mk_icmp_gt (tgt := 163) (nx := 142) X d_Mo_breaksAlone_139 (by omega) (by omega) (by decide) rfl (fun c139 => ?_) (fun c139 => ?_)
              · skip
                refine mk_iconst (nx := 164) X d_Mo_breaksAlone_163 rfl ?_
                refine mk_goto (tgt := 168) X d_Mo_breaksAlone_164 (by decide) ?_
                exact hret _ _ _ _ d_Mo_breaksAlone_168 (by omega) (by exact ⟨rfl, by unfold brA hsk ob leap; omega⟩)
              · skip
                refine mk_iload (nx := 144) X 0 d_Mo_breaksAlone_142 rfl rfl ?_
                refine mk_bipush (nx := 146) X d_Mo_breaksAlone_144 (by decide) rfl ?_
                refine mk_icmp_eq (tgt := 163) (nx := 149) X d_Mo_breaksAlone_146 (by omega) (by omega) (by decide) rfl (fun c146 => ?_) (fun c146 => ?_)
                · skip
                  refine mk_iconst (nx := 164) X d_Mo_breaksAlone_163 rfl ?_
                  refine mk_goto (tgt := 168) X d_Mo_breaksAlone_164 (by decide) ?_
                  exact hret _ _ _ _ d_Mo_breaksAlone_168 (by omega) (by exact ⟨rfl, by unfold brA hsk ob leap; omega⟩)
                · skip
                  refine mk_iload (nx := 151) X 0 d_Mo_breaksAlone_149 rfl rfl ?_
                  refine mk_bipush (nx := 153) X d_Mo_breaksAlone_151 (by decide) rfl ?_
                  refine mk_icmp_eq (tgt := 163) (nx := 156) X d_Mo_breaksAlone_153 (by omega) (by omega) (by decide) rfl (fun c153 => ?_) (fun c153 => ?_)
                  · skip
                    refine mk_iconst (nx := 164) X d_Mo_breaksAlone_163 rfl ?_
                    refine mk_goto (tgt := 168) X d_Mo_breaksAlone_164 (by decide) ?_
                    exact hret _ _ _ _ d_Mo_breaksAlone_168 (by omega) (by exact ⟨rfl, by unfold brA hsk ob leap; omega⟩)
                  · skip
                    refine mk_iload (nx := 158) X 0 d_Mo_breaksAlone_156 rfl rfl ?_
                    refine mk_bipush (nx := 160) X d_Mo_breaksAlone_158 (by decide) rfl ?_
                    refine mk_icmp_ne (tgt := 167) (nx := 163) X d_Mo_breaksAlone_160 (by omega) (by omega) (by decide) rfl (fun c160 => ?_) (fun c160 => ?_)
                    · skip
                      refine mk_iconst (nx := 168) X d_Mo_breaksAlone_167 rfl ?_
                      exact hret _ _ _ _ d_Mo_breaksAlone_168 (by omega) (by exact ⟨rfl, by unfold brA hsk ob leap; omega⟩)
                    · skip
                      refine mk_iconst (nx := 164) X d_Mo_breaksAlone_163 rfl ?_
                      refine mk_goto (tgt := 168) X d_Mo_breaksAlone_164 (by decide) ?_
                      exact hret _ _ _ _ d_Mo_breaksAlone_168 (by omega) (by exact ⟨rfl, by unfold brA hsk ob leap; omega⟩)
          · skip
            refine mk_iconst (nx := 112) X d_Mo_breaksAlone_111 rfl ?_
            exact hret _ _ _ _ d_Mo_breaksAlone_112 (by omega) (by exact ⟨rfl, Or.inr ⟨rfl, by unfold brA hsk ob; omega⟩⟩)
        · skip
          refine mk_aloadn (nx := 68) X 1 d_Mo_breaksAlone_67 rfl rfl ?_
          refine mk_get (nx := 71) (v := .int (zi (I 0 10))) X 0 (by decide) (mh_Mo cs ad _) rfl in_Mo 10 (by decide) wd_605 rfl rfl d_Mo_breaksAlone_68 rfl ?_
          rw [show I 0 10 = c 0 3 from i52]
          refine mk_iload (nx := 73) X 0 d_Mo_breaksAlone_71 rfl rfl ?_
          refine mk_bipush (nx := 75) X d_Mo_breaksAlone_73 (by decide) rfl ?_
          have tm1 := Int.tmod_lt_of_pos (cpt c v (t : Int)) (show (0 : Int) < 12 by omega)
          have tm2 := Int.lt_tmod_of_pos (cpt c v (t : Int)) (show (0 : Int) < 12 by omega)
          refine mk_irem (nx := 76) X d_Mo_breaksAlone_75 (by omega) (by omega) (by omega) rfl ?_
          refine mk_bipush (nx := 78) X d_Mo_breaksAlone_76 (by decide) rfl ?_
          refine mk_iadd (nx := 79) X d_Mo_breaksAlone_78 rfl ?_
          refine mk_bipush (nx := 81) X d_Mo_breaksAlone_79 (by decide) rfl ?_
          refine mk_irem (nx := 82) X d_Mo_breaksAlone_81 (by omega) (by omega) (by omega) rfl ?_
          rw [show Int.tmod ((Int.tmod (cpt c v (t : Int)) 12) + 12) 12 = (cpt c v (t : Int)) % 12 from mod12 _]
          refine mk_ishr (nx := 83) X d_Mo_breaksAlone_82 rfl ?_
          refine mk_iconst (nx := 84) X d_Mo_breaksAlone_83 rfl ?_
          refine mk_iand (nx := 85) X d_Mo_breaksAlone_84 rfl ?_
          refine mk_if_ne (tgt := 92) (nx := 88) X d_Mo_breaksAlone_85 (by exact zi_rng _) (by decide) rfl (fun c85 => ?_) (fun c85 => ?_)
          · skip
            refine mk_iconst (nx := 93) X d_Mo_breaksAlone_92 rfl ?_
            exact hret _ _ _ _ d_Mo_breaksAlone_93 (by omega) (by exact ⟨rfl, by unfold brA hsk; omega⟩)
          · skip
            refine mk_iconst (nx := 89) X d_Mo_breaksAlone_88 rfl ?_
            refine mk_goto (tgt := 93) X d_Mo_breaksAlone_89 (by decide) ?_
            exact hret _ _ _ _ d_Mo_breaksAlone_93 (by omega) (by exact ⟨rfl, by unfold brA hsk; omega⟩)
      · skip
        refine mk_iload (nx := 40) X 0 d_Mo_breaksAlone_38 rfl rfl ?_
        refine mk_aloadn (nx := 41) X 1 d_Mo_breaksAlone_40 rfl rfl ?_
        refine mk_get (nx := 44) (v := .int (zi (I 0 8))) X 0 (by decide) (mh_Mo cs ad _) rfl in_Mo 8 (by decide) wd_603 rfl rfl d_Mo_breaksAlone_41 rfl ?_
        rw [show I 0 8 = c 0 1 from i50]
        refine mk_icmp_lt (tgt := 56) (nx := 47) X d_Mo_breaksAlone_44 (by omega) (by omega) (by decide) rfl (fun c44 => ?_) (fun c44 => ?_)
        · skip
          refine mk_iconst (nx := 57) X d_Mo_breaksAlone_56 rfl ?_
          refine mk_goto (tgt := 61) X d_Mo_breaksAlone_57 (by decide) ?_
          exact hret _ _ _ _ d_Mo_breaksAlone_61 (by omega) (by exact ⟨rfl, by unfold brA hsk; omega⟩)
        · skip
          refine mk_iload (nx := 49) X 0 d_Mo_breaksAlone_47 rfl rfl ?_
          refine mk_aloadn (nx := 50) X 1 d_Mo_breaksAlone_49 rfl rfl ?_
          refine mk_get (nx := 53) (v := .int (zi (I 0 9))) X 0 (by decide) (mh_Mo cs ad _) rfl in_Mo 9 (by decide) wd_604 rfl rfl d_Mo_breaksAlone_50 rfl ?_
          rw [show I 0 9 = c 0 2 from i51]
          refine mk_icmp_le (tgt := 60) (nx := 56) X d_Mo_breaksAlone_53 (by omega) (by omega) (by decide) rfl (fun c53 => ?_) (fun c53 => ?_)
          · skip
            refine mk_iconst (nx := 61) X d_Mo_breaksAlone_60 rfl ?_
            exact hret _ _ _ _ d_Mo_breaksAlone_61 (by omega) (by exact ⟨rfl, by unfold brA hsk; omega⟩)
          · skip
            refine mk_iconst (nx := 57) X d_Mo_breaksAlone_56 rfl ?_
            refine mk_goto (tgt := 61) X d_Mo_breaksAlone_57 (by decide) ?_
            exact hret _ _ _ _ d_Mo_breaksAlone_61 (by omega) (by exact ⟨rfl, by unfold brA hsk; omega⟩)
    · skip
      refine mk_iconst (nx := 32) X d_Mo_breaksAlone_31 rfl ?_
      exact hret _ _ _ _ d_Mo_breaksAlone_32 (by omega) (by exact ⟨rfl, Or.inr ⟨rfl, by unfold brA hsk; omega⟩⟩)
end
