/-! MINI-KIT: an abstract machine over the kit's W. A world is a table of ints I (cell, slot), its cells at ad k with shape sh k (I k);
the first NW cells may be written. mk_A I lv pc st: 'from pc, with these ints, locals, stack, the machine comes to Q'. -/
abbrev Wo : Type := Nat → Nat → Int
def zi (x : Int) : Int32 := Int32.ofInt x
theorem zi_add (x y : Int) : zi x + zi y = zi (x + y) := (Int32.ofInt_add x y).symm
theorem zi_sub (x y : Int) : zi x - zi y = zi (x - y) := (Int32.ofInt_sub x y).symm
theorem zi_mul (x y : Int) : zi x * zi y = zi (x * y) := (Int32.ofInt_mul x y).symm
theorem zi_neg (x : Int) : - zi x = zi (-x) := (Int32.ofInt_neg x).symm
theorem zi_to {x : Int} (h : -2147483648 ≤ x ∧ x < 2147483648) : (zi x).toInt = x := Int32.toInt_ofInt_of_le (by have := h.1; simpa using this) (by have := h.2; simpa using this)
theorem zi_of (x : Int32) : zi x.toInt = x := Int32.ofInt_toInt x
theorem zi_rng (x : Int32) : -2147483648 ≤ x.toInt ∧ x.toInt < 2147483648 := ⟨by have := Int32.le_toInt x; simpa using this, by have := Int32.toInt_lt x; simpa using this⟩
theorem zi_lt {x y : Int} (hx : -2147483648 ≤ x ∧ x < 2147483648) (hy : -2147483648 ≤ y ∧ y < 2147483648) : zi x < zi y ↔ x < y := by rw [Int32.lt_iff_toInt_lt, zi_to hx, zi_to hy]
theorem zi_le {x y : Int} (hx : -2147483648 ≤ x ∧ x < 2147483648) (hy : -2147483648 ≤ y ∧ y < 2147483648) : zi x ≤ zi y ↔ x ≤ y := by rw [Int32.le_iff_toInt_le, zi_to hx, zi_to hy]
theorem zi_eq {x y : Int} (hx : -2147483648 ≤ x ∧ x < 2147483648) (hy : -2147483648 ≤ y ∧ y < 2147483648) : zi x = zi y ↔ x = y := by rw [← Int32.toInt_inj, zi_to hx, zi_to hy]
theorem zi_0 : (0 : Int32) = zi 0 := rfl
theorem zi_cl {x : Int} (hx : 0 ≤ x ∧ x < 2147483648) : (zi x).toNatClampNeg = x.toNat := by
  show (zi x).toInt.toNat = x.toNat
  rw [zi_to ⟨by omega, hx.2⟩]
theorem zi_in {x : Int} {n : Nat} (h0 : 0 ≤ x) (h1 : x < n) (hn : n < 2147483648) : vp_in (zi x) n := by
  have hz : -2147483648 ≤ x ∧ x < 2147483648 := by omega
  rintro (h | h)
  · rw [zi_0, zi_lt hz (by omega)] at h; omega
  · rw [zi_cl ⟨h0, hz.2⟩] at h; omega
/-- the bit operations and the remainders, as functions of ints -/
def ziand (x y : Int) : Int := (zi x &&& zi y).toInt
def zior (x y : Int) : Int := (zi x ||| zi y).toInt
def zixor (x y : Int) : Int := (zi x ^^^ zi y).toInt
def zishl (x y : Int) : Int := (zi x <<< (zi y &&& 31)).toInt
def zishr (x y : Int) : Int := (zi x >>> (zi y &&& 31)).toInt
def up1 (f : Nat → Int) (k : Nat) (x : Int) : Nat → Int := fun j => if j = k then x else f j
def up2 (I : Wo) (q k : Nat) (x : Int) : Wo := fun a => if a = q then up1 (I q) k x else I a
def upr (I : Wo) (q : Nat) (f : Nat → Int) : Wo := fun a => if a = q then f else I a
theorem up1_s (f : Nat → Int) (k : Nat) (x : Int) : up1 f k x k = x := if_pos rfl
theorem up1_n {f : Nat → Int} {k j : Nat} {x : Int} (h : j ≠ k) : up1 f k x j = f j := if_neg h
theorem up2_s (I : Wo) (q k : Nat) (x : Int) : up2 I q k x q = up1 (I q) k x := if_pos rfl
theorem up2_n {I : Wo} {q k a : Nat} {x : Int} (h : a ≠ q) : up2 I q k x a = I a := if_neg h
theorem upr_s (I : Wo) (q : Nat) (f : Nat → Int) : upr I q f q = f := if_pos rfl
theorem upr_n {I : Wo} {q a : Nat} {f : Nat → Int} (h : a ≠ q) : upr I q f a = I a := if_neg h
theorem zi_upd (f : Nat → Int) (k : Nat) (x : Int) : upd (fun j => zi (f j)) k (zi x) = fun j => zi (up1 f k x j) := by
  funext j
  unfold upd up1
  split <;> rfl
/-- the world's list of cells -/
def mk_wl (sh : Nat → (Nat → Int) → va_E) (NC : Nat) (ad : Nat → Nat) (I : Wo) : va_W := (List.range NC).map (fun k => (ad k, sh k (I k)))
def mk_in (NW : Nat) (ad : Nat → Nat) (q : Nat) : Prop := ∃ k, k < NW ∧ q = ad k
theorem mk_at {sh : Nat → (Nat → Int) → va_E} {NC : Nat} {ad : Nat → Nat} {I : Wo} {k : Nat} (hk : k < NC) : (mk_wl sh NC ad I)[k]? = some (ad k, sh k (I k)) := by
  unfold mk_wl
  rw [List.getElem?_map, List.getElem?_range hk]
  rfl
theorem mk_len {sh : Nat → (Nat → Int) → va_E} {NC : Nat} {ad : Nat → Nat} {I : Wo} : (mk_wl sh NC ad I).length = NC := by
  unfold mk_wl
  rw [List.length_map, List.length_range]
theorem mk_get? {sh : Nat → (Nat → Int) → va_E} {NC : Nat} {ad : Nat → Nat} {I : Wo} {k : Nat} {q : Nat × va_E} (h : (mk_wl sh NC ad I)[k]? = some q) : k < NC ∧ q = (ad k, sh k (I k)) := by
  have hk : k < NC := by have := (List.getElem?_eq_some_iff.mp h).1; rwa [mk_len] at this
  rw [mk_at hk] at h
  exact ⟨hk, (Option.some.inj h).symm⟩
theorem mk_set {sh : Nat → (Nat → Int) → va_E} {NC : Nat} {ad : Nat → Nat} {I : Wo} {q : Nat} {f : Nat → Int} {e : va_E} (he : sh q f = e) : (mk_wl sh NC ad I).set q (ad q, e) = mk_wl sh NC ad (upr I q f) := by
  apply List.ext_getElem?
  intro j
  by_cases hj : j < NC
  · rw [mk_at hj]
    by_cases h : j = q
    · subst h
      rw [List.getElem?_set_self (by rw [mk_len]; exact hj), upr_s, he]
    · rw [List.getElem?_set_ne (Ne.symm h), mk_at hj, upr_n h]
  · rw [List.getElem?_eq_none (by rw [List.length_set, mk_len]; omega), List.getElem?_eq_none (by rw [mk_len]; omega)]
theorem mk_D {sh : Nat → (Nat → Int) → va_E} {NC : Nat} {ad : Nat → Nat} {I : Wo} (hi : ∀ i j, i < NC → j < NC → ad i = ad j → i = j) : va_D (fun _ => True) (mk_wl sh NC ad I) :=
  ⟨fun i j p q hp hq h => by
    obtain ⟨h1, rfl⟩ := mk_get? hp
    obtain ⟨h2, rfl⟩ := mk_get? hq
    exact hi i j h1 h2 h, fun _ _ _ => trivial⟩
theorem up2_upr (I : Wo) (q k : Nat) (x : Int) : up2 I q k x = upr I q (up1 (I q) k x) := rfl
/-- static int arrays that nobody writes: (class, name, descriptor, address, length, contents), (own, pool entry, ref, host) of the one place that reads it -/
abbrev mk_Zt : Type := (String × String × String × Nat × Nat × (Nat → Int)) × (String × Nat × String × String)
def mk_Z1 (z : mk_Zt) (A : Nat → Prop) (U : State) (H : Heap) : Prop := va_Z z.1.1 z.1.2.1 z.1.2.2.1 (.ref z.1.2.2.2.1) A U H ∧ va_T .int z.1.2.2.2.1 z.1.2.2.2.2.1 (fun j => .int (zi (z.1.2.2.2.2.2 j))) A U H ∧ va_Nw (.fieldLinkNest z.2.1 z.2.2.1 z.2.2.2.1 z.1.2.1 z.1.2.2.1 z.2.2.2.2) U
def mk_Z (zs : List mk_Zt) (A : Nat → Prop) (U : State) (H : Heap) : Prop := ∀ z ∈ zs, mk_Z1 z A U H
theorem mk_Z.same {zs : List mk_Zt} {A : Nat → Prop} {u U : State} {H : Heap} (hvm : u.vm = U.vm) (h : mk_Z zs A u H) : mk_Z zs A U H := fun z hz => ⟨(h z hz).1.moved (hvm ▸ Vm.Alike.refl u.vm), (h z hz).2.1.moved (hvm ▸ Vm.Alike.refl u.vm), va_Nw.same rfl hvm (h z hz).2.2⟩
theorem mk_Z.warm {zs : List mk_Zt} {A : Nat → Prop} {u U : State} {H : Heap} (hW : u.WarmedH U.vm) (h : mk_Z zs A u H) : mk_Z zs A U H := fun z hz => ⟨(h z hz).1.moved hW.alike, (h z hz).2.1.moved hW.alike, va_Nw.warmF hW (h z hz).2.2⟩
theorem mk_Z.kept {zs : List mk_Zt} {A : Nat → Prop} {U : State} {H H1 : Heap} (h : mk_Z zs A U H) (hq : ∀ a : Nat, a < H.size → ¬ A a → H1[a]? = H[a]?) : mk_Z zs A U H1 := fun z hz => ⟨(h z hz).1.kept hq, (h z hz).2.1.kept hq, (h z hz).2.2⟩
/-- what a method's contract says: the ints I, the arguments As; Post of the answer and the ints behind -/
def mk_Q (D : va_G) (cl : List vw_C) (tys : List (ClassId × FieldType)) (sh : Nat → (Nat → Int) → va_E) (NC NW : Nat) (ad : Nat → Nat) (Post : Option Value → Wo → Prop) : Array Value → State → Outcome → State → Prop :=
  fun _ st oc t => ∃ (v : Option Value) (I' : Wo), oc = .returned v ∧ Post v I' ∧ va_P D cl (mk_wl sh NC ad I') t.heap ∧ va_K D cl tys t ∧ va_F (mk_in NW ad) st t
def mk_P (D : va_G) (cl : List vw_C) (tys : List (ClassId × FieldType)) (sh : Nat → (Nat → Int) → va_E) (NC NW : Nat) (ad : Nat → Nat) (zs : List mk_Zt) (As : List Value) (I : Wo) : Array Value → State → Prop :=
  va_Pc As (fun U => va_P D cl (mk_wl sh NC ad I) U.heap ∧ va_K D cl tys U ∧ mk_Z zs (mk_in NW ad) U U.heap)
def mk_C (l : Launch) (y : MethodName) (ws : List Cond) (rm : Room) (D : va_G) (cl : List vw_C) (tys : List (ClassId × FieldType)) (sh : Nat → (Nat → Int) → va_E) (NC NW : Nat) (ad : Nat → Nat) (zs : List mk_Zt) (As : List Value) (I : Wo) (Post : Option Value → Wo → Prop) : Prop :=
  Met l y ws rm (mk_P D cl tys sh NC NW ad zs As I) (mk_Q D cl tys sh NC NW ad Post) 0 0 (mk_in NW ad)
/-- what stays fixed through a method's walk -/
def mk_X (p : Program) (m : MethodId) (c : Code) (cc : ByteArray) (nL : Nat) (s : State) (args : Array Value) (Ts : List Cond) (own : String) (D : va_G) (cl : List vw_C) (tys : List (ClassId × FieldType)) (NC NW : Nat) (ad : Nat → Nat) (zs : List mk_Zt) : Prop :=
  CallFix p m c cc nL s args Ts own ∧ va_K D cl tys s ∧ (∀ i j, i < NC → j < NC → ad i = ad j → i = j) ∧ NW ≤ NC ∧ mk_Z zs (mk_in NW ad) s s.heap
def mk_A (p : Program) (l : Launch) (e : Env) (R : Room) (s : State) (m : MethodId) (args : Array Value) (below : List Frame) (meth : Method) (c : Code) (Q : State → Prop) (nL : Nat) (D : va_G) (cl : List vw_C) (sh : Nat → (Nat → Int) → va_E) (NC NW : Nat) (ad : Nat → Nat)
    (I : Wo) (lv : List (Nat × Value)) (pc : Nat) (st : List Value) : Prop :=
  ∀ (H : Heap) (locs : List Loc) (ls : Array Slot), va_P D cl (mk_wl sh NC ad I) H → va_S (mk_in NW ad) s.heap H locs → lv_has ls nL lv → W p l e R s m args below meth c H locs 0 0 Q (F0 m pc ls st)
section MK
variable {p : Program} {l : Launch} {e : Env} {R : Room} {s : State} {m : MethodId} {args : Array Value} {below : List Frame} {meth : Method} {c : Code} {Q : State → Prop}
variable {cc : ByteArray} {nL : Nat} {own : String} {Ts : List Cond} {D : va_G} {cl : List vw_C} {tys : List (ClassId × FieldType)} {sh : Nat → (Nat → Int) → va_E} {NC NW : Nat} {ad : Nat → Nat} {zs : List mk_Zt}
variable {I : Wo} {lv : List (Nat × Value)} {pc nx : Nat} {st : List Value}
/-- other ints, equal ones -/
theorem mk_same {I' : Wo} (h : I = I') (kk : mk_A p l e R s m args below meth c Q nL D cl sh NC NW ad I' lv pc st) : mk_A p l e R s m args below meth c Q nL D cl sh NC NW ad I lv pc st := h ▸ kk
/-- fewer locals, in another order -/
theorem mk_lv {lv' : List (Nat × Value)} (ks : List Nat) (h : lv_pick lv ks = lv') (kk : mk_A p l e R s m args below meth c Q nL D cl sh NC NW ad I lv' pc st) : mk_A p l e R s m args below meth c Q nL D cl sh NC NW ad I lv pc st := fun H locs ls hP hS hl => kk H locs ls hP hS (lv_sub hl ks h)
theorem mk_iconst (X : mk_X p m c cc nL s args Ts own D cl tys NC NW ad zs) {n : Int} (hd : decode cc pc = .ok (.iconst n, 1)) (hn : pc + 1 = nx) (kk : mk_A p l e R s m args below meth c Q nL D cl sh NC NW ad I lv nx (.int (zi n) :: st)) : mk_A p l e R s m args below meth c Q nL D cl sh NC NW ad I lv pc st := by
  subst hn; exact fun H locs ls hP hS hl => lv_iconst X.1.1 X.1.2.1 hd rfl (kk H locs ls hP hS hl)
theorem mk_bipush (X : mk_X p m c cc nL s args Ts own D cl tys NC NW ad zs) {n : Int} (hd : decode cc pc = .ok (.bipush n, 2)) (hv : (Int8.ofInt n).toInt32 = zi n) (hn : pc + 2 = nx) (kk : mk_A p l e R s m args below meth c Q nL D cl sh NC NW ad I lv nx (.int (zi n) :: st)) : mk_A p l e R s m args below meth c Q nL D cl sh NC NW ad I lv pc st := by
  subst hn; exact fun H locs ls hP hS hl => lv_bipush X.1.1 X.1.2.1 hd hv (kk H locs ls hP hS hl)
theorem mk_sipush (X : mk_X p m c cc nL s args Ts own D cl tys NC NW ad zs) {n : Int} (hd : decode cc pc = .ok (.sipush n, 3)) (hv : (Int16.ofInt n).toInt32 = zi n) (hn : pc + 3 = nx) (kk : mk_A p l e R s m args below meth c Q nL D cl sh NC NW ad I lv nx (.int (zi n) :: st)) : mk_A p l e R s m args below meth c Q nL D cl sh NC NW ad I lv pc st := by
  subst hn; exact fun H locs ls hP hS hl => lv_sipush X.1.1 X.1.2.1 hd hv (kk H locs ls hP hS hl)
theorem mk_ldc (X : mk_X p m c cc nL s args Ts own D cl tys NC NW ad zs) {n : Int} {v : Int32} {index : Nat} (hd : decode cc pc = .ok (.ldc index, 2)) (hc : Cond.constant own index v ∈ Ts) (hv : v = zi n) (hn : pc + 2 = nx) (kk : mk_A p l e R s m args below meth c Q nL D cl sh NC NW ad I lv nx (.int (zi n) :: st)) : mk_A p l e R s m args below meth c Q nL D cl sh NC NW ad I lv pc st := by
  subst hn; subst hv; exact fun H locs ls hP hS hl => lv_ldc X.1.1 X.1.2.1 X.1.2.2.2.1 (X.1.2.2.2.2 _ hc) hd (kk H locs ls hP hS hl)
theorem mk_iloadn (X : mk_X p m c cc nL s args Ts own D cl tys NC NW ad zs) {k : Fin 4} {x : Int32} (j : Nat) (hd : decode cc pc = .ok (.iload_n k, 1)) (hk : lv[j]? = some ((k : Nat), .int x)) (hn : pc + 1 = nx) (kk : mk_A p l e R s m args below meth c Q nL D cl sh NC NW ad I lv nx (.int x :: st)) : mk_A p l e R s m args below meth c Q nL D cl sh NC NW ad I lv pc st := by
  subst hn; exact fun H locs ls hP hS hl => lv_iload_n X.1.1 X.1.2.1 hd rfl (lv_at hl j hk) (kk H locs ls hP hS hl)
theorem mk_iload (X : mk_X p m c cc nL s args Ts own D cl tys NC NW ad zs) {k : Nat} {x : Int32} (j : Nat) (hd : decode cc pc = .ok (.iload k, 2)) (hk : lv[j]? = some (k, .int x)) (hn : pc + 2 = nx) (kk : mk_A p l e R s m args below meth c Q nL D cl sh NC NW ad I lv nx (.int x :: st)) : mk_A p l e R s m args below meth c Q nL D cl sh NC NW ad I lv pc st := by
  subst hn; exact fun H locs ls hP hS hl => lv_iload X.1.1 X.1.2.1 hd (lv_at hl j hk) (kk H locs ls hP hS hl)
theorem mk_aloadn (X : mk_X p m c cc nL s args Ts own D cl tys NC NW ad zs) {k : Fin 4} {x : Nat} (j : Nat) (hd : decode cc pc = .ok (.aload_n k, 1)) (hk : lv[j]? = some ((k : Nat), .ref x)) (hn : pc + 1 = nx) (kk : mk_A p l e R s m args below meth c Q nL D cl sh NC NW ad I lv nx (.ref x :: st)) : mk_A p l e R s m args below meth c Q nL D cl sh NC NW ad I lv pc st := by
  subst hn; exact fun H locs ls hP hS hl => lv_aload_n X.1.1 X.1.2.1 hd rfl (lv_at hl j hk) (kk H locs ls hP hS hl)
theorem mk_aload (X : mk_X p m c cc nL s args Ts own D cl tys NC NW ad zs) {k : Nat} {x : Nat} (j : Nat) (hd : decode cc pc = .ok (.aload k, 2)) (hk : lv[j]? = some (k, .ref x)) (hn : pc + 2 = nx) (kk : mk_A p l e R s m args below meth c Q nL D cl sh NC NW ad I lv nx (.ref x :: st)) : mk_A p l e R s m args below meth c Q nL D cl sh NC NW ad I lv pc st := by
  subst hn; exact fun H locs ls hP hS hl => lv_aload X.1.1 X.1.2.1 hd (lv_at hl j hk) (kk H locs ls hP hS hl)
/-- the locals behind a store of one slot -/
abbrev mk_put (lv : List (Nat × Value)) (i : Nat) (v : Value) : List (Nat × Value) := (i, v) :: lv.filter (fun q => !(q.1 == i) && !(q.1 + 1 == i && q.2.category == 2))
theorem mk_istoren (X : mk_X p m c cc nL s args Ts own D cl tys NC NW ad zs) {k : Fin 4} {x : Int32} (lv' : List (Nat × Value)) (hd : decode cc pc = .ok (.istore_n k, 1)) (hi : (k : Nat) < nL) (hl' : mk_put lv k (.int x) = lv') (hn : pc + 1 = nx) (kk : mk_A p l e R s m args below meth c Q nL D cl sh NC NW ad I lv' nx st) : mk_A p l e R s m args below meth c Q nL D cl sh NC NW ad I lv pc (.int x :: st) := by
  subst hn; exact fun H locs ls hP hS hl => lv_istore_n X.1.1 X.1.2.1 hd rfl hl hi hl' (fun ls' hl2 => kk H locs ls' hP hS hl2)
theorem mk_istore (X : mk_X p m c cc nL s args Ts own D cl tys NC NW ad zs) {k : Nat} {x : Int32} (lv' : List (Nat × Value)) (hd : decode cc pc = .ok (.istore k, 2)) (hi : k < nL) (hl' : mk_put lv k (.int x) = lv') (hn : pc + 2 = nx) (kk : mk_A p l e R s m args below meth c Q nL D cl sh NC NW ad I lv' nx st) : mk_A p l e R s m args below meth c Q nL D cl sh NC NW ad I lv pc (.int x :: st) := by
  subst hn; exact fun H locs ls hP hS hl => lv_istore X.1.1 X.1.2.1 hd hl hi hl' (fun ls' hl2 => kk H locs ls' hP hS hl2)
theorem mk_astoren (X : mk_X p m c cc nL s args Ts own D cl tys NC NW ad zs) {k : Fin 4} {x : Nat} (lv' : List (Nat × Value)) (hd : decode cc pc = .ok (.astore_n k, 1)) (hi : (k : Nat) < nL) (hl' : mk_put lv k (.ref x) = lv') (hn : pc + 1 = nx) (kk : mk_A p l e R s m args below meth c Q nL D cl sh NC NW ad I lv' nx st) : mk_A p l e R s m args below meth c Q nL D cl sh NC NW ad I lv pc (.ref x :: st) := by
  subst hn; exact fun H locs ls hP hS hl => lv_astore_n X.1.1 X.1.2.1 hd rfl hl hi hl' (fun ls' hl2 => kk H locs ls' hP hS hl2)
theorem mk_astore (X : mk_X p m c cc nL s args Ts own D cl tys NC NW ad zs) {k : Nat} {x : Nat} (lv' : List (Nat × Value)) (hd : decode cc pc = .ok (.astore k, 2)) (hi : k < nL) (hl' : mk_put lv k (.ref x) = lv') (hn : pc + 2 = nx) (kk : mk_A p l e R s m args below meth c Q nL D cl sh NC NW ad I lv' nx st) : mk_A p l e R s m args below meth c Q nL D cl sh NC NW ad I lv pc (.ref x :: st) := by
  subst hn; exact fun H locs ls hP hS hl => lv_astore X.1.1 X.1.2.1 hd hl hi hl' (fun ls' hl2 => kk H locs ls' hP hS hl2)
theorem mk_iinc (X : mk_X p m c cc nL s args Ts own D cl tys NC NW ad zs) {k : Nat} {n x : Int} (j : Nat) (lv' : List (Nat × Value)) (hd : decode cc pc = .ok (.iinc k n, 3)) (hk : lv[j]? = some (k, .int (zi x))) (hi : k < nL) (hl' : mk_put lv k (.int (zi (x + n))) = lv') (hn : pc + 3 = nx) (kk : mk_A p l e R s m args below meth c Q nL D cl sh NC NW ad I lv' nx st) : mk_A p l e R s m args below meth c Q nL D cl sh NC NW ad I lv pc st := by
  subst hn; exact fun H locs ls hP hS hl => lv_iinc (v := zi (x + n)) (k := j) X.1.1 X.1.2.1 hd hl hk (zi_add x n) hi hl' (fun ls' hl2 => kk H locs ls' hP hS hl2)
theorem mk_iadd (X : mk_X p m c cc nL s args Ts own D cl tys NC NW ad zs) {x y : Int} (hd : decode cc pc = .ok (.iadd, 1)) (hn : pc + 1 = nx) (kk : mk_A p l e R s m args below meth c Q nL D cl sh NC NW ad I lv nx (.int (zi (x + y)) :: st)) : mk_A p l e R s m args below meth c Q nL D cl sh NC NW ad I lv pc (.int (zi y) :: .int (zi x) :: st) := by
  subst hn; exact fun H locs ls hP hS hl => lv_iadd X.1.1 X.1.2.1 hd (by rw [zi_add]; exact kk H locs ls hP hS hl)
theorem mk_isub (X : mk_X p m c cc nL s args Ts own D cl tys NC NW ad zs) {x y : Int} (hd : decode cc pc = .ok (.isub, 1)) (hn : pc + 1 = nx) (kk : mk_A p l e R s m args below meth c Q nL D cl sh NC NW ad I lv nx (.int (zi (x - y)) :: st)) : mk_A p l e R s m args below meth c Q nL D cl sh NC NW ad I lv pc (.int (zi y) :: .int (zi x) :: st) := by
  subst hn; exact fun H locs ls hP hS hl => lv_isub X.1.1 X.1.2.1 hd (by rw [zi_sub]; exact kk H locs ls hP hS hl)
theorem mk_imul (X : mk_X p m c cc nL s args Ts own D cl tys NC NW ad zs) {x y : Int} (hd : decode cc pc = .ok (.imul, 1)) (hn : pc + 1 = nx) (kk : mk_A p l e R s m args below meth c Q nL D cl sh NC NW ad I lv nx (.int (zi (x * y)) :: st)) : mk_A p l e R s m args below meth c Q nL D cl sh NC NW ad I lv pc (.int (zi y) :: .int (zi x) :: st) := by
  subst hn; exact fun H locs ls hP hS hl => lv_imul X.1.1 X.1.2.1 hd (by rw [zi_mul]; exact kk H locs ls hP hS hl)
theorem mk_ineg (X : mk_X p m c cc nL s args Ts own D cl tys NC NW ad zs) {x : Int} (hd : decode cc pc = .ok (.ineg, 1)) (hn : pc + 1 = nx) (kk : mk_A p l e R s m args below meth c Q nL D cl sh NC NW ad I lv nx (.int (zi (-x)) :: st)) : mk_A p l e R s m args below meth c Q nL D cl sh NC NW ad I lv pc (.int (zi x) :: st) := by
  subst hn; exact fun H locs ls hP hS hl => lv_ineg X.1.1 X.1.2.1 hd (by rw [zi_neg]; exact kk H locs ls hP hS hl)
theorem mk_iand (X : mk_X p m c cc nL s args Ts own D cl tys NC NW ad zs) {x y : Int} (hd : decode cc pc = .ok (.iand, 1)) (hn : pc + 1 = nx) (kk : mk_A p l e R s m args below meth c Q nL D cl sh NC NW ad I lv nx (.int (zi (ziand x y)) :: st)) : mk_A p l e R s m args below meth c Q nL D cl sh NC NW ad I lv pc (.int (zi y) :: .int (zi x) :: st) := by
  subst hn; exact fun H locs ls hP hS hl => lv_iand X.1.1 X.1.2.1 hd (by have h := kk H locs ls hP hS hl; rwa [ziand, zi_of] at h)
theorem mk_ior (X : mk_X p m c cc nL s args Ts own D cl tys NC NW ad zs) {x y : Int} (hd : decode cc pc = .ok (.ior, 1)) (hn : pc + 1 = nx) (kk : mk_A p l e R s m args below meth c Q nL D cl sh NC NW ad I lv nx (.int (zi (zior x y)) :: st)) : mk_A p l e R s m args below meth c Q nL D cl sh NC NW ad I lv pc (.int (zi y) :: .int (zi x) :: st) := by
  subst hn; exact fun H locs ls hP hS hl => lv_ior X.1.1 X.1.2.1 hd (by have h := kk H locs ls hP hS hl; rwa [zior, zi_of] at h)
theorem mk_ishl (X : mk_X p m c cc nL s args Ts own D cl tys NC NW ad zs) {x y : Int} (hd : decode cc pc = .ok (.ishl, 1)) (hn : pc + 1 = nx) (kk : mk_A p l e R s m args below meth c Q nL D cl sh NC NW ad I lv nx (.int (zi (zishl x y)) :: st)) : mk_A p l e R s m args below meth c Q nL D cl sh NC NW ad I lv pc (.int (zi y) :: .int (zi x) :: st) := by
  subst hn; exact fun H locs ls hP hS hl => lv_ishl X.1.1 X.1.2.1 hd (by have h := kk H locs ls hP hS hl; rwa [zishl, zi_of] at h)
theorem mk_ishr (X : mk_X p m c cc nL s args Ts own D cl tys NC NW ad zs) {x y : Int} (hd : decode cc pc = .ok (.ishr, 1)) (hn : pc + 1 = nx) (kk : mk_A p l e R s m args below meth c Q nL D cl sh NC NW ad I lv nx (.int (zi (zishr x y)) :: st)) : mk_A p l e R s m args below meth c Q nL D cl sh NC NW ad I lv pc (.int (zi y) :: .int (zi x) :: st) := by
  subst hn; exact fun H locs ls hP hS hl => lv_ishr X.1.1 X.1.2.1 hd (by have h := kk H locs ls hP hS hl; rwa [zishr, zi_of] at h)
theorem mk_dup (X : mk_X p m c cc nL s args Ts own D cl tys NC NW ad zs) {v : Value} (hd : decode cc pc = .ok (.dup, 1)) (hv : v.category = 1) (hn : pc + 1 = nx) (kk : mk_A p l e R s m args below meth c Q nL D cl sh NC NW ad I lv nx (v :: v :: st)) : mk_A p l e R s m args below meth c Q nL D cl sh NC NW ad I lv pc (v :: st) := by
  subst hn; exact fun H locs ls hP hS hl => lv_dup X.1.1 X.1.2.1 hd hv (kk H locs ls hP hS hl)
theorem mk_pop (X : mk_X p m c cc nL s args Ts own D cl tys NC NW ad zs) {v : Value} (hd : decode cc pc = .ok (.pop, 1)) (hv : v.category = 1) (hn : pc + 1 = nx) (kk : mk_A p l e R s m args below meth c Q nL D cl sh NC NW ad I lv nx st) : mk_A p l e R s m args below meth c Q nL D cl sh NC NW ad I lv pc (v :: st) := by
  subst hn; exact fun H locs ls hP hS hl => lv_pop X.1.1 X.1.2.1 hd hv (kk H locs ls hP hS hl)
theorem mk_goto (X : mk_X p m c cc nL s args Ts own D cl tys NC NW ad zs) {off : Int} {tgt : Nat} (hd : decode cc pc = .ok (.goto off, 3)) (ht : (pc : Int) + off = (tgt : Int)) (kk : mk_A p l e R s m args below meth c Q nL D cl sh NC NW ad I lv tgt st) : mk_A p l e R s m args below meth c Q nL D cl sh NC NW ad I lv pc st :=
  fun H locs ls hP hS hl => lv_goto X.1.1 X.1.2.1 hd ht (kk H locs ls hP hS hl)
theorem mk_icmp_eq (X : mk_X p m c cc nL s args Ts own D cl tys NC NW ad zs) {x y off : Int} {tgt : Nat} (hd : decode cc pc = .ok (.if_icmp .eq off, 3)) (hx : (-2147483648 ≤ x ∧ x < 2147483648)) (hy : (-2147483648 ≤ y ∧ y < 2147483648)) (ht : (pc : Int) + off = (tgt : Int)) (hn : pc + 3 = nx) (kt : x = y → mk_A p l e R s m args below meth c Q nL D cl sh NC NW ad I lv tgt st) (kf : ¬ x = y → mk_A p l e R s m args below meth c Q nL D cl sh NC NW ad I lv nx st) : mk_A p l e R s m args below meth c Q nL D cl sh NC NW ad I lv pc (.int (zi y) :: .int (zi x) :: st) := by
  subst hn; exact fun H locs ls hP hS hl => lv_icmp_eq X.1.1 X.1.2.1 hd ht (fun h => (fun h => kt ((zi_eq hx hy).mp h)) h H locs ls hP hS hl) (fun h => (fun h => kf (fun q => h ((zi_eq hx hy).mpr q))) h H locs ls hP hS hl)
theorem mk_if_eq (X : mk_X p m c cc nL s args Ts own D cl tys NC NW ad zs) {x off : Int} {tgt : Nat} (hd : decode cc pc = .ok (.ifCond .eq off, 3)) (hx : (-2147483648 ≤ x ∧ x < 2147483648)) (ht : (pc : Int) + off = (tgt : Int)) (hn : pc + 3 = nx) (kt : x = 0 → mk_A p l e R s m args below meth c Q nL D cl sh NC NW ad I lv tgt st) (kf : ¬ x = 0 → mk_A p l e R s m args below meth c Q nL D cl sh NC NW ad I lv nx st) : mk_A p l e R s m args below meth c Q nL D cl sh NC NW ad I lv pc (.int (zi x) :: st) := by
  subst hn; exact fun H locs ls hP hS hl => lv_if_eq X.1.1 X.1.2.1 hd ht (fun h => (fun h => kt ((zi_eq hx (by decide)).mp h)) h H locs ls hP hS hl) (fun h => (fun h => kf (fun q => h ((zi_eq hx (by decide)).mpr q))) h H locs ls hP hS hl)
theorem mk_icmp_ne (X : mk_X p m c cc nL s args Ts own D cl tys NC NW ad zs) {x y off : Int} {tgt : Nat} (hd : decode cc pc = .ok (.if_icmp .ne off, 3)) (hx : (-2147483648 ≤ x ∧ x < 2147483648)) (hy : (-2147483648 ≤ y ∧ y < 2147483648)) (ht : (pc : Int) + off = (tgt : Int)) (hn : pc + 3 = nx) (kt : ¬ x = y → mk_A p l e R s m args below meth c Q nL D cl sh NC NW ad I lv tgt st) (kf : x = y → mk_A p l e R s m args below meth c Q nL D cl sh NC NW ad I lv nx st) : mk_A p l e R s m args below meth c Q nL D cl sh NC NW ad I lv pc (.int (zi y) :: .int (zi x) :: st) := by
  subst hn; exact fun H locs ls hP hS hl => lv_icmp_ne X.1.1 X.1.2.1 hd ht (fun h => (fun h => kt (fun q => h ((zi_eq hx hy).mpr q))) h H locs ls hP hS hl) (fun h => (fun h => kf ((zi_eq hx hy).mp h)) h H locs ls hP hS hl)
theorem mk_if_ne (X : mk_X p m c cc nL s args Ts own D cl tys NC NW ad zs) {x off : Int} {tgt : Nat} (hd : decode cc pc = .ok (.ifCond .ne off, 3)) (hx : (-2147483648 ≤ x ∧ x < 2147483648)) (ht : (pc : Int) + off = (tgt : Int)) (hn : pc + 3 = nx) (kt : ¬ x = 0 → mk_A p l e R s m args below meth c Q nL D cl sh NC NW ad I lv tgt st) (kf : x = 0 → mk_A p l e R s m args below meth c Q nL D cl sh NC NW ad I lv nx st) : mk_A p l e R s m args below meth c Q nL D cl sh NC NW ad I lv pc (.int (zi x) :: st) := by
  subst hn; exact fun H locs ls hP hS hl => lv_if_ne X.1.1 X.1.2.1 hd ht (fun h => (fun h => kt (fun q => h ((zi_eq hx (by decide)).mpr q))) h H locs ls hP hS hl) (fun h => (fun h => kf ((zi_eq hx (by decide)).mp h)) h H locs ls hP hS hl)
theorem mk_icmp_lt (X : mk_X p m c cc nL s args Ts own D cl tys NC NW ad zs) {x y off : Int} {tgt : Nat} (hd : decode cc pc = .ok (.if_icmp .lt off, 3)) (hx : (-2147483648 ≤ x ∧ x < 2147483648)) (hy : (-2147483648 ≤ y ∧ y < 2147483648)) (ht : (pc : Int) + off = (tgt : Int)) (hn : pc + 3 = nx) (kt : x < y → mk_A p l e R s m args below meth c Q nL D cl sh NC NW ad I lv tgt st) (kf : ¬ x < y → mk_A p l e R s m args below meth c Q nL D cl sh NC NW ad I lv nx st) : mk_A p l e R s m args below meth c Q nL D cl sh NC NW ad I lv pc (.int (zi y) :: .int (zi x) :: st) := by
  subst hn; exact fun H locs ls hP hS hl => lv_icmp_lt X.1.1 X.1.2.1 hd ht (fun h => (fun h => kt ((zi_lt hx hy).mp h)) h H locs ls hP hS hl) (fun h => (fun h => kf (fun q => h ((zi_lt hx hy).mpr q))) h H locs ls hP hS hl)
theorem mk_if_lt (X : mk_X p m c cc nL s args Ts own D cl tys NC NW ad zs) {x off : Int} {tgt : Nat} (hd : decode cc pc = .ok (.ifCond .lt off, 3)) (hx : (-2147483648 ≤ x ∧ x < 2147483648)) (ht : (pc : Int) + off = (tgt : Int)) (hn : pc + 3 = nx) (kt : x < 0 → mk_A p l e R s m args below meth c Q nL D cl sh NC NW ad I lv tgt st) (kf : ¬ x < 0 → mk_A p l e R s m args below meth c Q nL D cl sh NC NW ad I lv nx st) : mk_A p l e R s m args below meth c Q nL D cl sh NC NW ad I lv pc (.int (zi x) :: st) := by
  subst hn; exact fun H locs ls hP hS hl => lv_if_lt X.1.1 X.1.2.1 hd ht (fun h => (fun h => kt ((zi_lt hx (by decide)).mp h)) h H locs ls hP hS hl) (fun h => (fun h => kf (fun q => h ((zi_lt hx (by decide)).mpr q))) h H locs ls hP hS hl)
theorem mk_icmp_ge (X : mk_X p m c cc nL s args Ts own D cl tys NC NW ad zs) {x y off : Int} {tgt : Nat} (hd : decode cc pc = .ok (.if_icmp .ge off, 3)) (hx : (-2147483648 ≤ x ∧ x < 2147483648)) (hy : (-2147483648 ≤ y ∧ y < 2147483648)) (ht : (pc : Int) + off = (tgt : Int)) (hn : pc + 3 = nx) (kt : y ≤ x → mk_A p l e R s m args below meth c Q nL D cl sh NC NW ad I lv tgt st) (kf : ¬ y ≤ x → mk_A p l e R s m args below meth c Q nL D cl sh NC NW ad I lv nx st) : mk_A p l e R s m args below meth c Q nL D cl sh NC NW ad I lv pc (.int (zi y) :: .int (zi x) :: st) := by
  subst hn; exact fun H locs ls hP hS hl => lv_icmp_ge X.1.1 X.1.2.1 hd ht (fun h => (fun h => kt ((zi_le hy hx).mp h)) h H locs ls hP hS hl) (fun h => (fun h => kf (fun q => h ((zi_le hy hx).mpr q))) h H locs ls hP hS hl)
theorem mk_if_ge (X : mk_X p m c cc nL s args Ts own D cl tys NC NW ad zs) {x off : Int} {tgt : Nat} (hd : decode cc pc = .ok (.ifCond .ge off, 3)) (hx : (-2147483648 ≤ x ∧ x < 2147483648)) (ht : (pc : Int) + off = (tgt : Int)) (hn : pc + 3 = nx) (kt : 0 ≤ x → mk_A p l e R s m args below meth c Q nL D cl sh NC NW ad I lv tgt st) (kf : ¬ 0 ≤ x → mk_A p l e R s m args below meth c Q nL D cl sh NC NW ad I lv nx st) : mk_A p l e R s m args below meth c Q nL D cl sh NC NW ad I lv pc (.int (zi x) :: st) := by
  subst hn; exact fun H locs ls hP hS hl => lv_if_ge X.1.1 X.1.2.1 hd ht (fun h => (fun h => kt ((zi_le (by decide) hx).mp h)) h H locs ls hP hS hl) (fun h => (fun h => kf (fun q => h ((zi_le (by decide) hx).mpr q))) h H locs ls hP hS hl)
theorem mk_icmp_gt (X : mk_X p m c cc nL s args Ts own D cl tys NC NW ad zs) {x y off : Int} {tgt : Nat} (hd : decode cc pc = .ok (.if_icmp .gt off, 3)) (hx : (-2147483648 ≤ x ∧ x < 2147483648)) (hy : (-2147483648 ≤ y ∧ y < 2147483648)) (ht : (pc : Int) + off = (tgt : Int)) (hn : pc + 3 = nx) (kt : y < x → mk_A p l e R s m args below meth c Q nL D cl sh NC NW ad I lv tgt st) (kf : ¬ y < x → mk_A p l e R s m args below meth c Q nL D cl sh NC NW ad I lv nx st) : mk_A p l e R s m args below meth c Q nL D cl sh NC NW ad I lv pc (.int (zi y) :: .int (zi x) :: st) := by
  subst hn; exact fun H locs ls hP hS hl => lv_icmp_gt X.1.1 X.1.2.1 hd ht (fun h => (fun h => kt ((zi_lt hy hx).mp h)) h H locs ls hP hS hl) (fun h => (fun h => kf (fun q => h ((zi_lt hy hx).mpr q))) h H locs ls hP hS hl)
theorem mk_if_gt (X : mk_X p m c cc nL s args Ts own D cl tys NC NW ad zs) {x off : Int} {tgt : Nat} (hd : decode cc pc = .ok (.ifCond .gt off, 3)) (hx : (-2147483648 ≤ x ∧ x < 2147483648)) (ht : (pc : Int) + off = (tgt : Int)) (hn : pc + 3 = nx) (kt : 0 < x → mk_A p l e R s m args below meth c Q nL D cl sh NC NW ad I lv tgt st) (kf : ¬ 0 < x → mk_A p l e R s m args below meth c Q nL D cl sh NC NW ad I lv nx st) : mk_A p l e R s m args below meth c Q nL D cl sh NC NW ad I lv pc (.int (zi x) :: st) := by
  subst hn; exact fun H locs ls hP hS hl => lv_if_gt X.1.1 X.1.2.1 hd ht (fun h => (fun h => kt ((zi_lt (by decide) hx).mp h)) h H locs ls hP hS hl) (fun h => (fun h => kf (fun q => h ((zi_lt (by decide) hx).mpr q))) h H locs ls hP hS hl)
theorem mk_icmp_le (X : mk_X p m c cc nL s args Ts own D cl tys NC NW ad zs) {x y off : Int} {tgt : Nat} (hd : decode cc pc = .ok (.if_icmp .le off, 3)) (hx : (-2147483648 ≤ x ∧ x < 2147483648)) (hy : (-2147483648 ≤ y ∧ y < 2147483648)) (ht : (pc : Int) + off = (tgt : Int)) (hn : pc + 3 = nx) (kt : x ≤ y → mk_A p l e R s m args below meth c Q nL D cl sh NC NW ad I lv tgt st) (kf : ¬ x ≤ y → mk_A p l e R s m args below meth c Q nL D cl sh NC NW ad I lv nx st) : mk_A p l e R s m args below meth c Q nL D cl sh NC NW ad I lv pc (.int (zi y) :: .int (zi x) :: st) := by
  subst hn; exact fun H locs ls hP hS hl => lv_icmp_le X.1.1 X.1.2.1 hd ht (fun h => (fun h => kt ((zi_le hx hy).mp h)) h H locs ls hP hS hl) (fun h => (fun h => kf (fun q => h ((zi_le hx hy).mpr q))) h H locs ls hP hS hl)
theorem mk_if_le (X : mk_X p m c cc nL s args Ts own D cl tys NC NW ad zs) {x off : Int} {tgt : Nat} (hd : decode cc pc = .ok (.ifCond .le off, 3)) (hx : (-2147483648 ≤ x ∧ x < 2147483648)) (ht : (pc : Int) + off = (tgt : Int)) (hn : pc + 3 = nx) (kt : x ≤ 0 → mk_A p l e R s m args below meth c Q nL D cl sh NC NW ad I lv tgt st) (kf : ¬ x ≤ 0 → mk_A p l e R s m args below meth c Q nL D cl sh NC NW ad I lv nx st) : mk_A p l e R s m args below meth c Q nL D cl sh NC NW ad I lv pc (.int (zi x) :: st) := by
  subst hn; exact fun H locs ls hP hS hl => lv_if_le X.1.1 X.1.2.1 hd ht (fun h => (fun h => kt ((zi_le hx (by decide)).mp h)) h H locs ls hP hS hl) (fun h => (fun h => kf (fun q => h ((zi_le hx (by decide)).mpr q))) h H locs ls hP hS hl)
theorem zi_div {x y : Int} (hx : (-2147483648 ≤ x ∧ x < 2147483648)) (hy : (-2147483648 ≤ y ∧ y < 2147483648)) : zi x / zi y = zi (x.tdiv y) := by
  have e1 : Int32.minValue.toInt = -2147483648 := by decide
  have e2 : Int32.maxValue.toInt = 2147483647 := by decide
  exact (Int32.ofInt_tdiv (by omega) (by omega) (by omega) (by omega)).symm
theorem zi_rem {x y : Int} (hx : (-2147483648 ≤ x ∧ x < 2147483648)) (hy : (-2147483648 ≤ y ∧ y < 2147483648)) : zi x - zi x / zi y * zi y = zi (x.tmod y) := by
  rw [zi_div hx hy, zi_mul, zi_sub, Int.tmod_def, Int.mul_comm]
theorem mk_idiv (X : mk_X p m c cc nL s args Ts own D cl tys NC NW ad zs) {x y : Int} (hd : decode cc pc = .ok (.idiv, 1)) (hx : (-2147483648 ≤ x ∧ x < 2147483648)) (hy : (-2147483648 ≤ y ∧ y < 2147483648)) (h0 : ¬ y = 0) (hn : pc + 1 = nx) (kk : mk_A p l e R s m args below meth c Q nL D cl sh NC NW ad I lv nx (.int (zi (x.tdiv y)) :: st)) : mk_A p l e R s m args below meth c Q nL D cl sh NC NW ad I lv pc (.int (zi y) :: .int (zi x) :: st) := by
  subst hn; exact fun H locs ls hP hS hl => lv_idiv X.1.1 X.1.2.1 hd (fun h => h0 ((zi_eq hy (by decide)).mp h)) (by rw [zi_div hx hy]; exact kk H locs ls hP hS hl)
theorem mk_irem (X : mk_X p m c cc nL s args Ts own D cl tys NC NW ad zs) {x y : Int} (hd : decode cc pc = .ok (.irem, 1)) (hx : (-2147483648 ≤ x ∧ x < 2147483648)) (hy : (-2147483648 ≤ y ∧ y < 2147483648)) (h0 : ¬ y = 0) (hn : pc + 1 = nx) (kk : mk_A p l e R s m args below meth c Q nL D cl sh NC NW ad I lv nx (.int (zi (x.tmod y)) :: st)) : mk_A p l e R s m args below meth c Q nL D cl sh NC NW ad I lv pc (.int (zi y) :: .int (zi x) :: st) := by
  subst hn; exact fun H locs ls hP hS hl => lv_irem X.1.1 X.1.2.1 hd (fun h => h0 ((zi_eq hy (by decide)).mp h)) (by rw [zi_rem hx hy]; exact kk H locs ls hP hS hl)
theorem mk_dupx1 (X : mk_X p m c cc nL s args Ts own D cl tys NC NW ad zs) {v w : Value} (hd : decode cc pc = .ok (.dup_x1, 1)) (hv : v.category = 1) (hw : w.category = 1) (hn : pc + 1 = nx) (kk : mk_A p l e R s m args below meth c Q nL D cl sh NC NW ad I lv nx (v :: w :: v :: st)) : mk_A p l e R s m args below meth c Q nL D cl sh NC NW ad I lv pc (v :: w :: st) := by
  subst hn; exact fun H locs ls hP hS hl => lv_dup_x1 X.1.1 X.1.2.1 hd hv hw (kk H locs ls hP hS hl)
theorem mk_dup2 (X : mk_X p m c cc nL s args Ts own D cl tys NC NW ad zs) {v w : Value} (hd : decode cc pc = .ok (.dup2, 1)) (hv : v.category = 1) (hw : w.category = 1) (hn : pc + 1 = nx) (kk : mk_A p l e R s m args below meth c Q nL D cl sh NC NW ad I lv nx (v :: w :: v :: w :: st)) : mk_A p l e R s m args below meth c Q nL D cl sh NC NW ad I lv pc (v :: w :: st) := by
  subst hn; exact fun H locs ls hP hS hl => lv_dup2_11 X.1.1 X.1.2.1 hd hv hw (kk H locs ls hP hS hl)
theorem mk_ixor (X : mk_X p m c cc nL s args Ts own D cl tys NC NW ad zs) {x y : Int} (hd : decode cc pc = .ok (.ixor, 1)) (hn : pc + 1 = nx) (kk : mk_A p l e R s m args below meth c Q nL D cl sh NC NW ad I lv nx (.int (zi (zixor x y)) :: st)) : mk_A p l e R s m args below meth c Q nL D cl sh NC NW ad I lv pc (.int (zi y) :: .int (zi x) :: st) := by
  subst hn; exact fun H locs ls hP hS hl => lv_ixor X.1.1 X.1.2.1 hd (by have h := kk H locs ls hP hS hl; rwa [zixor, zi_of] at h)
/-- getfield of the cell q (an object of class number ci), its field k -/
theorem mk_get (X : mk_X p m c cc nL s args Ts own D cl tys NC NW ad zs) {ref C : String} {T : u_T} {N ci index : Nat} (q : Nat) (hq : q < NC) {fs : List Value} (he : sh q (I q) = .inr (ci, fs)) (hc : cl[ci]? = some (C, T, N)) (hin : ∀ w ∈ u_ws C T N, w ∈ Ts) (k : Nat) (hk : k < N) (hlink : Cond.fieldLink own index ref (T k).2.1 (T k).2.2.1 ∈ Ts) (href : (T k).1 = ref) {v : Value} (hv : fs[k]? = some v) (hd : decode cc pc = .ok (.getfield index, 3)) (hn : pc + 3 = nx)
    (kk : mk_A p l e R s m args below meth c Q nL D cl sh NC NW ad I lv nx (v :: st)) : mk_A p l e R s m args below meth c Q nL D cl sh NC NW ad I lv pc (.ref (ad q) :: st) := by
  subst hn
  exact fun H locs ls hP hS hl => va_get X.1.1 X.1.2.1 X.1.2.2.2.2 hin X.1.2.2.2.1 X.2.1 hP q (by rw [mk_at hq, he]) hc k hk (X.1.2.2.2.2 _ hlink) (fun x h => by rw [← href]; exact h) hv hd (kk H locs ls hP hS hl)
/-- putfield of an int (or a boolean) -/
theorem mk_putf (X : mk_X p m c cc nL s args Ts own D cl tys NC NW ad zs) {ref C : String} {T : u_T} {N ci index : Nat} (ty0 : Nat → FieldType) (hty : ∀ k, k < N → parseFieldDescriptor (T k).2.2.1 = some (ty0 k)) (hnm : ∀ a, a < N → ∀ b, b < N → a ≠ b → (T a).2.1 ≠ (T b).2.1) (q : Nat) (hq : q < NW) {fs : List Value} (he : sh q (I q) = .inr (ci, fs)) (hc : cl[ci]? = some (C, T, N)) (hin : ∀ w ∈ u_ws C T N, w ∈ Ts) (k : Nat) (hk : k < N) (hlink : Cond.fieldLink own index ref (T k).2.1 (T k).2.2.1 ∈ Ts) (href : (T k).1 = ref) (hfin : (T k).2.2.2 = false) {ty : FieldType} {x : Int} (hdt : parseFieldDescriptor (T k).2.2.1 = some ty) (hnr : narrow ty (.int (zi x)) = .int (zi x)) (hfit : fits ty (.int (zi x)) = true) (hlen : k < fs.length) (hset : sh q (up1 (I q) k x) = .inr (ci, fs.set k (.int (zi x)))) (hd : decode cc pc = .ok (.putfield index, 3)) (hn : pc + 3 = nx)
    (kk : mk_A p l e R s m args below meth c Q nL D cl sh NC NW ad (up2 I q k x) lv nx st) : mk_A p l e R s m args below meth c Q nL D cl sh NC NW ad I lv pc (.int (zi x) :: .ref (ad q) :: st) := by
  subst hn
  intro H locs ls hP hS hl
  have hqC : q < NC := Nat.lt_of_lt_of_le hq X.2.2.2.1
  have hD : va_D (fun _ => True) (mk_wl sh NC ad I) := mk_D X.2.2.1
  have hap := va_apart (own := own) X.1.2.2.2.2 hin ty0 hty hnm X.2.1 hc
  have he' : (mk_wl sh NC ad I)[q]? = some (ad q, .inr (ci, fs)) := by rw [mk_at hqC, he]
  obtain ⟨r, h1, cell, q1, q2, q3, q4⟩ := hP q _ he'
  have hr : r = (C, T, N) := Option.some.inj (h1.symm.trans hc)
  subst hr
  obtain ⟨hSl, hfc, kC, hkC, hkind⟩ := X.2.1.1 ci _ hc
  obtain ⟨cf, kf, fi, f, hi, hsl⟩ := hSl k hk
  have hlay := X.1.2.2.2.2 _ (hin _ (u_in_lay hk))
  unfold u_lay at hlay
  rw [if_neg (by rw [hfin]; decide)] at hlay
  have hst := (u_facts hfc hkC (u_lays X.1.2.2.2.2 hin hk) hi).1
  have h6 := u_store hfc hkC hkind hlay hi hdt hnr hfit
  refine W.putK X.1.1 X.1.2.1 (f := f) ⟨X.1.2.2.2.1, X.1.2.2.2.2 _ hlink, ⟨_, _, _, by rw [← href]; exact hi⟩, hst⟩ (by rw [q2]; exact h6) q1 q3 (by rw [hsl]; exact k2_hasslot (q4 k hk)) rfl rfl hd fun H' e1 e2 e3 => ?_
  rw [hsl] at e1 ⊢
  have hP' := hP.set hD he' (e := .inr (ci, fs.set k (.int (zi x)))) ⟨_, hc, t_OB.to (V := updV (vp_V fs) k (.int (zi x))) ⟨_, e1, q2, q3, t_set q4 hap hk (.int (zi x))⟩ (fun j _ => vp_updV_set hlen (.int (zi x)) j)⟩ e3
  rw [mk_set hset] at hP'
  exact kk H' _ ls hP' (hS.put e2 e3 ⟨q, hq, rfl⟩) hl
theorem mk_iald (X : mk_X p m c cc nL s args Ts own D cl tys NC NW ad zs) (q t0 : Nat) (hq : q < NC) {cA : ClassId} {n : Nat} (he : sh q (I q) = .inl (cA, n, .inl (fun j => zi (I q j)))) (ht : tys[t0]? = some (cA, .int)) {i : Int} {j : Nat} (h0 : 0 ≤ i) (h1 : i < n) (hb : n < 2147483648) (hj : i.toNat = j) (hd : decode cc pc = .ok (.iaload, 1)) (hn : pc + 1 = nx)
    (kk : mk_A p l e R s m args below meth c Q nL D cl sh NC NW ad I lv nx (.int (zi (I q j)) :: st)) : mk_A p l e R s m args below meth c Q nL D cl sh NC NW ad I lv pc (.int (zi i) :: .ref (ad q) :: st) := by
  subst hn; subst hj
  intro H locs ls hP hS hl
  refine va_iald X.1.1 X.1.2.1 X.2.1 hP q t0 (f := fun j => zi (I q j)) (by rw [mk_at hq, he]) ht (zi_in h0 h1 hb) hd ?_
  rw [zi_cl ⟨h0, by omega⟩]
  exact kk H locs ls hP hS hl
theorem mk_zald (X : mk_X p m c cc nL s args Ts own D cl tys NC NW ad zs) (q t0 : Nat) (hq : q < NC) {cA : ClassId} {n : Nat} (he : sh q (I q) = .inl (cA, n, .inl (fun j => zi (I q j)))) (ht : tys[t0]? = some (cA, .boolean)) {i : Int} {j : Nat} (h0 : 0 ≤ i) (h1 : i < n) (hb : n < 2147483648) (hj : i.toNat = j) (hd : decode cc pc = .ok (.baload, 1)) (hn : pc + 1 = nx)
    (kk : mk_A p l e R s m args below meth c Q nL D cl sh NC NW ad I lv nx (.int (zi (I q j)) :: st)) : mk_A p l e R s m args below meth c Q nL D cl sh NC NW ad I lv pc (.int (zi i) :: .ref (ad q) :: st) := by
  subst hn; subst hj
  intro H locs ls hP hS hl
  refine va_zald X.1.1 X.1.2.1 X.2.1 hP q t0 (f := fun j => zi (I q j)) (by rw [mk_at hq, he]) ht (zi_in h0 h1 hb) hd ?_
  rw [zi_cl ⟨h0, by omega⟩]
  exact kk H locs ls hP hS hl
theorem mk_iast (X : mk_X p m c cc nL s args Ts own D cl tys NC NW ad zs) (q t0 : Nat) (hq : q < NW) {cA : ClassId} {n : Nat} (he : ∀ f, sh q f = .inl (cA, n, .inl (fun j => zi (f j)))) (ht : tys[t0]? = some (cA, .int)) {i x : Int} {j : Nat} (h0 : 0 ≤ i) (h1 : i < n) (hb : n < 2147483648) (hj : i.toNat = j) (hd : decode cc pc = .ok (.iastore, 1)) (hn : pc + 1 = nx)
    (kk : mk_A p l e R s m args below meth c Q nL D cl sh NC NW ad (up2 I q j x) lv nx st) : mk_A p l e R s m args below meth c Q nL D cl sh NC NW ad I lv pc (.int (zi x) :: .int (zi i) :: .ref (ad q) :: st) := by
  subst hn; subst hj
  intro H locs ls hP hS hl
  have hqC : q < NC := Nat.lt_of_lt_of_le hq X.2.2.2.1
  have hD : va_D (fun _ => True) (mk_wl sh NC ad I) := mk_D X.2.2.1
  have he' : (mk_wl sh NC ad I)[q]? = some (ad q, .inl (cA, n, .inl (fun j => zi (I q j)))) := by rw [mk_at hqC, he]
  refine W.iast X.1.1 X.1.2.1 (hP q _ he') ((X.2.1.2 t0 _ ht).1 n (fun j => .int (zi (I q j)))) (fun q => by cases q) (by show ¬ (zi i < 0 ∨ (arrV _ _ _).slots.size ≤ _); rw [arrV_size]; exact zi_in h0 h1 hb) rfl rfl hd fun H1 e1 z oq => ?_
  have hP' := hP.set hD he' (e := .inl (cA, n, .inl (fun j => zi (up1 (I q) i.toNat x j)))) (by
    show H1[ad q]? = some (vp_cell _ _)
    rw [e1, vp_cell_i, vp_cell_i, arrV_store, zi_cl ⟨h0, by omega⟩]
    congr 2
    funext j
    by_cases hj : j = i.toNat
    · subst hj; simp [updV, up1]
    · simp [updV, up1, hj]) oq
  rw [mk_set (he _)] at hP'
  exact kk H1 _ ls hP' (hS.put z oq ⟨q, hq, rfl⟩) hl
theorem mk_zast (X : mk_X p m c cc nL s args Ts own D cl tys NC NW ad zs) (q t0 : Nat) (hq : q < NW) {cA : ClassId} {n : Nat} (he : ∀ f, sh q f = .inl (cA, n, .inl (fun j => zi (f j)))) (ht : tys[t0]? = some (cA, .boolean)) {i x : Int} {j : Nat} (h0 : 0 ≤ i) (h1 : i < n) (hb : n < 2147483648) (hx : x = 0 ∨ x = 1) (hj : i.toNat = j) (hd : decode cc pc = .ok (.bastore, 1)) (hn : pc + 1 = nx)
    (kk : mk_A p l e R s m args below meth c Q nL D cl sh NC NW ad (up2 I q j x) lv nx st) : mk_A p l e R s m args below meth c Q nL D cl sh NC NW ad I lv pc (.int (zi x) :: .int (zi i) :: .ref (ad q) :: st) := by
  subst hn; subst hj
  intro H locs ls hP hS hl
  have hqC : q < NC := Nat.lt_of_lt_of_le hq X.2.2.2.1
  have hD : va_D (fun _ => True) (mk_wl sh NC ad I) := mk_D X.2.2.1
  have he' : (mk_wl sh NC ad I)[q]? = some (ad q, .inl (cA, n, .inl (fun j => zi (I q j)))) := by rw [mk_at hqC, he]
  have hnr : narrow .boolean (.int (zi x)) = .int (zi x) := by rcases hx with rfl | rfl <;> rfl
  refine W.zast X.1.1 X.1.2.1 (hP q _ he') ((X.2.1.2 t0 _ ht).1 n (fun j => .int (zi (I q j)))) (fun q => by cases q) (by show ¬ (zi i < 0 ∨ (arrV _ _ _).slots.size ≤ _); rw [arrV_size]; exact zi_in h0 h1 hb) rfl rfl hd fun H1 e1 z oq => ?_
  have hP' := hP.set hD he' (e := .inl (cA, n, .inl (fun j => zi (up1 (I q) i.toNat x j)))) (by
    show H1[ad q]? = some (vp_cell _ _)
    rw [e1, vp_cell_i, vp_cell_i, arrV_store, zi_cl ⟨h0, by omega⟩, hnr]
    congr 2
    funext j
    by_cases hj : j = i.toNat
    · subst hj; simp [updV, up1]
    · simp [updV, up1, hj]) oq
  rw [mk_set (he _)] at hP'
  exact kk H1 _ ls hP' (hS.put z oq ⟨q, hq, rfl⟩) hl
theorem mk_aald (X : mk_X p m c cc nL s args Ts own D cl tys NC NW ad zs) (q t0 : Nat) (hq : q < NC) {cA : ClassId} {C : String} {n a : Nat} {f : Nat → Option Nat} (he : sh q (I q) = .inl (cA, n, .inr (.inr (.inr (.inr f))))) (ht : tys[t0]? = some (cA, .object C)) {i : Int} (h0 : 0 ≤ i) (h1 : i < n) (hb : n < 2147483648) {j : Nat} (hj : i.toNat = j) (hv : f j = some a) (hd : decode cc pc = .ok (.aaload, 1)) (hn : pc + 1 = nx)
    (kk : mk_A p l e R s m args below meth c Q nL D cl sh NC NW ad I lv nx (.ref a :: st)) : mk_A p l e R s m args below meth c Q nL D cl sh NC NW ad I lv pc (.int (zi i) :: .ref (ad q) :: st) := by
  subst hn; subst hj
  intro H locs ls hP hS hl
  refine va_aldq X.1.1 X.1.2.1 X.2.1 hP q t0 (f := f) (by rw [mk_at hq, he]) ht (zi_in h0 h1 hb) hd ?_
  rw [zi_cl ⟨h0, by omega⟩, hv]
  exact kk H locs ls hP hS hl
theorem mk_alen (X : mk_X p m c cc nL s args Ts own D cl tys NC NW ad zs) (q t0 : Nat) (hq : q < NC) {cA : ClassId} {x : vp_A} (he : sh q (I q) = .inl (cA, x)) {ty : FieldType} (ht : tys[t0]? = some (cA, ty)) (hd : decode cc pc = .ok (.arraylength, 1)) (hn : pc + 1 = nx)
    (kk : mk_A p l e R s m args below meth c Q nL D cl sh NC NW ad I lv nx (.int (zi x.1) :: st)) : mk_A p l e R s m args below meth c Q nL D cl sh NC NW ad I lv pc (.ref (ad q) :: st) := by
  subst hn
  intro H locs ls hP hS hl
  exact va_alen X.1.1 X.1.2.1 X.2.1 hP q t0 (by rw [mk_at hq, he]) ht (v := zi x.1) (Int32.ofInt_eq_ofNat).symm hd (kk H locs ls hP hS hl)
/-- a call that runs by a contract of this world -/
theorem mk_go (X : mk_X p m c cc nL s args Ts own D cl tys NC NW ad zs) {st0 rest : List Value} {Post : Option Value → Wo → Prop} {a : Array Value} (hr : ∀ (H : Heap) (locs : List Loc) (ls : Array Slot), va_P D cl (mk_wl sh NC ad I) H → va_S (mk_in NW ad) s.heap H locs → lv_has ls nL lv → va_Run p l e R s m args below meth c H locs 0 0 0 0 (F0 m pc ls st0) rest (mk_Q D cl tys sh NC NW ad Post a) (mk_in NW ad)) (hn : pc + 3 = nx)
    (kk : ∀ (v : Option Value) (I' : Wo), Post v I' → mk_A p l e R s m args below meth c Q nL D cl sh NC NW ad I' lv nx (v.toList ++ rest)) : mk_A p l e R s m args below meth c Q nL D cl sh NC NW ad I lv pc st0 := by
  subst hn
  intro H locs ls hP hS hl T hT Y
  obtain ⟨v, st₀, t, T', L, h0, Y', hL, e1, e2, ⟨v2, I', hv, hp, hP', hK', hz, hk⟩, go⟩ := hr H locs ls hP hS hl T hT Y
  cases hv
  rw [h0] at hz hk
  obtain ⟨t2, a1, b1⟩ := kk v I' hp T'.heap (locs ++ L) ls (by rw [e1]; exact hP') ⟨Nat.le_trans hS.1 (by rw [e1]; exact hz), fun q h1 h2 => by rw [e1, hk q (Nat.lt_of_lt_of_le h1 hS.1) h2]; exact hS.2.1 q h1 h2, fun q hq => by
    rcases List.mem_append.mp hq with h | h
    · exact hS.2.2 q h
    · exact hL q h⟩ hl T' rfl Y'
  exact ⟨t2, go t2 a1, b1⟩
theorem mk_blind {As : List Value} : FrameBlind (mk_P D cl tys sh NC NW ad zs As I) := fun a U g mk q => by
  obtain ⟨q0, qP, qK, qZ⟩ := q
  exact ⟨q0, qP, va_K.moved (u := U) (U := U.calling g mk a) (Vm.Alike.refl U.vm) qK, mk_Z.same (u := U) (U := U.calling g mk a) rfl qZ⟩
theorem mk_pre (X : mk_X p m c cc nL s args Ts own D cl tys NC NW ad zs) {As : List Value} {H : Heap} {locs : List Loc} (hP : va_P D cl (mk_wl sh NC ad I) H) (hS : va_S (mk_in NW ad) s.heap H locs) : ∀ U : State, U.heap = H → s.WarmedH U.vm → mk_P D cl tys sh NC NW ad zs As I As.toArray U := fun U hU hW =>
  ⟨rfl, by rw [hU]; exact hP, va_K.moved hW.alike X.2.1, by rw [hU]; exact mk_Z.warm hW (X.2.2.2.2.kept (fun a h1 h2 => hS.2.1 a h1 h2))⟩
/-- invokevirtual of a method y of the cell q's class -/
theorem mk_callV (X : mk_X p m c cc nL s args Ts own D cl tys NC NW ad zs) {y : MethodName} {bytes : ByteArray} {maxL n index : Nat} {ret : Option FieldType} {ws ws' : List Cond} {rm : Room} {C : String} {T : u_T} {N ci : Nat} {As rest : List Value} {Post : Option Value → Wo → Prop}
    (q : Nat) (hq : q < NC) {fs : List Value} (he : sh q (I q) = .inr (ci, fs)) (hc : cl[ci]? = some (C, T, N)) (hM : mk_C l y ws rm D cl tys sh NC NW ad zs (.ref (ad q) :: As) I Post) (hG : GoodIn Ts (wsV own index C y ws)) (hw : ws = Cond.code y bytes maxL ret :: ws') (hrc : rm.cells = 0 ∧ rm.slots = 0)
    (hdy : y.cls = C ∧ y.cls ≠ "java/lang/invoke/MethodHandle" ∧ y.cls ≠ "java/lang/invoke/VarHandle" ∧ (parseMethodDescriptor y.desc).map (fun d => d.parameters.length) = some n) (hR : rm.frames + 1 ≤ R.frames ∧ 8 + (maxL + 11) + rm.locals ≤ R.locals) (hAs : As.length = n) (hcat : (rest.map fun v => v.category).sum ≤ 8) {st0 : List Value} (hst : st0 = As.reverse ++ .ref (ad q) :: rest) (hd : decode cc pc = .ok (.invokevirtual index, 3)) (hn : pc + 3 = nx)
    (kk : ∀ (v : Option Value) (I' : Wo), Post v I' → mk_A p l e R s m args below meth c Q nL D cl sh NC NW ad I' lv nx (v.toList ++ rest)) : mk_A p l e R s m args below meth c Q nL D cl sh NC NW ad I lv pc st0 := by
  subst hst
  exact mk_go X (Post := Post) (a := (Value.ref (ad q) :: As).toArray) (fun H locs ls hP hS hl => va_runV (C := C) (b := ad q) (As := As) X.1 hM (cwV n X.1.2.2.2.2 hG hw hrc.1 hrc.2 hdy hR) ⟨mk_blind, va_recv X.2.1 hP hc (q0 := q) (by rw [mk_at hq, he]), mk_pre X hP hS⟩ rfl hAs hl.1 rfl (lv_room hcat) hd ⟨Nat.zero_le _, Nat.zero_le _⟩) hn kk
/-- invokestatic of a method of the own class -/
theorem mk_callS (X : mk_X p m c cc nL s args Ts own D cl tys NC NW ad zs) {y : MethodName} {bytes : ByteArray} {maxL n index : Nat} {ret : Option FieldType} {ws ws' : List Cond} {rm : Room} {As rest : List Value} {Post : Option Value → Wo → Prop}
    (hM : mk_C l y ws rm D cl tys sh NC NW ad zs As I Post) (hG : GoodIn Ts (wsS own index y ws)) (hw : ws = Cond.code y bytes maxL ret :: ws') (hrc : rm.cells = 0 ∧ rm.slots = 0)
    (hdy : y.cls = own ∧ y.cls ≠ "java/lang/invoke/MethodHandle" ∧ y.cls ≠ "java/lang/invoke/VarHandle" ∧ (parseMethodDescriptor y.desc).map (fun d => d.parameters.length) = some n) (hR : rm.frames + 1 ≤ R.frames ∧ 8 + (maxL + 11) + rm.locals ≤ R.locals) (hAs : As.length = n) (hcat : (rest.map fun v => v.category).sum ≤ 8) {st0 : List Value} (hst : st0 = As.reverse ++ rest) (hd : decode cc pc = .ok (.invokestatic index, 3)) (hn : pc + 3 = nx)
    (kk : ∀ (v : Option Value) (I' : Wo), Post v I' → mk_A p l e R s m args below meth c Q nL D cl sh NC NW ad I' lv nx (v.toList ++ rest)) : mk_A p l e R s m args below meth c Q nL D cl sh NC NW ad I lv pc st0 := by
  subst hst
  exact mk_go X (Post := Post) (a := As.toArray) (fun H locs ls hP hS hl => va_runS (As := As) X.1 hM (cwS n X.1.2.2.2.2 hG hw hrc.1 hrc.2 hdy hR) ⟨mk_blind, mk_pre X hP hS⟩ rfl hAs hl.1 rfl (lv_room hcat) hd ⟨Nat.zero_le _, Nat.zero_le _⟩) hn kk
end MK
section MKR
variable {p : Program} {l : Launch} {e : Env} {R : Room} {s : State} {m : MethodId} {args : Array Value} {below : List Frame} {meth : Method} {c : Code}
variable {cc : ByteArray} {nL : Nat} {own : String} {Ts : List Cond} {D : va_G} {cl : List vw_C} {tys : List (ClassId × FieldType)} {sh : Nat → (Nat → Int) → va_E} {NC NW : Nat} {ad : Nat → Nat} {zs : List mk_Zt}
variable {I : Wo} {lv : List (Nat × Value)} {pc nx : Nat} {st : List Value} {Post : Option Value → Wo → Prop}
theorem mk_end (X : mk_X p m c cc nL s args Ts own D cl tys NC NW ad zs) {v : Option Value} {H : Heap} {locs : List Loc} (hP : va_P D cl (mk_wl sh NC ad I) H) (hS : va_S (mk_in NW ad) s.heap H locs) (hp : Post v I) : ∀ t : State, t.heap = H → s.WarmedH t.vm → mk_Q D cl tys sh NC NW ad Post args s (.returned v) t := fun t ht hW =>
  ⟨v, I, rfl, hp, by rw [ht]; exact hP, va_K.moved hW.alike X.2.1, hS.F ht⟩
theorem mk_iret (X : mk_X p m c cc nL s args Ts own D cl tys NC NW ad zs) {v : Int32} (hlk : meth.locks = false) (hr : meth.sig.returnType = some .int) (hd : decode cc pc = .ok (.ireturn, 1)) (hp : Post (some (.int v)) I) : mk_A p l e R s m args below meth c (MQ below (mk_Q D cl tys sh NC NW ad Post) args s 0 0 (mk_in NW ad)) nL D cl sh NC NW ad I lv pc [.int v] :=
  fun H locs ls hP hS hl => W.iret X.1.1 X.1.2.1 hr (mk_end X hP hS hp) hS.2.2 hd hlk
theorem mk_zret (X : mk_X p m c cc nL s args Ts own D cl tys NC NW ad zs) {v : Int32} {ty : FieldType} (hlk : meth.locks = false) (hr : meth.sig.returnType = some ty) (hnr : narrow ty (.int v) = .int v) (hd : decode cc pc = .ok (.ireturn, 1)) (hp : Post (some (.int v)) I) : mk_A p l e R s m args below meth c (MQ below (mk_Q D cl tys sh NC NW ad Post) args s 0 0 (mk_in NW ad)) nL D cl sh NC NW ad I lv pc [.int v] :=
  fun H locs ls hP hS hl => W.zret X.1.1 X.1.2.1 hr hnr (mk_end X hP hS hp) hS.2.2 hd hlk
theorem mk_vret (X : mk_X p m c cc nL s args Ts own D cl tys NC NW ad zs) (hlk : meth.locks = false) (hr : meth.sig.returnType = none) (hd : decode cc pc = .ok (.return_, 1)) (hp : Post none I) : mk_A p l e R s m args below meth c (MQ below (mk_Q D cl tys sh NC NW ad Post) args s 0 0 (mk_in NW ad)) nL D cl sh NC NW ad I lv pc [] :=
  fun H locs ls hP hS hl => W.vret X.1.1 X.1.2.1 hr (mk_end X hP hS hp) hS.2.2 hd hlk
end MKR
/-- a contract out of a walk -/
theorem mk_met {l : Launch} {y : MethodName} {ws ws' : List Cond} {rm : Room} {D : va_G} {cl : List vw_C} {tys : List (ClassId × FieldType)} {sh : Nat → (Nat → Int) → va_E} {NC NW : Nat} {ad : Nat → Nat} {zs : List mk_Zt} {As : List Value} {I : Wo} {Post : Option Value → Wo → Prop} {cc : ByteArray} {maxL : Nat} {ret : Option FieldType}
    {Ts : List Cond} {own : String} (hinj : ∀ i j, i < NC → j < NC → ad i = ad j → i = j) (hNW : NW ≤ NC) (hy : plainName y.cls = true) (ho : y.cls = own) (hT : ∀ w ∈ Ts, w ∈ ws) (hw : ws = Cond.code y cc maxL ret :: ws') (hfit : (lg_sl As).length ≤ maxL)
    (body : ∀ (p : Program) (e : Env) (s : State) (m : MethodId) (args : Array Value) (below : List Frame) (meth : Method) (c : Code), mk_X p m c cc maxL s args Ts own D cl tys NC NW ad zs → meth.sig.returnType = ret → meth.locks = false →
      mk_A p l e (headSpec ws rm).room s m args below meth c (MQ below (mk_Q D cl tys sh NC NW ad Post) args s 0 0 (mk_in NW ad)) maxL D cl sh NC NW ad I (lv_args 0 As) 0 []) : mk_C l y ws rm D cl tys sh NC NW ad zs As I Post := by
  refine Met.ofW (cc := cc) (maxL := maxL) (ret := ret) hy hw ?_
  intro p e s m args below meth c s₁ B hml hv
  obtain ⟨rfl, hP, hK, hZ⟩ := hv
  have hown : s.vm.findClass y.cls = some m.cls := findClass_of_methodNamed B.named
  have hl := lv_entry As hfit
  rw [lg_entry_eq]
  subst ho
  exact body p e s m _ below meth c ⟨⟨B.exec, B.bytes, hml, hown, fun w hw' => atoms_spec (ws := ws) B.pre w (hT w hw')⟩, hK, hinj, hNW, hZ⟩ B.returns B.notSynchronized s.heap [] _ hP va_S.rf hl
section MKM
variable {p : Program} {l : Launch} {e : Env} {R : Room} {s : State} {m : MethodId} {args : Array Value} {below : List Frame} {meth : Method} {c : Code} {Q : State → Prop}
variable {cc : ByteArray} {nL : Nat} {own : String} {Ts : List Cond} {D : va_G} {cl : List vw_C} {tys : List (ClassId × FieldType)} {sh : Nat → (Nat → Int) → va_E} {NC NW : Nat} {ad : Nat → Nat} {zs : List mk_Zt}
variable {I : Wo} {lv : List (Nat × Value)} {pc nx : Nat} {st : List Value}
theorem zi_max {x y : Int} (hx : -2147483648 ≤ x ∧ x < 2147483648) (hy : -2147483648 ≤ y ∧ y < 2147483648) : (if zi x < zi y then zi y else zi x) = zi (max x y) := by
  by_cases h : x < y
  · rw [if_pos ((zi_lt hx hy).mpr h), show max x y = y by omega]
  · rw [if_neg (fun q => h ((zi_lt hx hy).mp q)), show max x y = x by omega]
theorem zi_min {x y : Int} (hx : -2147483648 ≤ x ∧ x < 2147483648) (hy : -2147483648 ≤ y ∧ y < 2147483648) : (if zi y < zi x then zi y else zi x) = zi (min x y) := by
  by_cases h : y < x
  · rw [if_pos ((zi_lt hy hx).mpr h), show min x y = y by omega]
  · rw [if_neg (fun q => h ((zi_lt hy hx).mp q)), show min x y = x by omega]
theorem zi_abs {x : Int} (hx : -2147483648 ≤ x ∧ x < 2147483648) : (if 0 ≤ zi x then zi x else 0 - zi x) = zi (x.natAbs : Int) := by
  have h0 : (0 : Int32) ≤ zi x ↔ 0 ≤ x := zi_le (x := 0) (by decide) hx
  by_cases h : 0 ≤ x
  · rw [if_pos (h0.mpr h), show (x.natAbs : Int) = x by omega]
  · rw [if_neg (fun q => h (h0.mp q)), zi_0, zi_sub, show (x.natAbs : Int) = 0 - x by omega]
theorem mk_mmax (X : mk_X p m c cc nL s args Ts own D cl tys NC NW ad zs) {index : Nat} (hlink : Cond.methodLink own index Lib.Math.max.name ∈ Ts) (hstat : Cond.static Lib.Math.max.name ∈ Ts) (hini : Cond.initialized "java/lang/Math" ∈ Ts) (hcode : Cond.code Lib.Math.max.name Lib.Math.max.code 2 (some .int) ∈ Ts)
    (hfr : 1 ≤ R.frames) (hlo : (st.map fun v => v.category).sum + 13 ≤ R.locals) {x y : Int} (hx : -2147483648 ≤ x ∧ x < 2147483648) (hy : -2147483648 ≤ y ∧ y < 2147483648) (hd : decode cc pc = .ok (.invokestatic index, 3)) (hn : pc + 3 = nx)
    (kk : mk_A p l e R s m args below meth c Q nL D cl sh NC NW ad I lv nx (.int (zi (max x y)) :: st)) : mk_A p l e R s m args below meth c Q nL D cl sh NC NW ad I lv pc (.int (zi y) :: .int (zi x) :: st) := by
  subst hn
  intro H locs ls hP hS hl
  refine va_mmax X.1.1 X.1.2.1 (by rw [hl.1]; exact X.1.2.2.1) X.1.2.2.2.1 (X.1.2.2.2.2 _ hlink) (X.1.2.2.2.2 _ hstat) (X.1.2.2.2.2 _ hini) (X.1.2.2.2.2 _ hcode) hfr hlo (Nat.zero_le _) (Nat.zero_le _) hd ?_
  rw [zi_max hx hy]
  exact kk H locs ls hP hS hl
theorem mk_mmin (X : mk_X p m c cc nL s args Ts own D cl tys NC NW ad zs) {index : Nat} (hlink : Cond.methodLink own index Lib.Math.min.name ∈ Ts) (hstat : Cond.static Lib.Math.min.name ∈ Ts) (hini : Cond.initialized "java/lang/Math" ∈ Ts) (hcode : Cond.code Lib.Math.min.name Lib.Math.min.code 2 (some .int) ∈ Ts)
    (hfr : 1 ≤ R.frames) (hlo : (st.map fun v => v.category).sum + 13 ≤ R.locals) {x y : Int} (hx : -2147483648 ≤ x ∧ x < 2147483648) (hy : -2147483648 ≤ y ∧ y < 2147483648) (hd : decode cc pc = .ok (.invokestatic index, 3)) (hn : pc + 3 = nx)
    (kk : mk_A p l e R s m args below meth c Q nL D cl sh NC NW ad I lv nx (.int (zi (min x y)) :: st)) : mk_A p l e R s m args below meth c Q nL D cl sh NC NW ad I lv pc (.int (zi y) :: .int (zi x) :: st) := by
  subst hn
  intro H locs ls hP hS hl
  refine va_mmin X.1.1 X.1.2.1 (by rw [hl.1]; exact X.1.2.2.1) X.1.2.2.2.1 (X.1.2.2.2.2 _ hlink) (X.1.2.2.2.2 _ hstat) (X.1.2.2.2.2 _ hini) (X.1.2.2.2.2 _ hcode) hfr hlo (Nat.zero_le _) (Nat.zero_le _) hd ?_
  rw [zi_min hx hy]
  exact kk H locs ls hP hS hl
theorem mk_mabs (X : mk_X p m c cc nL s args Ts own D cl tys NC NW ad zs) {index : Nat} (hlink : Cond.methodLink own index Lib.Math.abs.name ∈ Ts) (hstat : Cond.static Lib.Math.abs.name ∈ Ts) (hini : Cond.initialized "java/lang/Math" ∈ Ts) (hcode : Cond.code Lib.Math.abs.name Lib.Math.abs.code 1 (some .int) ∈ Ts)
    (hfr : 1 ≤ R.frames) (hlo : (st.map fun v => v.category).sum + 13 ≤ R.locals) {x : Int} (hx : -2147483648 ≤ x ∧ x < 2147483648) (hd : decode cc pc = .ok (.invokestatic index, 3)) (hn : pc + 3 = nx)
    (kk : mk_A p l e R s m args below meth c Q nL D cl sh NC NW ad I lv nx (.int (zi (x.natAbs : Int)) :: st)) : mk_A p l e R s m args below meth c Q nL D cl sh NC NW ad I lv pc (.int (zi x) :: st) := by
  subst hn
  intro H locs ls hP hS hl
  refine va_mabs X.1.1 X.1.2.1 (by rw [hl.1]; exact X.1.2.2.1) X.1.2.2.2.1 (X.1.2.2.2.2 _ hlink) (X.1.2.2.2.2 _ hstat) (X.1.2.2.2.2 _ hini) (X.1.2.2.2.2 _ hcode) hfr hlo (Nat.zero_le _) (Nat.zero_le _) hd ?_
  rw [zi_abs hx]
  exact kk H locs ls hP hS hl
end MKM
theorem up2_ss (I : Wo) (q k : Nat) (x : Int) : up2 I q k x q k = x := by rw [up2_s, up1_s]
theorem up2_o (I : Wo) (q k : Nat) (x : Int) : ∀ a b, (a ≠ q ∨ b ≠ k) → up2 I q k x a b = I a b := fun a b h => by
  by_cases ha : a = q
  · subst ha
    rw [up2_s, up1_n (h.resolve_left (fun z => z rfl))]
  · rw [up2_n ha]
theorem zi_nb {x : Int} (h : x = 0 ∨ x = 1) : narrow .boolean (.int (zi x)) = .int (zi x) := by rcases h with rfl | rfl <;> rfl
theorem zi_fb {x : Int} (h : x = 0 ∨ x = 1) : fits .boolean (.int (zi x)) = true := by rcases h with rfl | rfl <;> rfl
/-- the ends of methods: an int (Pi), nothing (Pv) -/
def mk_pi (P : Int → Wo → Prop) : Option Value → Wo → Prop := fun v J => ∃ r : Int, v = some (.int (zi r)) ∧ P r J
def mk_pv (P : Wo → Prop) : Option Value → Wo → Prop := fun v J => v = none ∧ P J
section MKX
variable {p : Program} {l : Launch} {e : Env} {R : Room} {s : State} {m : MethodId} {args : Array Value} {below : List Frame} {meth : Method} {c : Code} {Q : State → Prop}
variable {cc : ByteArray} {nL : Nat} {own : String} {Ts : List Cond} {D : va_G} {cl : List vw_C} {tys : List (ClassId × FieldType)} {sh : Nat → (Nat → Int) → va_E} {NC NW : Nat} {ad : Nat → Nat} {zs : List mk_Zt}
variable {I : Wo} {lv : List (Nat × Value)} {pc nx : Nat} {st : List Value}
theorem mk_nm {x : Int} (kk : ∀ y : Int, y = x → mk_A p l e R s m args below meth c Q nL D cl sh NC NW ad I lv pc (.int (zi y) :: st)) : mk_A p l e R s m args below meth c Q nL D cl sh NC NW ad I lv pc (.int (zi x) :: st) := kk x rfl
/-- a private static array of the nest's, its elements, its length -/
theorem mk_gets (X : mk_X p m c cc nL s args Ts own D cl tys NC NW ad zs) {z : mk_Zt} (hz : z ∈ zs) {index : Nat} (hi : z.2.1 = own ∧ z.2.2.1 = index ∧ z.2.2.2.1 = z.1.1) (hd : decode cc pc = .ok (.getstatic index, 3)) (hn : pc + 3 = nx) (kk : mk_A p l e R s m args below meth c Q nL D cl sh NC NW ad I lv nx (.ref z.1.2.2.2.1 :: st)) : mk_A p l e R s m args below meth c Q nL D cl sh NC NW ad I lv pc st := by
  subst hn
  intro H locs ls hP hS hl
  have hZ := X.2.2.2.2 z hz
  have h := hZ.2.2
  rw [hi.1, hi.2.1, hi.2.2] at h
  exact va_getsN (host := z.2.2.2.2) X.1.1 X.1.2.1 hZ.1 hS X.1.2.2.2.1 (va_Nw.use rfl h) (fun x h => h) hd (kk H locs ls hP hS hl)
theorem mk_tald (X : mk_X p m c cc nL s args Ts own D cl tys NC NW ad zs) {z : mk_Zt} (hz : z ∈ zs) {i : Int} {j : Nat} (h0 : 0 ≤ i) (h1 : i < z.1.2.2.2.2.1) (hb : z.1.2.2.2.2.1 < 2147483648) (hj : i.toNat = j) (hd : decode cc pc = .ok (.iaload, 1)) (hn : pc + 1 = nx) (kk : mk_A p l e R s m args below meth c Q nL D cl sh NC NW ad I lv nx (.int (zi (z.1.2.2.2.2.2 j)) :: st)) : mk_A p l e R s m args below meth c Q nL D cl sh NC NW ad I lv pc (.int (zi i) :: .ref z.1.2.2.2.1 :: st) := by
  subst hn; subst hj
  intro H locs ls hP hS hl
  exact va_ti X.1.1 X.1.2.1 (X.2.2.2.2 z hz).2.1 hS (zi_in h0 h1 hb) (by rw [zi_cl ⟨h0, by omega⟩]) hd (kk H locs ls hP hS hl)
theorem mk_tlen (X : mk_X p m c cc nL s args Ts own D cl tys NC NW ad zs) {z : mk_Zt} (hz : z ∈ zs) (hd : decode cc pc = .ok (.arraylength, 1)) (hn : pc + 1 = nx) (kk : mk_A p l e R s m args below meth c Q nL D cl sh NC NW ad I lv nx (.int (zi z.1.2.2.2.2.1) :: st)) : mk_A p l e R s m args below meth c Q nL D cl sh NC NW ad I lv pc (.ref z.1.2.2.2.1 :: st) := by
  subst hn
  intro H locs ls hP hS hl
  exact va_tlen X.1.1 X.1.2.1 (X.2.2.2.2 z hz).2.1 hS (v := zi z.1.2.2.2.2.1) (Int32.ofInt_eq_ofNat).symm hd (kk H locs ls hP hS hl)
theorem mk_lookup (X : mk_X p m c cc nL s args Ts own D cl tys NC NW ad zs) {dflt : Int} {ps : Array (Int × Int)} {len : Nat} {x off : Int} {tgt : Nat} (hd : decode cc pc = .ok (.lookupswitch dflt ps, len)) (hx : -2147483648 ≤ x ∧ x < 2147483648) (ho : (ps.toList.zip (ps.toList.drop 1)).all (fun (a, next) => a.1 < next.1) = true ∧ Op.lookupswitch.offset ps.toList dflt x = off) (ht : (pc : Int) + off = (tgt : Int)) (kk : mk_A p l e R s m args below meth c Q nL D cl sh NC NW ad I lv tgt st) : mk_A p l e R s m args below meth c Q nL D cl sh NC NW ad I lv pc (.int (zi x) :: st) :=
  fun H locs ls hP hS hl => lv_lookup X.1.1 X.1.2.1 hd ho.1 (by rw [zi_to hx]; exact ho.2) ht (kk H locs ls hP hS hl)
theorem mk_tableOut (X : mk_X p m c cc nL s args Ts own D cl tys NC NW ad zs) {dflt lo hi : Int} {offs : Array Int} {len : Nat} {x : Int} {tgt : Nat} (hd : decode cc pc = .ok (.tableswitch dflt lo hi offs, len)) (hx : -2147483648 ≤ x ∧ x < 2147483648) (h : x < lo ∨ hi < x) (ht : (pc : Int) + dflt = (tgt : Int)) (kk : mk_A p l e R s m args below meth c Q nL D cl sh NC NW ad I lv tgt st) : mk_A p l e R s m args below meth c Q nL D cl sh NC NW ad I lv pc (.int (zi x) :: st) :=
  fun H locs ls hP hS hl => lv_tableOut X.1.1 X.1.2.1 hd (by rw [zi_to hx]; exact h) ht (kk H locs ls hP hS hl)
theorem mk_tableIn (X : mk_X p m c cc nL s args Ts own D cl tys NC NW ad zs) {dflt lo hi : Int} {offs : Array Int} {len : Nat} {x off : Int} {tgt : Nat} (hd : decode cc pc = .ok (.tableswitch dflt lo hi offs, len)) (hx : -2147483648 ≤ x ∧ x < 2147483648) (h1 : lo ≤ x) (h2 : x ≤ hi) (ho : offs[(x - lo).toNat]? = some off) (ht : (pc : Int) + off = (tgt : Int)) (kk : mk_A p l e R s m args below meth c Q nL D cl sh NC NW ad I lv tgt st) : mk_A p l e R s m args below meth c Q nL D cl sh NC NW ad I lv pc (.int (zi x) :: st) :=
  fun H locs ls hP hS hl => lv_tableIn X.1.1 X.1.2.1 hd (by rw [zi_to hx]; omega) (by rw [zi_to hx]; omega) (by rw [zi_to hx]; exact ho) ht (kk H locs ls hP hS hl)
theorem mk_callVi (X : mk_X p m c cc nL s args Ts own D cl tys NC NW ad zs) {y : MethodName} {bytes : ByteArray} {maxL n index : Nat} {ret : Option FieldType} {ws ws' : List Cond} {rm : Room} {C : String} {T : u_T} {N ci : Nat} {As rest : List Value} {P : Int → Wo → Prop}
    (q : Nat) (hq : q < NC) {fs : List Value} (he : sh q (I q) = .inr (ci, fs)) (hc : cl[ci]? = some (C, T, N)) (hM : mk_C l y ws rm D cl tys sh NC NW ad zs (.ref (ad q) :: As) I (mk_pi P)) (hG : GoodIn Ts (wsV own index C y ws)) (hw : ws = Cond.code y bytes maxL ret :: ws') (hrc : rm.cells = 0 ∧ rm.slots = 0)
    (hdy : y.cls = C ∧ y.cls ≠ "java/lang/invoke/MethodHandle" ∧ y.cls ≠ "java/lang/invoke/VarHandle" ∧ (parseMethodDescriptor y.desc).map (fun d => d.parameters.length) = some n) (hR : rm.frames + 1 ≤ R.frames ∧ 8 + (maxL + 11) + rm.locals ≤ R.locals) (hAs : As.length = n) (hcat : (rest.map fun v => v.category).sum ≤ 8) {st0 : List Value} (hst : st0 = As.reverse ++ .ref (ad q) :: rest) (hd : decode cc pc = .ok (.invokevirtual index, 3)) (hn : pc + 3 = nx)
    (kk : ∀ (r : Int) (J : Wo), P r J → mk_A p l e R s m args below meth c Q nL D cl sh NC NW ad J lv nx (.int (zi r) :: rest)) : mk_A p l e R s m args below meth c Q nL D cl sh NC NW ad I lv pc st0 :=
  mk_callV X q hq he hc hM hG hw hrc hdy hR hAs hcat hst hd hn (fun v J h => by obtain ⟨r, rfl, h⟩ := h; exact kk r J h)
theorem mk_callVv (X : mk_X p m c cc nL s args Ts own D cl tys NC NW ad zs) {y : MethodName} {bytes : ByteArray} {maxL n index : Nat} {ret : Option FieldType} {ws ws' : List Cond} {rm : Room} {C : String} {T : u_T} {N ci : Nat} {As rest : List Value} {P : Wo → Prop}
    (q : Nat) (hq : q < NC) {fs : List Value} (he : sh q (I q) = .inr (ci, fs)) (hc : cl[ci]? = some (C, T, N)) (hM : mk_C l y ws rm D cl tys sh NC NW ad zs (.ref (ad q) :: As) I (mk_pv P)) (hG : GoodIn Ts (wsV own index C y ws)) (hw : ws = Cond.code y bytes maxL ret :: ws') (hrc : rm.cells = 0 ∧ rm.slots = 0)
    (hdy : y.cls = C ∧ y.cls ≠ "java/lang/invoke/MethodHandle" ∧ y.cls ≠ "java/lang/invoke/VarHandle" ∧ (parseMethodDescriptor y.desc).map (fun d => d.parameters.length) = some n) (hR : rm.frames + 1 ≤ R.frames ∧ 8 + (maxL + 11) + rm.locals ≤ R.locals) (hAs : As.length = n) (hcat : (rest.map fun v => v.category).sum ≤ 8) {st0 : List Value} (hst : st0 = As.reverse ++ .ref (ad q) :: rest) (hd : decode cc pc = .ok (.invokevirtual index, 3)) (hn : pc + 3 = nx)
    (kk : ∀ (J : Wo), P J → mk_A p l e R s m args below meth c Q nL D cl sh NC NW ad J lv nx rest) : mk_A p l e R s m args below meth c Q nL D cl sh NC NW ad I lv pc st0 :=
  mk_callV X q hq he hc hM hG hw hrc hdy hR hAs hcat hst hd hn (fun v J h => by obtain ⟨rfl, h⟩ := h; exact kk J h)
theorem mk_callSi (X : mk_X p m c cc nL s args Ts own D cl tys NC NW ad zs) {y : MethodName} {bytes : ByteArray} {maxL n index : Nat} {ret : Option FieldType} {ws ws' : List Cond} {rm : Room} {As rest : List Value} {P : Int → Wo → Prop}
    (hM : mk_C l y ws rm D cl tys sh NC NW ad zs As I (mk_pi P)) (hG : GoodIn Ts (wsS own index y ws)) (hw : ws = Cond.code y bytes maxL ret :: ws') (hrc : rm.cells = 0 ∧ rm.slots = 0)
    (hdy : y.cls = own ∧ y.cls ≠ "java/lang/invoke/MethodHandle" ∧ y.cls ≠ "java/lang/invoke/VarHandle" ∧ (parseMethodDescriptor y.desc).map (fun d => d.parameters.length) = some n) (hR : rm.frames + 1 ≤ R.frames ∧ 8 + (maxL + 11) + rm.locals ≤ R.locals) (hAs : As.length = n) (hcat : (rest.map fun v => v.category).sum ≤ 8) {st0 : List Value} (hst : st0 = As.reverse ++ rest) (hd : decode cc pc = .ok (.invokestatic index, 3)) (hn : pc + 3 = nx)
    (kk : ∀ (r : Int) (J : Wo), P r J → mk_A p l e R s m args below meth c Q nL D cl sh NC NW ad J lv nx (.int (zi r) :: rest)) : mk_A p l e R s m args below meth c Q nL D cl sh NC NW ad I lv pc st0 :=
  mk_callS X hM hG hw hrc hdy hR hAs hcat hst hd hn (fun v J h => by obtain ⟨r, rfl, h⟩ := h; exact kk r J h)
theorem mk_callT (X : mk_X p m c cc nL s args Ts own D cl tys NC NW ad zs) {y : MethodName} {bytes : ByteArray} {maxL n index : Nat} {ret : Option FieldType} {ws ws' : List Cond} {rm : Room} {As rest : List Value} {Post : Option Value → Wo → Prop}
    (hM : mk_C l y ws rm D cl tys sh NC NW ad zs As I Post) (hG : GoodIn Ts (va_wsS own index y ws)) (hw : ws = Cond.code y bytes maxL ret :: ws') (hrc : rm.cells = 0 ∧ rm.slots = 0)
    (hdy : y.cls ≠ "java/lang/invoke/MethodHandle" ∧ y.cls ≠ "java/lang/invoke/VarHandle" ∧ (parseMethodDescriptor y.desc).map (fun d => d.parameters.length) = some n) (hR : rm.frames + 1 ≤ R.frames ∧ 8 + (maxL + 11) + rm.locals ≤ R.locals) (hAs : As.length = n) (hcat : (rest.map fun v => v.category).sum ≤ 8) {st0 : List Value} (hst : st0 = As.reverse ++ rest) (hd : decode cc pc = .ok (.invokestatic index, 3)) (hn : pc + 3 = nx)
    (kk : ∀ (v : Option Value) (I' : Wo), Post v I' → mk_A p l e R s m args below meth c Q nL D cl sh NC NW ad I' lv nx (v.toList ++ rest)) : mk_A p l e R s m args below meth c Q nL D cl sh NC NW ad I lv pc st0 := by
  subst hst
  exact mk_go X (Post := Post) (a := As.toArray) (fun H locs ls hP hS hl => va_runS (As := As) X.1 hM (va_cwS n X.1.2.2.2.2 hG hw hrc.1 hrc.2 hdy hR) ⟨mk_blind, mk_pre X hP hS⟩ rfl hAs hl.1 rfl (lv_room hcat) hd ⟨Nat.zero_le _, Nat.zero_le _⟩) hn kk
theorem mk_callTi (X : mk_X p m c cc nL s args Ts own D cl tys NC NW ad zs) {y : MethodName} {bytes : ByteArray} {maxL n index : Nat} {ret : Option FieldType} {ws ws' : List Cond} {rm : Room} {As rest : List Value} {P : Int → Wo → Prop}
    (hM : mk_C l y ws rm D cl tys sh NC NW ad zs As I (mk_pi P)) (hG : GoodIn Ts (va_wsS own index y ws)) (hw : ws = Cond.code y bytes maxL ret :: ws') (hrc : rm.cells = 0 ∧ rm.slots = 0)
    (hdy : y.cls ≠ "java/lang/invoke/MethodHandle" ∧ y.cls ≠ "java/lang/invoke/VarHandle" ∧ (parseMethodDescriptor y.desc).map (fun d => d.parameters.length) = some n) (hR : rm.frames + 1 ≤ R.frames ∧ 8 + (maxL + 11) + rm.locals ≤ R.locals) (hAs : As.length = n) (hcat : (rest.map fun v => v.category).sum ≤ 8) {st0 : List Value} (hst : st0 = As.reverse ++ rest) (hd : decode cc pc = .ok (.invokestatic index, 3)) (hn : pc + 3 = nx)
    (kk : ∀ (r : Int) (J : Wo), P r J → mk_A p l e R s m args below meth c Q nL D cl sh NC NW ad J lv nx (.int (zi r) :: rest)) : mk_A p l e R s m args below meth c Q nL D cl sh NC NW ad I lv pc st0 :=
  mk_callT X hM hG hw hrc hdy hR hAs hcat hst hd hn (fun v J h => by obtain ⟨r, rfl, h⟩ := h; exact kk r J h)
theorem mk_callTv (X : mk_X p m c cc nL s args Ts own D cl tys NC NW ad zs) {y : MethodName} {bytes : ByteArray} {maxL n index : Nat} {ret : Option FieldType} {ws ws' : List Cond} {rm : Room} {As rest : List Value} {P : Wo → Prop}
    (hM : mk_C l y ws rm D cl tys sh NC NW ad zs As I (mk_pv P)) (hG : GoodIn Ts (va_wsS own index y ws)) (hw : ws = Cond.code y bytes maxL ret :: ws') (hrc : rm.cells = 0 ∧ rm.slots = 0)
    (hdy : y.cls ≠ "java/lang/invoke/MethodHandle" ∧ y.cls ≠ "java/lang/invoke/VarHandle" ∧ (parseMethodDescriptor y.desc).map (fun d => d.parameters.length) = some n) (hR : rm.frames + 1 ≤ R.frames ∧ 8 + (maxL + 11) + rm.locals ≤ R.locals) (hAs : As.length = n) (hcat : (rest.map fun v => v.category).sum ≤ 8) {st0 : List Value} (hst : st0 = As.reverse ++ rest) (hd : decode cc pc = .ok (.invokestatic index, 3)) (hn : pc + 3 = nx)
    (kk : ∀ (J : Wo), P J → mk_A p l e R s m args below meth c Q nL D cl sh NC NW ad J lv nx rest) : mk_A p l e R s m args below meth c Q nL D cl sh NC NW ad I lv pc st0 :=
  mk_callT X hM hG hw hrc hdy hR hAs hcat hst hd hn (fun v J h => by obtain ⟨rfl, h⟩ := h; exact kk J h)
end MKX
section MKE
variable {l : Launch} {y : MethodName} {ws ws' : List Cond} {rm : Room} {D : va_G} {cl : List vw_C} {tys : List (ClassId × FieldType)} {sh : Nat → (Nat → Int) → va_E} {NC NW : Nat} {ad : Nat → Nat} {zs : List mk_Zt} {As : List Value} {I : Wo} {cc : ByteArray} {maxL : Nat} {Ts : List Cond} {own : String}
/-- a contract out of a walk: an int's, a boolean's, a void method's; 'hret' ends the walk -/
theorem mk_meti {P : Int → Wo → Prop} (hinj : ∀ i j, i < NC → j < NC → ad i = ad j → i = j) (hNW : NW ≤ NC) (hy : plainName y.cls = true) (ho : y.cls = own) (hT : ∀ w ∈ Ts, w ∈ ws) (hw : ws = Cond.code y cc maxL (some .int) :: ws') (hfit : (lg_sl As).length ≤ maxL) (lv0 : List (Nat × Value)) (hlv : lv_args 0 As = lv0)
    (body : ∀ (p : Program) (e : Env) (s : State) (m : MethodId) (args : Array Value) (below : List Frame) (meth : Method) (c : Code) (Q : State → Prop), mk_X p m c cc maxL s args Ts own D cl tys NC NW ad zs →
      (∀ (J : Wo) (lv : List (Nat × Value)) (pc : Nat) (v : Int), decode cc pc = .ok (.ireturn, 1) → P v J → mk_A p l e rm s m args below meth c Q maxL D cl sh NC NW ad J lv pc [.int (zi v)]) →
      mk_A p l e rm s m args below meth c Q maxL D cl sh NC NW ad I lv0 0 []) : mk_C l y ws rm D cl tys sh NC NW ad zs As I (mk_pi P) := by
  subst hlv
  exact mk_met hinj hNW hy ho hT hw hfit (fun p e s m args below meth c X hr hlk => body p e s m args below meth c _ X (fun J lv pc v hd hp => mk_iret X hlk hr hd ⟨v, rfl, hp⟩))
theorem mk_metz {P : Int → Wo → Prop} (hinj : ∀ i j, i < NC → j < NC → ad i = ad j → i = j) (hNW : NW ≤ NC) (hy : plainName y.cls = true) (ho : y.cls = own) (hT : ∀ w ∈ Ts, w ∈ ws) (hw : ws = Cond.code y cc maxL (some .boolean) :: ws') (hfit : (lg_sl As).length ≤ maxL) (lv0 : List (Nat × Value)) (hlv : lv_args 0 As = lv0)
    (body : ∀ (p : Program) (e : Env) (s : State) (m : MethodId) (args : Array Value) (below : List Frame) (meth : Method) (c : Code) (Q : State → Prop), mk_X p m c cc maxL s args Ts own D cl tys NC NW ad zs →
      (∀ (J : Wo) (lv : List (Nat × Value)) (pc : Nat) (v : Int), decode cc pc = .ok (.ireturn, 1) → (v = 0 ∨ v = 1) → P v J → mk_A p l e rm s m args below meth c Q maxL D cl sh NC NW ad J lv pc [.int (zi v)]) →
      mk_A p l e rm s m args below meth c Q maxL D cl sh NC NW ad I lv0 0 []) : mk_C l y ws rm D cl tys sh NC NW ad zs As I (mk_pi P) := by
  subst hlv
  exact mk_met hinj hNW hy ho hT hw hfit (fun p e s m args below meth c X hr hlk => body p e s m args below meth c _ X (fun J lv pc v hd hz hp => mk_zret X hlk hr (zi_nb hz) hd ⟨v, rfl, hp⟩))
theorem mk_metv {P : Wo → Prop} (hinj : ∀ i j, i < NC → j < NC → ad i = ad j → i = j) (hNW : NW ≤ NC) (hy : plainName y.cls = true) (ho : y.cls = own) (hT : ∀ w ∈ Ts, w ∈ ws) (hw : ws = Cond.code y cc maxL none :: ws') (hfit : (lg_sl As).length ≤ maxL) (lv0 : List (Nat × Value)) (hlv : lv_args 0 As = lv0)
    (body : ∀ (p : Program) (e : Env) (s : State) (m : MethodId) (args : Array Value) (below : List Frame) (meth : Method) (c : Code) (Q : State → Prop), mk_X p m c cc maxL s args Ts own D cl tys NC NW ad zs →
      (∀ (J : Wo) (lv : List (Nat × Value)) (pc : Nat), decode cc pc = .ok (.return_, 1) → P J → mk_A p l e rm s m args below meth c Q maxL D cl sh NC NW ad J lv pc []) →
      mk_A p l e rm s m args below meth c Q maxL D cl sh NC NW ad I lv0 0 []) : mk_C l y ws rm D cl tys sh NC NW ad zs As I (mk_pv P) := by
  subst hlv
  exact mk_met hinj hNW hy ho hT hw hfit (fun p e s m args below meth c X hr hlk => body p e s m args below meth c _ X (fun J lv pc hd hp => mk_vret X hlk hr hd ⟨rfl, hp⟩))
end MKE
