/-! THE SEARCH of the open notes -/
def opf (c : Wo) : Nat → List Nat
  | 0 => []
  | k + 1 => opf c k ++ (if c 1 k = -2 then [k] else [])
def opl (c : Wo) : List Nat := opf c (cn c)
theorem opf_mem {c : Wo} {n : Nat} : ∀ k, n ∈ opf c k ↔ n < k ∧ c 1 n = -2 := by
  intro k
  induction k with
  | zero => simp [opf]
  | succ k ih =>
    simp only [opf, List.mem_append, ih]
    by_cases e : c 1 k = -2
    · rw [if_pos e]
      simp only [List.mem_singleton]
      constructor
      · rintro (z | z)
        · exact ⟨by omega, z.2⟩
        · rw [z]; exact ⟨by omega, e⟩
      · rintro ⟨z1, z2⟩
        by_cases q : n = k
        · exact Or.inr q
        · exact Or.inl ⟨by omega, z2⟩
    · rw [if_neg e]
      simp only [List.not_mem_nil, or_false]
      constructor
      · rintro z; exact ⟨by omega, z.2⟩
      · rintro ⟨z1, z2⟩
        refine ⟨?_, z2⟩
        by_cases q : n = k
        · rw [q] at z2; exact absurd z2 e
        · omega
theorem opf_len {c : Wo} : ∀ k, (opf c k).length ≤ k := by
  intro k
  induction k with
  | zero => simp [opf]
  | succ k ih =>
    simp only [opf, List.length_append]
    split <;> simp <;> omega
theorem opf_nd {c : Wo} : ∀ k, (opf c k).Nodup := by
  intro k
  induction k with
  | zero => simp [opf]
  | succ k ih =>
    simp only [opf]
    by_cases e : c 1 k = -2
    · rw [if_pos e]
      refine List.nodup_append.mpr ⟨ih, by simp, ?_⟩
      intro a ha b hb
      have h1 := (opf_mem k).mp ha
      simp at hb
      omega
    · rw [if_neg e, List.append_nil]; exact ih
def OpI (J : Wo) (q : Nat) (L : List Nat) : Prop := ∀ i n : Nat, L[i]? = some n → J q i = (n : Int)
theorem OpI_add {J K : Wo} {q n : Nat} {L : List Nat} (h : OpI J q L) (e : K = up2 J q L.length (n : Int)) : OpI K q (L ++ [n]) := by
  subst e
  intro i x hx
  by_cases z : i = L.length
  · subst z
    rw [up2_ss]
    have : n = x := by simpa using hx
    omega
  · have hlt : i < L.length := by
      obtain ⟨q, _⟩ := List.getElem?_eq_some_iff.mp hx
      simp at q
      omega
    rw [List.getElem?_append_left hlt] at hx
    rw [up2_o _ _ _ _ _ _ (Or.inr z)]
    exact h i x hx
theorem OpI_fr {J K : Wo} {q : Nat} {L : List Nat} (h : OpI J q L) (hf : ∀ b, K q b = J q b) : OpI K q L := fun i n hx => by rw [hf]; exact h i n hx
/-- the notes of L are open -/
def rop (c : Wo) (L : List Nat) : Wo := fun a b => if a = 1 ∧ b ∈ L then -2 else c a b
theorem rop_nil (c : Wo) : rop c [] = c := by
  funext a b
  simp [rop]
theorem rop_same {c : Wo} {L : List Nat} (h : ∀ n, n ∈ L → c 1 n = -2) : rop c L = c := by
  funext a b
  unfold rop
  by_cases e : a = 1 ∧ b ∈ L
  · rw [if_pos e, e.1]; exact (h b e.2).symm
  · rw [if_neg e]
theorem rop_snoc (c : Wo) (L : List Nat) (n : Nat) : rop c (L ++ [n]) = up2 (rop c L) 1 n (-2) := by
  funext a b
  unfold rop up2 up1
  by_cases e : a = 1
  · by_cases e2 : b = n
    · simp [e, e2]
    · simp [e, e2]
  · simp [e]
theorem rop_o {c : Wo} {L : List Nat} {a b : Nat} (h : ¬ a = 1) : rop c L a b = c a b := by
  unfold rop
  rw [if_neg (fun z => h z.1)]
theorem rop_n {c : Wo} {L : List Nat} {b : Nat} (h : ¬ b ∈ L) : rop c L 1 b = c 1 b := by
  unfold rop
  rw [if_neg (fun z => h z.2)]
theorem rop_y {c : Wo} {L : List Nat} {b : Nat} (h : b ∈ L) : rop c L 1 b = -2 := by
  unfold rop
  rw [if_pos ⟨rfl, h⟩]
def nxt (c : Wo) (n : Nat) : Int := if c 1 n = -2 then c 0 1 else c 1 n + 1
def tst (c : Wo) (n : Nat) : Wo := up2 (up2 c 0 7 (c 0 7 + 1)) 1 n (nxt c n)
noncomputable def cln (c : Wo) : Bool := decide (FL c = [])
theorem cln_y {c : Wo} (h : FL c = []) : cln c = true := by unfold cln; exact decide_eq_true h
theorem cln_n {c : Wo} (h : ¬ FL c = []) : cln c = false := by unfold cln; exact decide_eq_false h
noncomputable def sr (O : List Nat) (most : Int) : Nat → Int → Wo → Int × Wo
  | 0, _, c => (0, c)
  | f + 1, i, c => if i < 0 then (0, c) else match O[i.toNat]? with
    | none => (1, c)
    | some n => if c 0 2 < nxt c n then sr O most f (i - 1) (up2 c 1 n (-2)) else if c 0 7 = most then (-6, rop c O) else if cln (tst c n) = true then sr O most f (i + 1) (tst c n) else sr O most f i (tst c n)
section SR
variable {O : List Nat} {most i : Int} {f n : Nat} {c : Wo}
theorem sr_lo (h : i < 0) : sr O most (f + 1) i c = (0, c) := by
  rw [sr, if_pos h]
theorem sr_hi (h0 : 0 ≤ i) (h : (O.length : Int) ≤ i) : sr O most (f + 1) i c = (1, c) := by
  rw [sr, if_neg (by omega), List.getElem?_eq_none (by omega)]
theorem sr_bk (h0 : 0 ≤ i) (hn : O[i.toNat]? = some n) (h : c 0 2 < nxt c n) : sr O most (f + 1) i c = sr O most f (i - 1) (up2 c 1 n (-2)) := by
  rw [sr, if_neg (by omega), hn]
  simp only []
  rw [if_pos h]
theorem sr_out (h0 : 0 ≤ i) (hn : O[i.toNat]? = some n) (h : ¬ c 0 2 < nxt c n) (hm : c 0 7 = most) : sr O most (f + 1) i c = (-6, rop c O) := by
  rw [sr, if_neg (by omega), hn]
  simp only []
  rw [if_neg h, if_pos hm]
theorem sr_y (h0 : 0 ≤ i) (hn : O[i.toNat]? = some n) (h : ¬ c 0 2 < nxt c n) (hm : ¬ c 0 7 = most) (hc : FL (tst c n) = []) : sr O most (f + 1) i c = sr O most f (i + 1) (tst c n) := by
  rw [sr, if_neg (by omega), hn]
  simp only []
  rw [if_neg h, if_neg hm, if_pos (cln_y hc)]
theorem sr_n (h0 : 0 ≤ i) (hn : O[i.toNat]? = some n) (h : ¬ c 0 2 < nxt c n) (hm : ¬ c 0 7 = most) (hc : ¬ FL (tst c n) = []) : sr O most (f + 1) i c = sr O most f i (tst c n) := by
  rw [sr, if_neg (by omega), hn]
  simp only []
  rw [if_neg h, if_neg hm, if_neg (by rw [cln_n hc]; simp)]
end SR
/-- what a search keeps: c0 is what it began with -/
def SrI (c0 : Wo) (O : List Nat) (most i : Int) (c : Wo) : Prop := (∀ a b, ¬ (a = 1 ∧ b ∈ O) → ¬ (a = 0 ∧ b = 7) → c a b = c0 a b) ∧ (∀ n, n ∈ O → c 1 n = -2 ∨ (c0 0 1 ≤ c 1 n ∧ c 1 n ≤ c0 0 2)) ∧ (∀ k n : Nat, O[k]? = some n → i < (k : Int) → c 1 n = -2) ∧ (0 ≤ c 0 7 ∧ c 0 7 ≤ most) ∧ (-1 ≤ i ∧ i ≤ O.length)
theorem nd_inj {O : List Nat} (hd : O.Nodup) {i k n : Nat} (hi : O[i]? = some n) (hk : O[k]? = some n) : i = k := by
  obtain ⟨h1, e1⟩ := List.getElem?_eq_some_iff.mp hi
  obtain ⟨h2, e2⟩ := List.getElem?_eq_some_iff.mp hk
  have key := List.pairwise_iff_getElem.mp hd
  rcases Nat.lt_trichotomy i k with q | q | q
  · exact absurd (e1.trans e2.symm) (key i k h1 h2 q)
  · exact q
  · exact absurd (e2.trans e1.symm) (key k i h2 h1 q)
section SRI
variable {c0 c : Wo} {O : List Nat} {most i : Int} {n : Nat}
theorem up2_07 {x y : Int} {a b : Nat} (hn : ¬ (a = 1 ∧ b = n)) (h7 : ¬ (a = 0 ∧ b = 7)) : up2 (up2 c 0 7 x) 1 n y a b = c a b := by
  rw [up2_o _ _ _ _ _ _ (by omega), up2_o _ _ _ _ _ _ (by omega)]
theorem sri_bk (hd : O.Nodup) (h : SrI c0 O most i c) (h0 : 0 ≤ i) (hn : O[i.toNat]? = some n) : SrI c0 O most (i - 1) (up2 c 1 n (-2)) := by
  obtain ⟨h1, h2, h3, h4, h5⟩ := h
  have hm : n ∈ O := List.mem_of_getElem? hn
  refine ⟨fun a b x y => ?_, fun m hmO => ?_, fun k m hk hik => ?_, ?_, by omega⟩
  · rw [up2_o _ _ _ _ _ _ (by by_cases e : a = 1; exact Or.inr (fun z => x ⟨e, by rw [z]; exact hm⟩); exact Or.inl e)]
    exact h1 a b x y
  · by_cases e : m = n
    · rw [e, up2_ss]; exact Or.inl rfl
    · rw [up2_o _ _ _ _ _ _ (Or.inr e)]; exact h2 m hmO
  · by_cases e : m = n
    · rw [e, up2_ss]
    · rw [up2_o _ _ _ _ _ _ (Or.inr e)]
      by_cases e2 : (k : Int) = i
      · exfalso
        apply e
        rw [show i.toNat = k by omega, hk] at hn
        simpa using hn
      · exact h3 k m hk (by omega)
  · rw [up2_o _ _ _ _ _ _ (by omega)]; exact h4
theorem nxt_b (hw : wfS c0) (h : SrI c0 O most i c) (hm : n ∈ O) : c0 0 1 ≤ nxt c n ∧ nxt c n ≤ 128 ∧ c 0 1 = c0 0 1 ∧ c 0 2 = c0 0 2 := by
  obtain ⟨h1, h2, h3, h4, h5⟩ := h
  have e1 := h1 0 1 (by omega) (by omega)
  have e2 := h1 0 2 (by omega) (by omega)
  have := hw.1
  unfold nxt
  rcases h2 n hm with q | q
  · rw [if_pos q]; omega
  · rw [if_neg (by omega)]; omega
theorem sri_try (hd : O.Nodup) (hw : wfS c0) (h : SrI c0 O most i c) (h0 : 0 ≤ i) (hn : O[i.toNat]? = some n) (hx : ¬ c 0 2 < nxt c n) (hs : ¬ c 0 7 = most) : SrI c0 O most i (tst c n) ∧ SrI c0 O most (i + 1) (tst c n) := by
  have hm : n ∈ O := List.mem_of_getElem? hn
  obtain ⟨b1, b2, b3, b4⟩ := nxt_b hw h hm
  obtain ⟨h1, h2, h3, h4, h5⟩ := h
  have hlen : i.toNat < O.length := (List.getElem?_eq_some_iff.mp hn).1
  have g1 : ∀ a b, ¬ (a = 1 ∧ b ∈ O) → ¬ (a = 0 ∧ b = 7) → tst c n a b = c0 a b := fun a b x y => by
    unfold tst
    rw [up2_07 (fun z => x ⟨z.1, by rw [z.2]; exact hm⟩) y]
    exact h1 a b x y
  have g2 : ∀ m, m ∈ O → tst c n 1 m = -2 ∨ (c0 0 1 ≤ tst c n 1 m ∧ tst c n 1 m ≤ c0 0 2) := fun m hmO => by
    unfold tst
    by_cases e : m = n
    · rw [e, up2_ss]; right; omega
    · rw [up2_07 (by omega) (by omega)]; exact h2 m hmO
  have g4 : tst c n 0 7 = c 0 7 + 1 := by
    unfold tst
    rw [up2_o _ _ _ _ _ _ (by omega), up2_ss]
  have g3 : ∀ k m : Nat, O[k]? = some m → i < (k : Int) → ¬ m = n → tst c n 1 m = -2 := fun k m hk hik e => by
    unfold tst
    rw [up2_07 (by omega) (by omega)]
    exact h3 k m hk hik
  have g5 : ∀ k m : Nat, O[k]? = some m → i < (k : Int) → tst c n 1 m = -2 ∨ m = n := fun k m hk hik => by
    by_cases e : m = n
    · exact Or.inr e
    · exact Or.inl (g3 k m hk hik e)
  refine ⟨⟨g1, g2, fun k m hk hik => ?_, by omega, by omega⟩, ⟨g1, g2, fun k m hk hik => ?_, by omega, by omega⟩⟩
  all_goals
    rcases g5 k m hk (by omega) with q | q
    · exact q
    · exfalso
      subst q
      have := nd_inj hd hn hk
      omega
end SRI

section SW
variable {c0 c : Wo} {O : List Nat} {most i : Int} {n : Nat}
theorem SrI_wf (hw : wfC c0) (hO : ∀ m, m ∈ O → m < cn c0 ∧ c0 1 m = -2) (hm : most ≤ 3000) (h : SrI c0 O most i c) : wfC c ∧ Rl c0 c := by
  obtain ⟨hN, hS, hV, hF⟩ := hw
  obtain ⟨h1, h2, h3, h4, h5⟩ := h
  have hcn := cn_e hN
  have e0 : ∀ b, ¬ b = 7 → c 0 b = c0 0 b := fun b hb => h1 0 b (by omega) (by omega)
  have e2 : ∀ a b, 2 ≤ a → c a b = c0 a b := fun a b ha => h1 a b (by omega) (by omega)
  have e1 : ∀ j, (c 1 j = c0 1 j ∧ ¬ j ∈ O) ∨ (j ∈ O ∧ (c 1 j = -2 ∨ (c0 0 1 ≤ c 1 j ∧ c 1 j ≤ c0 0 2)) ∧ c0 1 j = -2) := fun j => by
    by_cases z : j ∈ O
    · exact Or.inr ⟨z, h2 j z, (hO j z).2⟩
    · exact Or.inl ⟨h1 1 j (fun y => z y.2) (by omega), z⟩
  have hb := hS.1
  refine ⟨⟨⟨by rw [e0 0 (by omega)]; exact hN.1, fun j hj => ?_⟩, ?_, ?_, ?_⟩, ?_⟩
  · rw [e0 0 (by omega)] at hj
    have q := hN.2 j hj
    rw [e2 2 j (by omega)]
    refine ⟨?_, q.2⟩
    rcases e1 j with z | z
    · rw [z.1]; exact q.1
    · omega
  · unfold wfS at hS ⊢
    rw [e0 1 (by omega), e0 2 (by omega), e0 3 (by omega), e0 4 (by omega), e0 5 (by omega), e0 6 (by omega)]
    exact ⟨hS.1, hS.2.1, hS.2.2.1, hS.2.2.2.1, hS.2.2.2.2.1, by omega⟩
  · unfold wfV at hV ⊢
    refine ⟨fun v hv => ?_, ?_⟩
    · rw [e2 _ 0 (by omega), e2 _ 1 (by omega), e2 _ 2 (by omega), e2 _ 3 (by omega), e2 _ 4 (by omega)]; exact hV.1 v hv
    · rw [e2 3 0 (by omega), e2 3 1 (by omega), e2 3 2 (by omega), e2 3 3 (by omega), e2 3 4 (by omega)]; exact hV.2
  · unfold wfF at hF ⊢
    refine ⟨by rw [e0 8 (by omega)]; exact hF.1, fun k hk => ?_⟩
    rw [e0 8 (by omega)] at hk
    rw [e2 8 k (by omega), e2 9 k (by omega)]; exact hF.2 k hk
  · refine ⟨e0 0 (by omega), e0 6 (by omega), funext (fun b => e2 2 b (by omega)), fun v hv => ⟨e2 _ 0 (by omega), e2 _ 1 (by omega), e2 _ 3 (by omega), e2 _ 4 (by omega)⟩, fun j => ?_⟩
    rcases e1 j with z | z
    · rw [z.1]
    · omega
theorem SrI_rop (h : SrI c0 O most i c) {L : List Nat} (hL : ∀ m, m ∈ L → m ∈ O) {k : Int} (hk : ∀ q m : Nat, O[q]? = some m → k < (q : Int) → c 1 m = -2 ∨ m ∈ L) (hkb : -1 ≤ k ∧ k ≤ O.length) : SrI c0 O most k (rop c L) := by
  obtain ⟨h1, h2, h3, h4, h5⟩ := h
  refine ⟨fun a b x y => ?_, fun m hm => ?_, fun q m hq hkq => ?_, by rw [rop_o (by omega)]; exact h4, hkb⟩
  · by_cases e : a = 1
    · subst e
      rw [rop_n (fun z => x ⟨rfl, hL b z⟩)]
      exact h1 1 b x y
    · rw [rop_o e]; exact h1 a b x y
  · by_cases e : m ∈ L
    · rw [rop_y e]; exact Or.inl rfl
    · rw [rop_n e]; exact h2 m hm
  · by_cases e : m ∈ L
    · rw [rop_y e]
    · rw [rop_n e]; exact (hk q m hq hkq).resolve_right e
/-- every beginning of the search that stands is clean -/
def CkI (O : List Nat) (i : Int) (c : Wo) : Prop := ∀ k : Nat, (k : Int) ≤ i → FL (rop c (O.drop k)) = []
theorem mem_drop {q k m : Nat} (hq : O[q]? = some m) (h : k ≤ q) : m ∈ O.drop k := by
  refine List.mem_of_getElem? (i := q - k) ?_
  rw [List.getElem?_drop, show k + (q - k) = q by omega]
  exact hq
theorem drop_sub {k m : Nat} (h : m ∈ O.drop k) : ∃ q : Nat, k ≤ q ∧ O[q]? = some m := by
  obtain ⟨j, hj⟩ := List.getElem?_of_mem h
  rw [List.getElem?_drop] at hj
  exact ⟨k + j, by omega, hj⟩
theorem ck_bk (h : CkI O i c) (h0 : 0 ≤ i) (hn : O[i.toNat]? = some n) : CkI O (i - 1) (up2 c 1 n (-2)) := by
  intro k hk
  have e : rop (up2 c 1 n (-2)) (O.drop k) = rop c (O.drop k) := by
    funext a b
    unfold rop
    by_cases z : a = 1 ∧ b ∈ O.drop k
    · rw [if_pos z, if_pos z]
    · rw [if_neg z, if_neg z, up2_o _ _ _ _ _ _ (by
        by_cases y : a = 1
        · exact Or.inr (fun w => z ⟨y, by rw [w]; exact mem_drop hn (by omega)⟩)
        · exact Or.inl y)]
  rw [e]
  exact h k (by omega)
theorem tst_o {a b : Nat} (hn : ¬ (a = 1 ∧ b = n)) (h7 : ¬ (a = 0 ∧ b = 7)) : tst c n a b = c a b := up2_07 hn h7
theorem tst_n : tst c n 1 n = nxt c n := up2_ss _ _ _ _
theorem FL_07 (hw : wfC c0) (hO : ∀ m, m ∈ O → m < cn c0 ∧ c0 1 m = -2) (hm : most ≤ 3000) (hnt : NTL c0) {d e : Wo} {k1 k2 : Int} (h1 : SrI c0 O most k1 d) (h2 : SrI c0 O most k2 e) (he : ∀ a b, ¬ (a = 0 ∧ b = 7) → e a b = d a b) : FL e = FL d := by
  obtain ⟨w1, r1⟩ := SrI_wf hw hO hm h1
  obtain ⟨w2, r2⟩ := SrI_wf hw hO hm h2
  exact FL_eq w1.1 w1.2.1 w1.2.2.1 (r1.ntl hnt) w2.1 w2.2.1 w2.2.2.1 (r1.sy.tr r2) ⟨he 0 1 (by omega), he 0 2 (by omega), he 0 3 (by omega), he 0 4 (by omega), he 0 5 (by omega)⟩ (fun v hv => he _ 2 (by omega)) (funext (fun b => he 1 b (by omega)))
theorem ck_try (hw : wfC c0) (hO : ∀ m, m ∈ O → m < cn c0 ∧ c0 1 m = -2) (hm : most ≤ 3000) (hd : O.Nodup) (hnt : NTL c0) (h : SrI c0 O most i c) (hc : CkI O i c) (h0 : 0 ≤ i) (hn : O[i.toNat]? = some n) (hx : ¬ c 0 2 < nxt c n) (hs : ¬ c 0 7 = most) : CkI O i (tst c n) ∧ (FL (tst c n) = [] → CkI O (i + 1) (tst c n)) := by
  obtain ⟨t1, t2⟩ := sri_try hd hw.2.1 h h0 hn hx hs
  have hlen : i.toNat < O.length := (List.getElem?_eq_some_iff.mp hn).1
  have key : CkI O i (tst c n) := by
    intro k hk
    have s1 : SrI c0 O most i (rop c (O.drop k)) := SrI_rop h (fun m z => (drop_sub z).elim (fun q y => List.mem_of_getElem? y.2)) (fun q m a b => Or.inl (h.2.2.1 q m a b)) h.2.2.2.2
    have s2 : SrI c0 O most i (rop (tst c n) (O.drop k)) := SrI_rop t1 (fun m z => (drop_sub z).elim (fun q y => List.mem_of_getElem? y.2)) (fun q m a b => Or.inl (t1.2.2.1 q m a b)) h.2.2.2.2
    rw [FL_07 hw hO hm hnt s1 s2 (fun a b y => ?_)]
    · exact hc k hk
    · unfold rop
      by_cases z : a = 1 ∧ b ∈ O.drop k
      · rw [if_pos z, if_pos z]
      · rw [if_neg z, if_neg z]
        refine tst_o (fun w => z ⟨w.1, ?_⟩) y
        rw [w.2]
        exact mem_drop hn (by omega)
  refine ⟨key, fun hF k hk => ?_⟩
  by_cases e : (k : Int) = i + 1
  · rw [rop_same (fun m z => ?_)]
    · exact hF
    · obtain ⟨q, y1, y2⟩ := drop_sub z
      exact t1.2.2.1 q m y2 (by omega)
  · exact key k (by omega)
/-- which moments the notes touch -/
def TchI (c J : Wo) (N : Nat) : Prop := ∀ m, m < N → ∀ n, n < 24 → tbit (J 9 m) n = false → ∀ v, v < 4 → ¬ dPt c (J 8 m) v = 1000 → ¬ ndd c v (cpl c v (J 8 m)).toNat n
theorem jdg (hw : wfC c0) (hO : ∀ m, m ∈ O → m < cn c0 ∧ c0 1 m = -2) (hm : most ≤ 3000) (hd : O.Nodup) (hnt : NTL c0) {J : Wo} {N : Nat} (hM : MomA c0 J N) (hT : TchI c0 J N) (h : SrI c0 O most i c) (hc : CkI O i c) (h0 : 0 ≤ i) (hn : O[i.toNat]? = some n) (hx : ¬ c 0 2 < nxt c n) (hs : ¬ c 0 7 = most) : FL (tst c n) = [] ↔ FN (tst c n) J (zishl 1 n) N = [] := by
  obtain ⟨t1, t2⟩ := sri_try hd hw.2.1 h h0 hn hx hs
  have hnO : n ∈ O := List.mem_of_getElem? hn
  have hlen : i.toNat < O.length := (List.getElem?_eq_some_iff.mp hn).1
  obtain ⟨w2, r2⟩ := SrI_wf hw hO hm t1
  have s1 : SrI c0 O most i (rop c (O.drop i.toNat)) := SrI_rop h (fun m z => (drop_sub z).elim (fun q y => List.mem_of_getElem? y.2)) (fun q m a b => Or.inl (h.2.2.1 q m a b)) h.2.2.2.2
  obtain ⟨w1, r1⟩ := SrI_wf hw hO hm s1
  have hcl := hc i.toNat (by omega)
  have M1 := r1.mom hw.1 hw.2.2.1 w1.1 w1.2.2.1 hM
  have M2 := r2.mom hw.1 hw.2.2.1 w2.1 w2.2.2.1 hM
  rw [FL_nil M2, FN_nil]
  constructor
  · intro z m hmN _
    exact z m hmN
  · intro z m hmN
    by_cases ht : ziand (J 9 m) (zishl 1 n) = 0
    · have hn24 : n < 24 := by
        have := (hO n hnO).1
        have := cn_e hw.1
        omega
      have hb := tb_off hn24 ht
      have q := hT m hmN n hn24 hb
      rw [frs_note (n := n) (r1.sy.tr r2) w1.1 w1.2.1 w1.2.2.1 w2.1 w2.2.1 w2.2.2.1 (r1.ntl hnt) (M1.1 m hmN).1 ?_ ?_ ?_ ?_ 8]
      · exact (FL_nil M1).mp hcl m hmN
      · refine ⟨?_, ?_, ?_, ?_, ?_⟩ <;> rw [tst_o (by omega) (by omega), rop_o (by omega)]
      · intro v hv
        rw [tst_o (by omega) (by omega), rop_o (by omega)]
      · intro j hj
        rw [tst_o (by omega) (by omega)]
        by_cases e : j ∈ O.drop i.toNat
        · rw [rop_y e]
          obtain ⟨p, y1, y2⟩ := drop_sub e
          by_cases e3 : p = i.toNat
          · rw [e3, hn] at y2
            exact absurd (by simpa using y2.symm) hj
          · exact h.2.2.1 p j y2 (by omega)
        · rw [rop_n e]
      · intro v hv hz
        have hz0 : ¬ dPt c0 (J 8 m) v = 1000 := fun y => hz ((r1.so hw.1 hw.2.2.1 w1.1 w1.2.2.1 hv _).mpr y)
        have := q v hv hz0
        unfold ndd at this ⊢
        rw [r1.e_cpl hv, r1.e_cbef hv, r1.e_cbeh hv, r1.e_cnt hv, r1.e_cnt hv, r1.e_cnt hv, r1.e_fsr, (r1.2.2.2.1 v hv).2.2.1]
        exact this
    · exact z m hmN ht
end SW
theorem tch_all {c J : Wo} {N : Nat} (h : wfN c) (hS : wfS c) (hV : wfV c) (hM : MomA c J N) (hT : TchI c J N) : ∀ m, m < N → ¬ ziand (J 9 m) (-1) = 0 := by
  intro m hm
  obtain ⟨_, v, hv, hs⟩ := hM.1 m hm
  have hp := csk_pl hs.2
  have hcn := cn_e h
  have hb := (cpl_b h hV hv (J 8 m)).resolve_left hp.1
  have hlt := cnt_lt (c := c) (v := v) (j := (cpl c v (J 8 m)).toNat) (by omega)
  refine tb_all (n := cnt c v (cpl c v (J 8 m)).toNat) (by omega) ?_
  cases hb2 : tbit (J 9 m) (cnt c v (cpl c v (J 8 m)).toNat)
  · exfalso
    refine hT m hm _ (by omega) hb2 v hv ?_ (Or.inl rfl)
    unfold dPt
    rw [if_pos hs.1]
    exact hp.2
  · rfl
/-! solve, in words: what it answers, what is left -/
def slvR (c : Wo) (most r : Int) (d : Wo) : Prop := ((most < 0 ∨ 3000 < most) ∧ r = -2 ∧ d = c) ∨ (¬ (most < 0 ∨ 3000 < most) ∧ (∃ v, v < 4 ∧ tl c v) ∧ r = -3 ∧ d = c) ∨ (¬ (most < 0 ∨ 3000 < most) ∧ NTL c ∧ ¬ FL (up2 c 0 7 0) = [] ∧ r = 0 ∧ d = up2 c 0 7 0) ∨ (¬ (most < 0 ∨ 3000 < most) ∧ NTL c ∧ FL (up2 c 0 7 0) = [] ∧ (r, d) = sr (opl c) most 6003 0 (up2 c 0 7 0))
theorem slvR_fun {c : Wo} {most r r' : Int} {d d' : Wo} (h : slvR c most r d) (h' : slvR c most r' d') : r = r' ∧ d = d' := by
  have ntl : ∀ {x : Wo}, NTL x → (∃ v, v < 4 ∧ tl x v) → False := fun a b => b.elim (fun v z => a v z.1 z.2)
  rcases h with ⟨a, b, e⟩ | ⟨a, a2, b, e⟩ | ⟨a, a2, a3, b, e⟩ | ⟨a, a2, a3, b⟩ <;> rcases h' with ⟨a', b', e'⟩ | ⟨a', a2', b', e'⟩ | ⟨a', a2', a3', b', e'⟩ | ⟨a', a2', a3', b'⟩
  all_goals first
    | exact absurd a a'
    | exact absurd a' a
    | exact ⟨b.trans b'.symm, e.trans e'.symm⟩
    | exact (ntl a2 a2').elim
    | exact (ntl a2' a2).elim
    | exact absurd a3 a3'
    | exact absurd a3' a3
    | (have := b.trans b'.symm; simpa using this)
theorem sr_start {c : Wo} {most : Int} (hw : wfC c) (hm : ¬ (most < 0 ∨ 3000 < most)) : SrI (up2 c 0 7 0) (opl c) most 0 (up2 c 0 7 0) ∧ (opl c).Nodup ∧ (∀ m, m ∈ opl c → m < cn (up2 c 0 7 0) ∧ up2 c 0 7 0 1 m = -2) ∧ wfC (up2 c 0 7 0) ∧ Rl c (up2 c 0 7 0) := by
  have e : ∀ a b, ¬ (a = 0 ∧ b = 7) → up2 c 0 7 0 a b = c a b := fun a b h => up2_o _ _ _ _ _ _ (by omega)
  have hcn : cn (up2 c 0 7 0) = cn c := by unfold cn; rw [e 0 0 (by omega)]
  have hmem : ∀ m, m ∈ opl c → m < cn (up2 c 0 7 0) ∧ up2 c 0 7 0 1 m = -2 := fun m hmO => by
    have := (opf_mem (cn c)).mp hmO
    rw [hcn, e 1 m (by omega)]
    exact this
  refine ⟨⟨fun _ _ _ _ => rfl, fun m hmO => Or.inl (hmem m hmO).2, fun k m hk _ => (hmem m (List.mem_of_getElem? hk)).2, by rw [up2_ss]; omega, by omega, by omega⟩, opf_nd _, hmem, ?_, ?_⟩
  · obtain ⟨hN, hS, hV, hF⟩ := hw
    refine ⟨⟨by rw [e 0 0 (by omega)]; exact hN.1, fun j hj => by rw [e 1 j (by omega), e 2 j (by omega)]; exact hN.2 j (by rw [e 0 0 (by omega)] at hj; exact hj)⟩, ?_, ?_, ⟨by rw [e 0 8 (by omega)]; exact hF.1, fun k hk => by rw [e 8 k (by omega), e 9 k (by omega)]; exact hF.2 k (by rw [e 0 8 (by omega)] at hk; exact hk)⟩⟩
    · unfold wfS at hS ⊢
      rw [e 0 1 (by omega), e 0 2 (by omega), e 0 3 (by omega), e 0 4 (by omega), e 0 5 (by omega), e 0 6 (by omega), up2_ss]
      exact ⟨hS.1, hS.2.1, hS.2.2.1, hS.2.2.2.1, hS.2.2.2.2.1, by omega⟩
    · unfold wfV at hV ⊢
      refine ⟨fun v hv => ?_, ?_⟩
      · rw [e _ 0 (by omega), e _ 1 (by omega), e _ 2 (by omega), e _ 3 (by omega), e _ 4 (by omega)]; exact hV.1 v hv
      · rw [e 3 0 (by omega), e 3 1 (by omega), e 3 2 (by omega), e 3 3 (by omega), e 3 4 (by omega)]; exact hV.2
  · exact ⟨e 0 0 (by omega), e 0 6 (by omega), funext (fun b => e 2 b (by omega)), fun v hv => ⟨e _ 0 (by omega), e _ 1 (by omega), e _ 3 (by omega), e _ 4 (by omega)⟩, fun j => by rw [e 1 j (by omega)]⟩
