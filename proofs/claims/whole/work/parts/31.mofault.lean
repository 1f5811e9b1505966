/-! fault, in words -/
def ftw (x : Ft) (w : Int) : Int := if w = 0 then x.1 else if w = 1 then x.2.1 else if w = 2 then (x.2.2.1 : Int) else if w = 3 then (x.2.2.2 : Int) else -2
def fltR (c : Wo) (r : Int) : Prop := ((∃ v, v < 4 ∧ tl c v) ∧ r = -3) ∨ ((∀ v, v < 4 → ¬ tl c v) ∧ r = (FL c).length)
def ftR (c : Wo) (k w r : Int) : Prop := ((∃ v, v < 4 ∧ tl c v) ∧ r = -3) ∨ ((∀ v, v < 4 → ¬ tl c v) ∧ (k < 0 ∨ ((FL c).length : Int) ≤ k) ∧ r = -1) ∨ ((∀ v, v < 4 → ¬ tl c v) ∧ 0 ≤ k ∧ ∃ x, (FL c)[k.toNat]? = some x ∧ r = ftw x w)
theorem fltR_fun {c : Wo} {r r' : Int} (h : fltR c r) (h' : fltR c r') : r = r' := by
  rcases h with ⟨⟨v, a, b⟩, e⟩ | ⟨a, e⟩ <;> rcases h' with ⟨⟨v', a', b'⟩, e'⟩ | ⟨a', e'⟩
  · exact e.trans e'.symm
  · exact absurd b (a' v a)
  · exact absurd b' (a v' a')
  · exact e.trans e'.symm
theorem ftR_fun {c : Wo} {k w r r' : Int} (h : ftR c k w r) (h' : ftR c k w r') : r = r' := by
  have key : ∀ x : Ft, 0 ≤ k → (FL c)[k.toNat]? = some x → ¬ (k < 0 ∨ ((FL c).length : Int) ≤ k) := by
    intro x h0 hx z
    obtain ⟨q, _⟩ := List.getElem?_eq_some_iff.mp hx
    omega
  rcases h with ⟨⟨v, a, b⟩, e⟩ | ⟨a, b, e⟩ | ⟨a, b, x, d, e⟩ <;> rcases h' with ⟨⟨v', a', b'⟩, e'⟩ | ⟨a', b', e'⟩ | ⟨a', b', x', d', e'⟩
  · exact e.trans e'.symm
  · exact absurd b (a' v a)
  · exact absurd b (a' v a)
  · exact absurd b' (a v' a')
  · exact e.trans e'.symm
  · exact absurd b (key x' b' d')
  · exact absurd b' (a v' a')
  · exact absurd b' (key x b d)
  · have : x = x' := by
      rw [d] at d'
      simpa using d'
    rw [e, e', this]
theorem FL_len {c : Wo} (h : wfN c) (hS : wfS c) (hV : wfV c) : (FL c).length ≤ 160256 := by
  have h1 := fts_len (c := c) (an_end c).toNat
  have h2 := an_end_b h hS hV
  unfold FL
  omega
def kk (k : Int) : Int := if k = 2147483647 then -2147483648 else k + 1
theorem kk_z {k : Int} : zi (k + 1) = zi (kk k) := by
  unfold kk
  by_cases e : k = 2147483647
  · rw [if_pos e, e]; decide
  · rw [if_neg e]
theorem kk_b {k : Int} (h : -2147483648 ≤ k ∧ k < 2147483648) : -2147483648 ≤ kk k ∧ kk k < 2147483648 := by
  unfold kk
  split <;> omega
theorem jd_k {c I J : Wo} {k r : Int} (hl : (FL c).length ≤ 160256) (hk : -2147483648 ≤ k ∧ k < 2147483648) (h0 : 0 ≤ k) (h : jdP c I (kk k) r J) : (-2147483648 ≤ r ∧ r < 2147483648) ∧ ((k < r ∧ ∃ x, (FL c)[k.toNat]? = some x ∧ J 0 20 = x.1 ∧ J 0 21 = x.2.1 ∧ J 0 22 = x.2.2.1 ∧ J 0 23 = x.2.2.2) ∨ (r ≤ k ∧ ((FL c).length : Int) ≤ k)) := by
  have hb := kk_b hk
  rcases h.2 with ⟨n, x, h1, h2, h3, h4, h5⟩ | ⟨h1, h2⟩
  · refine ⟨by omega, Or.inl ?_⟩
    have e : k = n := by
      unfold kk at h1
      by_cases e : k = 2147483647
      · rw [if_pos e] at h1; omega
      · rw [if_neg e] at h1; omega
    refine ⟨by omega, x, ?_, h5⟩
    rw [e, Int.toNat_natCast]
    exact h4
  · refine ⟨by omega, Or.inr ?_⟩
    unfold kk at h1
    by_cases e : k = 2147483647
    · rw [if_pos e] at h1; omega
    · rw [if_neg e] at h1; omega
/-! the reference's solve -/
section SV
variable {c I J K : Wo} {q k : Nat} {n : Int}
theorem op_y (h : OpI J q (opf c k)) (hc : c 1 k = -2) (hn : n = ((opf c k).length : Int)) (e : K = up2 J q n.toNat (k : Int)) : OpI K q (opf c (k + 1)) := by
  simp only [opf]
  rw [if_pos hc]
  refine OpI_add h ?_
  rw [e, hn, Int.toNat_natCast]
theorem op_n (h : OpI J q (opf c k)) (hc : ¬ c 1 k = -2) : OpI J q (opf c (k + 1)) := by
  simp only [opf]
  rw [if_neg hc, List.append_nil]
  exact h
theorem op_ly (hc : c 1 k = -2) (hn : n = ((opf c k).length : Int)) : n + 1 = ((opf c (k + 1)).length : Int) := by
  simp only [opf]
  rw [if_pos hc]
  simp
  omega
theorem op_ln (hc : ¬ c 1 k = -2) (hn : n = ((opf c k).length : Int)) : n = ((opf c (k + 1)).length : Int) := by
  simp only [opf]
  rw [if_neg hc, List.append_nil]
  exact hn
theorem op_0 : OpI J q (opf c 0) := fun i n h => by simp [opf] at h
theorem mo_op (h : moR c I) (h14 : J 0 14 = 0) (hf : ∀ a b, ¬ a = 12 → ¬ (a = 0 ∧ b = 14) → J a b = I a b) : moR (up2 c 0 7 0) J := by
  have h1 := mo_s_steps h (x := 0) (by omega)
  refine moR_fr (fun a b x y => ?_) h1
  by_cases e : a = 0 ∧ b = 14
  · rw [e.1, e.2, h14, up2_ss]
  · rw [up2_o _ _ _ _ _ _ (by omega)]
    exact hf a b (by omega) e
theorem take_s {O : List Nat} {q n : Nat} (h : O[q]? = some n) : O.take (q + 1) = O.take q ++ [n] := by
  rw [List.take_add_one, h]
  rfl
theorem rop_take {O : List Nat} {q n : Nat} (h : O[q]? = some n) : rop c (O.take (q + 1)) = up2 (rop c (O.take q)) 1 n (-2) := by
  rw [take_s h, rop_snoc]
end SV
section SX
variable {O : List Nat} {most i : Int} {T n : Nat} {c : Wo} {R : Int × Wo}
theorem sx_lo (hT : T < 6003) (h : i < 0) (e : sr O most (6003 - T) i c = R) : (0, c) = R := by
  rw [← e, show 6003 - T = (6002 - T) + 1 by omega, sr_lo h]
theorem sx_hi (hT : T < 6003) (h0 : 0 ≤ i) (h : (O.length : Int) ≤ i) (e : sr O most (6003 - T) i c = R) : (1, c) = R := by
  rw [← e, show 6003 - T = (6002 - T) + 1 by omega, sr_hi h0 h]
theorem sx_bk (hT : T < 6003) (h0 : 0 ≤ i) (hn : O[i.toNat]? = some n) (h : c 0 2 < nxt c n) (e : sr O most (6003 - T) i c = R) : sr O most (6003 - (T + 1)) (i + (-1)) (up2 c 1 n (-2)) = R := by
  rw [← e, show 6003 - T = (6003 - (T + 1)) + 1 by omega, sr_bk h0 hn h]
  rfl
theorem sx_out (hT : T < 6003) (h0 : 0 ≤ i) (hn : O[i.toNat]? = some n) (h : ¬ c 0 2 < nxt c n) (hm : c 0 7 = most) (e : sr O most (6003 - T) i c = R) : (-6, rop c O) = R := by
  rw [← e, show 6003 - T = (6002 - T) + 1 by omega, sr_out h0 hn h hm]
theorem sx_y (hT : T < 6003) (h0 : 0 ≤ i) (hn : O[i.toNat]? = some n) (h : ¬ c 0 2 < nxt c n) (hm : ¬ c 0 7 = most) (hc : FL (tst c n) = []) (e : sr O most (6003 - T) i c = R) : sr O most (6003 - (T + 1)) (i + 1) (tst c n) = R := by
  rw [← e, show 6003 - T = (6003 - (T + 1)) + 1 by omega, sr_y h0 hn h hm hc]
theorem sx_n (hT : T < 6003) (h0 : 0 ≤ i) (hn : O[i.toNat]? = some n) (h : ¬ c 0 2 < nxt c n) (hm : ¬ c 0 7 = most) (hc : ¬ FL (tst c n) = []) (e : sr O most (6003 - T) i c = R) : sr O most (6003 - (T + 1)) (i + 0) (tst c n) = R := by
  rw [← e, show 6003 - T = (6003 - (T + 1)) + 1 by omega, sr_n h0 hn h hm hc, Int.add_zero]
theorem sri_bq {c0 : Wo} (hd : O.Nodup) (h : SrI c0 O most i c) (h0 : 0 ≤ i) (hn : O[i.toNat]? = some n) : SrI c0 O most (i + (-1)) (up2 c 1 n (-2)) := sri_bk hd h h0 hn
theorem tst_7 : tst c n 0 7 = c 0 7 + 1 := by
  unfold tst
  rw [up2_o _ _ _ _ _ _ (by omega), up2_ss]
end SX
/-! the reference's shifts -/
def MsI (c I J : Wo) (u : Nat) (L : List (Int × Int)) : Prop := (∀ a b, (a < 8 ∨ 15 < a) → ¬ a = 3 → ¬ (a = 4 ∧ b = u) → ¬ (a = 5 ∧ b = u) → ¬ (a = 0 ∧ 18 < b ∧ b < 24) → ¬ (a = 0 ∧ b = 27) → J a b = I a b) ∧ (∀ j, j < 4 → J 3 j = if j = 0 ∨ j = u then 1 else 0) ∧ (∀ j, 1 ≤ j → j < 4 → J 15 j = c (3 + j) 0) ∧ J 0 27 = (L.length : Int) ∧ ∀ (k : Nat) x, L[k]? = some x → J 13 k = x.1 ∧ J 14 k = x.2
section MS
variable {c I J K : Wo} {u : Nat} {L : List (Int × Int)} {d i : Int}
theorem ms_R (h : moR c I) (hu : 1 ≤ u ∧ u < 4) (hM : MsI c I J u L) (hL : shB L) (h4 : J 4 u = d) (h5 : J 5 u = i) (hd : 0 ≤ d ∧ d ≤ 100) (hi : -24 ≤ i ∧ i ≤ 24) : moR (swl (scf c u d i) L) J := by
  obtain ⟨f, f3, f15, f27, fL⟩ := hM
  obtain ⟨hw, g1, g2, g3, g4⟩ := h
  have e : ∀ a b, ¬ (a = 0 ∧ b = 8) → a < 8 → ¬ (4 ≤ a ∧ a < 7) → swl (scf c u d i) L a b = c a b := fun a b x y z => by rw [swl_o x (by omega) (by omega), scf_0 z hu]
  have fr : ∀ b, ¬ (18 < b ∧ b < 24) → ¬ b = 27 → J 0 b = I 0 b := fun b x y => f 0 b (by omega) (by omega) (by omega) (by omega) (by omega) (by omega)
  refine ⟨swl_wf (scf_wf hw hu hd hi) hL, ⟨?_, fun j hj => ?_⟩, ?_, fun j hj => ?_, ?_, fun k hk => ?_⟩
  · rw [fr 2 (by omega) (by omega), e 0 0 (by omega) (by omega) (by omega)]; exact g1.1
  · rw [e 0 0 (by omega) (by omega) (by omega)] at hj
    rw [f 1 j (by omega) (by omega) (by omega) (by omega) (by omega) (by omega), f 2 j (by omega) (by omega) (by omega) (by omega) (by omega) (by omega), e 1 j (by omega) (by omega) (by omega), e 2 j (by omega) (by omega) (by omega)]
    exact g1.2 j hj
  · unfold moS at g2 ⊢
    rw [fr 8 (by omega) (by omega), fr 9 (by omega) (by omega), fr 10 (by omega) (by omega), fr 11 (by omega) (by omega), fr 13 (by omega) (by omega), fr 12 (by omega) (by omega), fr 14 (by omega) (by omega), e 0 1 (by omega) (by omega) (by omega), e 0 2 (by omega) (by omega) (by omega), e 0 3 (by omega) (by omega) (by omega), e 0 4 (by omega) (by omega) (by omega), e 0 5 (by omega) (by omega) (by omega), e 0 6 (by omega) (by omega) (by omega), e 0 7 (by omega) (by omega) (by omega)]
    exact g2
  · obtain ⟨s0, s1, s2, s3, s4⟩ := scf_u (c := c) (d := d) (i := i) hu hj hw.2.2.1.2.1
    rw [swl_o (by omega) (by omega) (by omega), swl_o (by omega) (by omega) (by omega), swl_o (by omega) (by omega) (by omega), swl_o (by omega) (by omega) (by omega), swl_o (by omega) (by omega) (by omega), s0, s1, s2, s3, s4]
    have q := g3 j hj
    refine ⟨f3 j hj, ?_, ?_, ?_, ?_⟩
    · by_cases z : j = u
      · rw [if_pos z, z]; exact h4
      · rw [if_neg z, f 4 j (by omega) (by omega) (by omega) (by omega) (by omega) (by omega)]; exact q.2.1
    · by_cases z : j = u
      · rw [if_pos z, z]; exact h5
      · rw [if_neg z, f 5 j (by omega) (by omega) (by omega) (by omega) (by omega) (by omega)]; exact q.2.2.1
    · rw [f 6 j (by omega) (by omega) (by omega) (by omega) (by omega) (by omega)]; exact q.2.2.2.1
    · rw [f 7 j (by omega) (by omega) (by omega) (by omega) (by omega) (by omega)]; exact q.2.2.2.2
  · rw [swl_n]; exact f27
  · rw [swl_n] at hk
    have hk2 : k < L.length := by omega
    have hx := List.getElem?_eq_getElem hk2
    obtain ⟨a1, a2⟩ := swl_8 (c := scf c u d i) hx
    obtain ⟨b1, b2⟩ := fL k _ hx
    rw [a1, a2]
    exact ⟨b1, b2⟩
theorem ms_fr (hM : MsI c I J u L) (hf : ∀ a b, (a < 8 ∨ 11 < a) → ¬ (a = 0 ∧ 18 < b ∧ b < 24) → ¬ (a = 4 ∧ b = u) → ¬ (a = 5 ∧ b = u) → K a b = J a b) : MsI c I K u L := by
  obtain ⟨f, f3, f15, f27, fL⟩ := hM
  refine ⟨fun a b x y z t s r => ?_, fun j hj => ?_, fun j x y => ?_, ?_, fun k x hx => ?_⟩
  · rw [hf a b (by omega) s z t]; exact f a b x y z t s r
  · rw [hf 3 j (by omega) (by omega) (by omega) (by omega)]; exact f3 j hj
  · rw [hf 15 j (by omega) (by omega) (by omega) (by omega)]; exact f15 j x y
  · rw [hf 0 27 (by omega) (by omega) (by omega) (by omega)]; exact f27
  · rw [hf 13 k (by omega) (by omega) (by omega) (by omega), hf 14 k (by omega) (by omega) (by omega) (by omega)]; exact fL k x hx
theorem ms_add {K1 K2 K3 : Wo} {k : Nat} (hM : MsI c I J u L) (hk : k = L.length) (e1 : K1 = up2 J 13 k d) (e2 : K2 = up2 K1 14 k i) (e3 : K3 = up2 K2 0 27 ((k : Int) + 1)) : MsI c I K3 u (L ++ [(d, i)]) := by
  obtain ⟨f, f3, f15, f27, fL⟩ := hM
  have hf : ∀ a b, ¬ (a = 13 ∧ b = k) → ¬ (a = 14 ∧ b = k) → ¬ (a = 0 ∧ b = 27) → K3 a b = J a b := fun a b x y z => by
    rw [e3, up2_o _ _ _ _ _ _ (by omega), e2, up2_o _ _ _ _ _ _ (by omega), e1, up2_o _ _ _ _ _ _ (by omega)]
  refine ⟨fun a b x y z t s r => ?_, fun j hj => ?_, fun j x y => ?_, ?_, fun q x hx => ?_⟩
  · rw [hf a b (by omega) (by omega) r]; exact f a b x y z t s r
  · rw [hf 3 j (by omega) (by omega) (by omega)]; exact f3 j hj
  · rw [hf 15 j (by omega) (by omega) (by omega)]; exact f15 j x y
  · rw [e3, up2_ss]; simp; omega
  · by_cases z : q = k
    · subst z
      rw [hk] at hx
      have hxe : x = (d, i) := by simpa using hx.symm
      rw [hxe]
      constructor
      · rw [e3, up2_o _ _ _ _ _ _ (by omega), e2, up2_o _ _ _ _ _ _ (by omega), e1, up2_ss]
      · rw [e3, up2_o _ _ _ _ _ _ (by omega), e2, up2_ss]
    · have hlt : q < L.length := by
        obtain ⟨p, _⟩ := List.getElem?_eq_some_iff.mp hx
        simp at p
        omega
      rw [List.getElem?_append_left hlt] at hx
      rw [hf 13 q (by omega) (by omega) (by omega), hf 14 q (by omega) (by omega) (by omega)]
      exact fL q x hx
theorem ms_0 (hu : 1 ≤ u ∧ u < 4) (h30 : c 3 0 = 1) (f : ∀ a b, ¬ a = 3 → ¬ a = 15 → J a b = I a b) (f3 : ∀ j, j < 4 → J 3 j = if 1 ≤ j then (if j = u then 1 else 0) else c (3 + j) 0) (f15 : ∀ j, 1 ≤ j → j < 4 → J 15 j = c (3 + j) 0) (e : K = up2 J 0 27 0) : MsI c I K u [] := by
  subst e
  refine ⟨fun a b x y z t s r => ?_, fun j hj => ?_, fun j x y => ?_, ?_, fun q x hx => by simp at hx⟩
  · rw [up2_o _ _ _ _ _ _ (by omega)]; exact f a b y (by omega)
  · rw [up2_o _ _ _ _ _ _ (by omega), f3 j hj]
    by_cases z : j = 0
    · subst z; rw [if_neg (by omega), if_pos (by omega)]; exact h30
    · rw [if_pos (by omega)]
      by_cases z2 : j = u
      · rw [if_pos z2, if_pos (Or.inr z2)]
      · rw [if_neg z2, if_neg (by omega)]
  · rw [up2_o _ _ _ _ _ _ (by omega)]; exact f15 j x y
  · rw [up2_ss]; rfl
/-- behind the loops: all is as it was, but for the list -/
theorem ms_end (h : moR c I) (hL : shB L) (hM : MsI c I J u L) (f : ∀ a b, ¬ a = 3 → ¬ (a = 4 ∧ b = u) → ¬ (a = 5 ∧ b = u) → K a b = J a b) (f3 : ∀ j, j < 4 → K 3 j = c (3 + j) 0) (f4 : K 4 u = c (3 + u) 1) (f5 : K 5 u = c (3 + u) 2) : moR (swl c L) K := by
  obtain ⟨m, m3, m15, m27, mL⟩ := hM
  obtain ⟨hw, g1, g2, g3, g4⟩ := h
  have e : ∀ a b, ¬ (a = 0 ∧ b = 8) → a < 8 → swl c L a b = c a b := fun a b x y => swl_o x (by omega) (by omega)
  have fr : ∀ a b, a < 8 → ¬ a = 3 → ¬ (a = 4 ∧ b = u) → ¬ (a = 5 ∧ b = u) → ¬ (a = 0 ∧ 18 < b ∧ b < 24) → ¬ (a = 0 ∧ b = 27) → K a b = I a b := fun a b x y z t s r => (f a b y z t).trans (m a b (by omega) y z t s r)
  refine ⟨swl_wf hw hL, ⟨?_, fun j hj => ?_⟩, ?_, fun j hj => ?_, ?_, fun k hk => ?_⟩
  · rw [fr 0 2 (by omega) (by omega) (by omega) (by omega) (by omega) (by omega), e 0 0 (by omega) (by omega)]; exact g1.1
  · rw [e 0 0 (by omega) (by omega)] at hj
    rw [fr 1 j (by omega) (by omega) (by omega) (by omega) (by omega) (by omega), fr 2 j (by omega) (by omega) (by omega) (by omega) (by omega) (by omega), e 1 j (by omega) (by omega), e 2 j (by omega) (by omega)]
    exact g1.2 j hj
  · unfold moS at g2 ⊢
    have q : ∀ b, b < 15 → K 0 b = I 0 b := fun b hb => fr 0 b (by omega) (by omega) (by omega) (by omega) (by omega) (by omega)
    rw [q 8 (by omega), q 9 (by omega), q 10 (by omega), q 11 (by omega), q 13 (by omega), q 12 (by omega), q 14 (by omega), e 0 1 (by omega) (by omega), e 0 2 (by omega) (by omega), e 0 3 (by omega) (by omega), e 0 4 (by omega) (by omega), e 0 5 (by omega) (by omega), e 0 6 (by omega) (by omega), e 0 7 (by omega) (by omega)]
    exact g2
  · rw [e _ 0 (by omega) (by omega), e _ 1 (by omega) (by omega), e _ 2 (by omega) (by omega), e _ 3 (by omega) (by omega), e _ 4 (by omega) (by omega)]
    have q := g3 j hj
    refine ⟨f3 j hj, ?_, ?_, ?_, ?_⟩
    · by_cases z : j = u
      · rw [z]; exact f4
      · rw [fr 4 j (by omega) (by omega) (by omega) (by omega) (by omega) (by omega)]; exact q.2.1
    · by_cases z : j = u
      · rw [z]; exact f5
      · rw [fr 5 j (by omega) (by omega) (by omega) (by omega) (by omega) (by omega)]; exact q.2.2.1
    · rw [fr 6 j (by omega) (by omega) (by omega) (by omega) (by omega) (by omega)]; exact q.2.2.2.1
    · rw [fr 7 j (by omega) (by omega) (by omega) (by omega) (by omega) (by omega)]; exact q.2.2.2.2
  · rw [swl_n, f 0 27 (by omega) (by omega) (by omega)]; exact m27
  · rw [swl_n] at hk
    have hk2 : k < L.length := by omega
    have hx := List.getElem?_eq_getElem hk2
    obtain ⟨a1, a2⟩ := swl_8 (c := c) hx
    obtain ⟨b1, b2⟩ := mL k _ hx
    rw [a1, a2, f 13 k (by omega) (by omega) (by omega), f 14 k (by omega) (by omega) (by omega)]
    exact ⟨b1, b2⟩
end MS

-- CanonMakerModel.fault(II)I
theorem d_Mo_fault_0 : decode prog_9_method_32_code 0 = .ok (.aload_n 0, 1) := by decide +kernel
theorem d_Mo_fault_1 : decode prog_9_method_32_code 1 = .ok (.invokevirtual 143, 3) := by decide +kernel
theorem d_Mo_fault_4 : decode prog_9_method_32_code 4 = .ok (.ifCond .eq 6, 3) := by decide +kernel
theorem d_Mo_fault_7 : decode prog_9_method_32_code 7 = .ok (.bipush (-3), 2) := by decide +kernel
theorem d_Mo_fault_9 : decode prog_9_method_32_code 9 = .ok (.ireturn, 1) := by decide +kernel
theorem d_Mo_fault_10 : decode prog_9_method_32_code 10 = .ok (.aload_n 0, 1) := by decide +kernel
theorem d_Mo_fault_11 : decode prog_9_method_32_code 11 = .ok (.invokevirtual 100, 3) := by decide +kernel
theorem d_Mo_fault_14 : decode prog_9_method_32_code 14 = .ok (.iload_n 1, 1) := by decide +kernel
theorem d_Mo_fault_15 : decode prog_9_method_32_code 15 = .ok (.ifCond .lt 14, 3) := by decide +kernel
theorem d_Mo_fault_18 : decode prog_9_method_32_code 18 = .ok (.aload_n 0, 1) := by decide +kernel
theorem d_Mo_fault_19 : decode prog_9_method_32_code 19 = .ok (.iload_n 1, 1) := by decide +kernel
theorem d_Mo_fault_20 : decode prog_9_method_32_code 20 = .ok (.iconst 1, 1) := by decide +kernel
theorem d_Mo_fault_21 : decode prog_9_method_32_code 21 = .ok (.iadd, 1) := by decide +kernel
theorem d_Mo_fault_22 : decode prog_9_method_32_code 22 = .ok (.invokevirtual 147, 3) := by decide +kernel
theorem d_Mo_fault_25 : decode prog_9_method_32_code 25 = .ok (.iload_n 1, 1) := by decide +kernel
theorem d_Mo_fault_26 : decode prog_9_method_32_code 26 = .ok (.if_icmp .gt 5, 3) := by decide +kernel
theorem d_Mo_fault_29 : decode prog_9_method_32_code 29 = .ok (.iconst (-1), 1) := by decide +kernel
theorem d_Mo_fault_30 : decode prog_9_method_32_code 30 = .ok (.ireturn, 1) := by decide +kernel
theorem d_Mo_fault_31 : decode prog_9_method_32_code 31 = .ok (.iload_n 2, 1) := by decide +kernel
theorem d_Mo_fault_32 : decode prog_9_method_32_code 32 = .ok (.ifCond .ne 10, 3) := by decide +kernel
theorem d_Mo_fault_35 : decode prog_9_method_32_code 35 = .ok (.aload_n 0, 1) := by decide +kernel
theorem d_Mo_fault_36 : decode prog_9_method_32_code 36 = .ok (.getfield 131, 3) := by decide +kernel
theorem d_Mo_fault_39 : decode prog_9_method_32_code 39 = .ok (.goto 41, 3) := by decide +kernel
theorem d_Mo_fault_42 : decode prog_9_method_32_code 42 = .ok (.iload_n 2, 1) := by decide +kernel
theorem d_Mo_fault_43 : decode prog_9_method_32_code 43 = .ok (.iconst 1, 1) := by decide +kernel
theorem d_Mo_fault_44 : decode prog_9_method_32_code 44 = .ok (.if_icmp .ne 10, 3) := by decide +kernel
theorem d_Mo_fault_47 : decode prog_9_method_32_code 47 = .ok (.aload_n 0, 1) := by decide +kernel
theorem d_Mo_fault_48 : decode prog_9_method_32_code 48 = .ok (.getfield 134, 3) := by decide +kernel
theorem d_Mo_fault_51 : decode prog_9_method_32_code 51 = .ok (.goto 29, 3) := by decide +kernel
theorem d_Mo_fault_54 : decode prog_9_method_32_code 54 = .ok (.iload_n 2, 1) := by decide +kernel
theorem d_Mo_fault_55 : decode prog_9_method_32_code 55 = .ok (.iconst 2, 1) := by decide +kernel
theorem d_Mo_fault_56 : decode prog_9_method_32_code 56 = .ok (.if_icmp .ne 10, 3) := by decide +kernel
theorem d_Mo_fault_59 : decode prog_9_method_32_code 59 = .ok (.aload_n 0, 1) := by decide +kernel
theorem d_Mo_fault_60 : decode prog_9_method_32_code 60 = .ok (.getfield 137, 3) := by decide +kernel
theorem d_Mo_fault_63 : decode prog_9_method_32_code 63 = .ok (.goto 17, 3) := by decide +kernel
theorem d_Mo_fault_66 : decode prog_9_method_32_code 66 = .ok (.iload_n 2, 1) := by decide +kernel
theorem d_Mo_fault_67 : decode prog_9_method_32_code 67 = .ok (.iconst 3, 1) := by decide +kernel
theorem d_Mo_fault_68 : decode prog_9_method_32_code 68 = .ok (.if_icmp .ne 10, 3) := by decide +kernel
theorem d_Mo_fault_71 : decode prog_9_method_32_code 71 = .ok (.aload_n 0, 1) := by decide +kernel
theorem d_Mo_fault_72 : decode prog_9_method_32_code 72 = .ok (.getfield 140, 3) := by decide +kernel
theorem d_Mo_fault_75 : decode prog_9_method_32_code 75 = .ok (.goto 5, 3) := by decide +kernel
theorem d_Mo_fault_78 : decode prog_9_method_32_code 78 = .ok (.bipush (-2), 2) := by decide +kernel
theorem d_Mo_fault_80 : decode prog_9_method_32_code 80 = .ok (.ireturn, 1) := by decide +kernel
abbrev rm_Mo_fault : Room := { frames := 7, cells := 0, slots := 0, locals := 186 }
set_option maxHeartbeats 4000000 in
set_option maxRecDepth 100000 in
theorem c_Mo_fault (l : Launch) (D : va_G) (cs : Nat → ClassId) (ad : Nat → Nat) (hi : mo_inj ad) (c I : Wo) (h : moR c I) (k : Int) (h_k : -2147483648 ≤ k ∧ k < 2147483648) (w : Int) (h_w : -2147483648 ≤ w ∧ w < 2147483648) : mo_C l D cs ad y_Mo_fault ws_Mo_fault rm_Mo_fault [.ref (ad 0), .int (zi k), .int (zi w)] I (mk_pi (fun r J => ftR c k w r ∧ moR c J)) := by
  refine mk_meti (own := "CanonMakerModel") (Ts := wA) hi (Nat.le_refl _) (by decide) rfl (fun w h => List.mem_cons_of_mem _ h) rfl (Nat.le_of_ble_eq_true rfl) [(0, .ref (ad 0)), (1, .int (zi k)), (2, .int (zi w))] rfl ?_
  intro p_ e_ s_ m_ as_ bl_ me_ co_ Q_ X hret
  have hlen := FL_len h.1.1 h.1.2.1 h.1.2.2.1
  refine mk_aloadn (nx := 1) X 0 d_Mo_fault_0 rfl rfl ?_
  refine mk_callVi (nx := 4) (n := 0) (As := []) (rest := []) X 0 (by decide) (mh_Mo cs ad _) rfl (c_Mo_isLong l D cs ad hi c I h) (g_Mo_isLong wd_764) rfl ⟨rfl, rfl⟩ (by decide +kernel) ⟨by decide, by decide⟩ rfl (Nat.le_of_ble_eq_true rfl) rfl d_Mo_fault_1 rfl ?_
  intro r1 J1 hJ1
  obtain ⟨rfl, hr1⟩ := hJ1
  have hr1b : r1 = 1 ∨ r1 = 0 := hr1.elim (fun e => Or.inl e.1) (fun e => Or.inr e.1)
  refine mk_if_eq (tgt := 10) (nx := 7) X d_Mo_fault_4 (by omega) (by decide) rfl (fun c4 => ?_) (fun c4 => ?_)
  · skip
    refine mk_aloadn (nx := 11) X 0 d_Mo_fault_10 rfl rfl ?_
    refine mk_callVv (nx := 14) (n := 0) (As := []) (rest := []) X 0 (by decide) (mh_Mo cs ad _) rfl (c_Mo_layAll l D cs ad hi c I h) (g_Mo_layAll wd_748) rfl ⟨rfl, rfl⟩ (by decide +kernel) ⟨by decide, by decide⟩ rfl (Nat.le_of_ble_eq_true rfl) rfl d_Mo_fault_11 rfl ?_
    intro JA hJA
    have hRA : moR c JA := moR_fr (fun a b x y => hJA.2 a b (by omega) (by omega)) h
    refine mk_iloadn (nx := 15) X 1 d_Mo_fault_14 rfl rfl ?_
    refine mk_if_lt (tgt := 29) (nx := 18) X d_Mo_fault_15 (by omega) (by decide) rfl (fun c15 => ?_) (fun c15 => ?_)
    · skip
      refine mk_iconst (nx := 30) X d_Mo_fault_29 rfl ?_
      exact hret _ _ _ _ d_Mo_fault_30 (by first | exact ⟨Or.inr (Or.inl ⟨(hr1.resolve_left (fun z => absurd z.1 (by omega))).2, Or.inr (hjk.resolve_left (fun z => absurd z.1 (by omega))).2, rfl⟩), hRB⟩ | exact ⟨Or.inr (Or.inl ⟨(hr1.resolve_left (fun z => absurd z.1 (by omega))).2, Or.inl (by omega), rfl⟩), hRA⟩)
    · skip
      refine mk_aloadn (nx := 19) X 0 d_Mo_fault_18 rfl rfl ?_
      refine mk_iloadn (nx := 20) X 1 d_Mo_fault_19 rfl rfl ?_
      refine mk_iconst (nx := 21) X d_Mo_fault_20 rfl ?_
      refine mk_iadd (nx := 22) X d_Mo_fault_21 rfl ?_
      rw [kk_z]
      refine mk_callVi (nx := 25) (n := 1) (As := [.int (zi (kk k))]) (rest := []) X 0 (by decide) (mh_Mo cs ad _) rfl (c_Mo_judge l D cs ad hi c JA hRA hJA.1 (kk k) (kk_b h_k)) (g_Mo_judge wd_768) rfl ⟨rfl, rfl⟩ (by decide +kernel) ⟨by decide, by decide⟩ rfl (Nat.le_of_ble_eq_true rfl) rfl d_Mo_fault_22 rfl ?_
      intro r22 JB hJB
      have hRB : moR c JB := moR_fr (fun a b x y => hJB.1 a b (by omega)) hRA
      obtain ⟨hrr, hjk⟩ := jd_k hlen h_k (by omega) hJB
      refine mk_iloadn (nx := 26) X 1 d_Mo_fault_25 rfl rfl ?_
      refine mk_icmp_gt (tgt := 31) (nx := 29) X d_Mo_fault_26 (by omega) (by omega) (by decide) rfl (fun c26 => ?_) (fun c26 => ?_)
      · skip
        obtain ⟨x, hx, x0, x1, x2, x3⟩ := (hjk.resolve_right (fun z => absurd z.1 (by omega))).2
        have hnt := (hr1.resolve_left (fun z => absurd z.1 (by omega))).2
        refine mk_iloadn (nx := 32) X 2 d_Mo_fault_31 rfl rfl ?_
        refine mk_if_ne (tgt := 42) (nx := 35) X d_Mo_fault_32 (by omega) (by decide) rfl (fun c32 => ?_) (fun c32 => ?_)
        · skip
          refine mk_iloadn (nx := 43) X 2 d_Mo_fault_42 rfl rfl ?_
          refine mk_iconst (nx := 44) X d_Mo_fault_43 rfl ?_
          refine mk_icmp_ne (tgt := 54) (nx := 47) X d_Mo_fault_44 (by omega) (by omega) (by decide) rfl (fun c44 => ?_) (fun c44 => ?_)
          · skip
            refine mk_iloadn (nx := 55) X 2 d_Mo_fault_54 rfl rfl ?_
            refine mk_iconst (nx := 56) X d_Mo_fault_55 rfl ?_
            refine mk_icmp_ne (tgt := 66) (nx := 59) X d_Mo_fault_56 (by omega) (by omega) (by decide) rfl (fun c56 => ?_) (fun c56 => ?_)
            · skip
              refine mk_iloadn (nx := 67) X 2 d_Mo_fault_66 rfl rfl ?_
              refine mk_iconst (nx := 68) X d_Mo_fault_67 rfl ?_
              refine mk_icmp_ne (tgt := 78) (nx := 71) X d_Mo_fault_68 (by omega) (by omega) (by decide) rfl (fun c68 => ?_) (fun c68 => ?_)
              · skip
                refine mk_bipush (nx := 80) X d_Mo_fault_78 (by decide) rfl ?_
                exact hret _ _ _ _ d_Mo_fault_80 (by refine ⟨Or.inr (Or.inr ⟨hnt, by omega, x, hx, ?_⟩), hRB⟩; unfold ftw; first | (rw [if_pos (by omega)]; exact x0) | (rw [if_neg (by omega), if_pos (by omega)]; exact x1) | (rw [if_neg (by omega), if_neg (by omega), if_pos (by omega)]; exact x2) | (rw [if_neg (by omega), if_neg (by omega), if_neg (by omega), if_pos (by omega)]; exact x3) | rw [if_neg (by omega), if_neg (by omega), if_neg (by omega), if_neg (by omega)])
              · skip
                refine mk_aloadn (nx := 72) X 0 d_Mo_fault_71 rfl rfl ?_
                refine mk_get (nx := 75) (v := .int (zi (JB 0 23))) X 0 (by decide) (mh_Mo cs ad _) rfl in_Mo 23 (by decide) wd_618 rfl rfl d_Mo_fault_72 rfl ?_
                refine mk_goto (tgt := 80) X d_Mo_fault_75 (by decide) ?_
                exact hret _ _ _ _ d_Mo_fault_80 (by refine ⟨Or.inr (Or.inr ⟨hnt, by omega, x, hx, ?_⟩), hRB⟩; unfold ftw; first | (rw [if_pos (by omega)]; exact x0) | (rw [if_neg (by omega), if_pos (by omega)]; exact x1) | (rw [if_neg (by omega), if_neg (by omega), if_pos (by omega)]; exact x2) | (rw [if_neg (by omega), if_neg (by omega), if_neg (by omega), if_pos (by omega)]; exact x3) | rw [if_neg (by omega), if_neg (by omega), if_neg (by omega), if_neg (by omega)])
            · skip
              refine mk_aloadn (nx := 60) X 0 d_Mo_fault_59 rfl rfl ?_
              refine mk_get (nx := 63) (v := .int (zi (JB 0 22))) X 0 (by decide) (mh_Mo cs ad _) rfl in_Mo 22 (by decide) wd_617 rfl rfl d_Mo_fault_60 rfl ?_
              refine mk_goto (tgt := 80) X d_Mo_fault_63 (by decide) ?_
              exact hret _ _ _ _ d_Mo_fault_80 (by refine ⟨Or.inr (Or.inr ⟨hnt, by omega, x, hx, ?_⟩), hRB⟩; unfold ftw; first | (rw [if_pos (by omega)]; exact x0) | (rw [if_neg (by omega), if_pos (by omega)]; exact x1) | (rw [if_neg (by omega), if_neg (by omega), if_pos (by omega)]; exact x2) | (rw [if_neg (by omega), if_neg (by omega), if_neg (by omega), if_pos (by omega)]; exact x3) | rw [if_neg (by omega), if_neg (by omega), if_neg (by omega), if_neg (by omega)])
          · skip
            refine mk_aloadn (nx := 48) X 0 d_Mo_fault_47 rfl rfl ?_
            refine mk_get (nx := 51) (v := .int (zi (JB 0 21))) X 0 (by decide) (mh_Mo cs ad _) rfl in_Mo 21 (by decide) wd_616 rfl rfl d_Mo_fault_48 rfl ?_
            refine mk_goto (tgt := 80) X d_Mo_fault_51 (by decide) ?_
            exact hret _ _ _ _ d_Mo_fault_80 (by refine ⟨Or.inr (Or.inr ⟨hnt, by omega, x, hx, ?_⟩), hRB⟩; unfold ftw; first | (rw [if_pos (by omega)]; exact x0) | (rw [if_neg (by omega), if_pos (by omega)]; exact x1) | (rw [if_neg (by omega), if_neg (by omega), if_pos (by omega)]; exact x2) | (rw [if_neg (by omega), if_neg (by omega), if_neg (by omega), if_pos (by omega)]; exact x3) | rw [if_neg (by omega), if_neg (by omega), if_neg (by omega), if_neg (by omega)])
        · skip
          refine mk_aloadn (nx := 36) X 0 d_Mo_fault_35 rfl rfl ?_
          refine mk_get (nx := 39) (v := .int (zi (JB 0 20))) X 0 (by decide) (mh_Mo cs ad _) rfl in_Mo 20 (by decide) wd_615 rfl rfl d_Mo_fault_36 rfl ?_
          refine mk_goto (tgt := 80) X d_Mo_fault_39 (by decide) ?_
          exact hret _ _ _ _ d_Mo_fault_80 (by refine ⟨Or.inr (Or.inr ⟨hnt, by omega, x, hx, ?_⟩), hRB⟩; unfold ftw; first | (rw [if_pos (by omega)]; exact x0) | (rw [if_neg (by omega), if_pos (by omega)]; exact x1) | (rw [if_neg (by omega), if_neg (by omega), if_pos (by omega)]; exact x2) | (rw [if_neg (by omega), if_neg (by omega), if_neg (by omega), if_pos (by omega)]; exact x3) | rw [if_neg (by omega), if_neg (by omega), if_neg (by omega), if_neg (by omega)])
      · skip
        refine mk_iconst (nx := 30) X d_Mo_fault_29 rfl ?_
        exact hret _ _ _ _ d_Mo_fault_30 (by first | exact ⟨Or.inr (Or.inl ⟨(hr1.resolve_left (fun z => absurd z.1 (by omega))).2, Or.inr (hjk.resolve_left (fun z => absurd z.1 (by omega))).2, rfl⟩), hRB⟩ | exact ⟨Or.inr (Or.inl ⟨(hr1.resolve_left (fun z => absurd z.1 (by omega))).2, Or.inl (by omega), rfl⟩), hRA⟩)
  · skip
    refine mk_bipush (nx := 9) X d_Mo_fault_7 (by decide) rfl ?_
    exact hret _ _ _ _ d_Mo_fault_9 (by exact ⟨Or.inl ⟨(hr1.resolve_right (fun z => absurd z.1 (by omega))).2, rfl⟩, h⟩)
