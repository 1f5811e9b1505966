/-! SHIFTS: the SUBJECT and one VOICE with a delay and an interval; the list of those that work -/
def scf (c : Wo) (v : Nat) (d i : Int) : Wo := fun a b => if b = 0 ∧ 4 ≤ a ∧ a < 7 then (if a = 3 + v then 1 else 0) else if a = 3 + v ∧ b = 1 then d else if a = 3 + v ∧ b = 2 then i else c a b
def swl (c : Wo) (L : List (Int × Int)) : Wo := fun a b => if a = 0 ∧ b = 8 then (L.length : Int) else if a = 8 then (match L[b]? with | some x => x.1 | none => c a b) else if a = 9 then (match L[b]? with | some x => x.2 | none => c a b) else c a b
noncomputable def shl (c : Wo) (v : Nat) : Nat → List (Int × Int)
  | 0 => []
  | s + 1 => shl c v s ++ (if cln (scf c v ((s / 25 : Nat) : Int) (((s % 25 : Nat) : Int) - 12)) = true then [(((s / 25 : Nat) : Int), ((s % 25 : Nat) : Int) - 12)] else [])
def okS (c : Wo) (v : Nat) : Prop := c (3 + v) 0 = 1 ∧ (∀ j, j < cn c → ¬ c 1 j = -2) ∧ ¬ tl c 0 ∧ ¬ tl c v
def mxd (c : Wo) : Int := min (an_size c) 100
def shfR (c : Wo) (v r : Int) (d : Wo) : Prop := ((v < 1 ∨ 3 < v) ∧ r = -1 ∧ d = c) ∨ (¬ (v < 1 ∨ 3 < v) ∧ ¬ okS c v.toNat ∧ r = -3 ∧ d = c) ∨ (¬ (v < 1 ∨ 3 < v) ∧ okS c v.toNat ∧ r = ((shl c v.toNat (25 * ((mxd c).toNat + 1))).length : Int) ∧ d = swl c (shl c v.toNat (25 * ((mxd c).toNat + 1))))
theorem shfR_fun {c : Wo} {v r r' : Int} {d d' : Wo} (h : shfR c v r d) (h' : shfR c v r' d') : r = r' ∧ d = d' := by
  rcases h with ⟨a, b, e⟩ | ⟨a, a2, b, e⟩ | ⟨a, a2, b, e⟩ <;> rcases h' with ⟨a', b', e'⟩ | ⟨a', a2', b', e'⟩ | ⟨a', a2', b', e'⟩
  all_goals first
    | exact absurd a a'
    | exact absurd a' a
    | exact absurd a2 a2'
    | exact absurd a2' a2
    | exact ⟨b.trans b'.symm, e.trans e'.symm⟩
section SH
variable {c : Wo} {v : Nat} {d i : Int}
theorem scf_0 {a b : Nat} (h : ¬ (4 ≤ a ∧ a < 7)) (hv : 1 ≤ v ∧ v < 4) : scf c v d i a b = c a b := by
  unfold scf
  rw [if_neg (by omega), if_neg (by omega), if_neg (by omega)]
theorem scf_u {u : Nat} (hv : 1 ≤ v ∧ v < 4) (hu : u < 4) (h30 : c 3 0 = 1) : scf c v d i (3 + u) 0 = (if u = 0 ∨ u = v then 1 else 0) ∧ scf c v d i (3 + u) 1 = (if u = v then d else c (3 + u) 1) ∧ scf c v d i (3 + u) 2 = (if u = v then i else c (3 + u) 2) ∧ scf c v d i (3 + u) 3 = c (3 + u) 3 ∧ scf c v d i (3 + u) 4 = c (3 + u) 4 := by
  unfold scf
  refine ⟨?_, ?_, ?_, ?_, ?_⟩
  · by_cases e : u = 0
    · subst e; rw [if_neg (by omega), if_neg (by omega), if_neg (by omega), if_pos (Or.inl rfl)]; exact h30
    · rw [if_pos (by omega)]
      by_cases e2 : u = v
      · rw [if_pos (by omega), if_pos (Or.inr e2)]
      · rw [if_neg (by omega), if_neg (by omega)]
  · rw [if_neg (by omega)]
    by_cases e2 : u = v
    · rw [if_pos (by omega), if_pos e2]
    · rw [if_neg (by omega), if_neg (by omega), if_neg e2]
  · rw [if_neg (by omega), if_neg (by omega)]
    by_cases e2 : u = v
    · rw [if_pos (by omega), if_pos e2]
    · rw [if_neg (by omega), if_neg e2]
  · rw [if_neg (by omega), if_neg (by omega), if_neg (by omega)]
  · rw [if_neg (by omega), if_neg (by omega), if_neg (by omega)]
theorem swl_o {L : List (Int × Int)} {a b : Nat} (h1 : ¬ (a = 0 ∧ b = 8)) (h2 : ¬ a = 8) (h3 : ¬ a = 9) : swl c L a b = c a b := by
  unfold swl
  rw [if_neg h1, if_neg h2, if_neg h3]
theorem swl_n {L : List (Int × Int)} : swl c L 0 8 = (L.length : Int) := by
  unfold swl
  rw [if_pos ⟨rfl, rfl⟩]
theorem swl_8 {L : List (Int × Int)} {k : Nat} {x : Int × Int} (h : L[k]? = some x) : swl c L 8 k = x.1 ∧ swl c L 9 k = x.2 := by
  unfold swl
  simp [h]
def shB (L : List (Int × Int)) : Prop := L.length ≤ 2525 ∧ ∀ x, x ∈ L → (0 ≤ x.1 ∧ x.1 ≤ 100) ∧ (-12 ≤ x.2 ∧ x.2 ≤ 12)
theorem shl_b : ∀ s, s ≤ 2525 → (shl c v s).length ≤ s ∧ shB (shl c v s) := by
  intro s
  induction s with
  | zero => intro _; exact ⟨Nat.le_refl _, by simp [shl], fun x hx => by simp [shl] at hx⟩
  | succ s ih =>
    intro hs
    obtain ⟨h1, h2, h3⟩ := ih (by omega)
    simp only [shl]
    by_cases e : cln (scf c v ((s / 25 : Nat) : Int) (((s % 25 : Nat) : Int) - 12)) = true
    · rw [if_pos e]
      refine ⟨by simp; omega, by simp; omega, fun x hx => ?_⟩
      rcases List.mem_append.mp hx with q | q
      · exact h3 x q
      · simp at q
        rw [q]
        refine ⟨⟨by simp only []; omega, by simp only []; omega⟩, ⟨by simp only []; omega, by simp only []; omega⟩⟩
    · rw [if_neg e, List.append_nil]
      exact ⟨by omega, h2, h3⟩
theorem swl_wf {L : List (Int × Int)} (hw : wfC c) (hL : shB L) : wfC (swl c L) := by
  obtain ⟨hN, hS, hV, hF⟩ := hw
  have e : ∀ a b, ¬ (a = 0 ∧ b = 8) → a < 8 → swl c L a b = c a b := fun a b x y => swl_o x (by omega) (by omega)
  refine ⟨⟨by rw [e 0 0 (by omega) (by omega)]; exact hN.1, fun j hj => by rw [e 1 j (by omega) (by omega), e 2 j (by omega) (by omega)]; exact hN.2 j (by rw [e 0 0 (by omega) (by omega)] at hj; exact hj)⟩, ?_, ?_, ⟨by rw [swl_n]; have := hL.1; omega, fun k hk => ?_⟩⟩
  · unfold wfS at hS ⊢
    rw [e 0 1 (by omega) (by omega), e 0 2 (by omega) (by omega), e 0 3 (by omega) (by omega), e 0 4 (by omega) (by omega), e 0 5 (by omega) (by omega), e 0 6 (by omega) (by omega), e 0 7 (by omega) (by omega)]
    exact hS
  · unfold wfV at hV ⊢
    refine ⟨fun v hv => ?_, ?_⟩
    · rw [e _ 0 (by omega) (by omega), e _ 1 (by omega) (by omega), e _ 2 (by omega) (by omega), e _ 3 (by omega) (by omega), e _ 4 (by omega) (by omega)]; exact hV.1 v hv
    · rw [e 3 0 (by omega) (by omega), e 3 1 (by omega) (by omega), e 3 2 (by omega) (by omega), e 3 3 (by omega) (by omega), e 3 4 (by omega) (by omega)]; exact hV.2
  · rw [swl_n] at hk
    have hk2 : k < L.length := by omega
    obtain ⟨h1, h2⟩ := swl_8 (c := c) (L := L) (k := k) (x := L[k]) (List.getElem?_eq_getElem hk2)
    rw [h1, h2]
    exact hL.2 _ (List.getElem_mem hk2)
theorem scf_wf (hw : wfC c) (hv : 1 ≤ v ∧ v < 4) (hd : 0 ≤ d ∧ d ≤ 100) (hi : -24 ≤ i ∧ i ≤ 24) : wfC (scf c v d i) := by
  obtain ⟨hN, hS, hV, hF⟩ := hw
  have e : ∀ a b, ¬ (4 ≤ a ∧ a < 7) → scf c v d i a b = c a b := fun a b x => scf_0 x hv
  refine ⟨⟨by rw [e 0 0 (by omega)]; exact hN.1, fun j hj => by rw [e 1 j (by omega), e 2 j (by omega)]; exact hN.2 j (by rw [e 0 0 (by omega)] at hj; exact hj)⟩, ?_, ?_, ⟨by rw [e 0 8 (by omega)]; exact hF.1, fun k hk => by rw [e 8 k (by omega), e 9 k (by omega)]; exact hF.2 k (by rw [e 0 8 (by omega)] at hk; exact hk)⟩⟩
  · unfold wfS at hS ⊢
    rw [e 0 1 (by omega), e 0 2 (by omega), e 0 3 (by omega), e 0 4 (by omega), e 0 5 (by omega), e 0 6 (by omega), e 0 7 (by omega)]
    exact hS
  · refine ⟨fun u hu => ?_, ?_⟩
    · obtain ⟨h1, h2, h3, h4, h5⟩ := scf_u (c := c) (d := d) (i := i) hv hu hV.2.1
      rw [h1, h2, h3, h4, h5]
      have := hV.1 u hu
      refine ⟨by split <;> omega, by split <;> omega, by split <;> omega, this.2.2.2.1, this.2.2.2.2⟩
    · rw [e 3 0 (by omega), e 3 1 (by omega), e 3 2 (by omega), e 3 3 (by omega), e 3 4 (by omega)]; exact hV.2
theorem scf_ntl (hw : wfC c) (hv : 1 ≤ v ∧ v < 4) (ho : okS c v) : NTL (scf c v d i) := by
  intro u hu z
  have e : ∀ a b, ¬ (4 ≤ a ∧ a < 7) → scf c v d i a b = c a b := fun a b x => scf_0 x hv
  obtain ⟨h1, h2, h3, h4, h5⟩ := scf_u (c := c) (d := d) (i := i) hv hu hw.2.2.1.2.1
  unfold tl at z
  have hsz : an_size (scf c v d i) = an_size c := by
    unfold an_size
    rw [e 0 0 (by omega), show scf c v d i 2 = c 2 from funext (fun b => e 2 b (by omega))]
  rw [h1, h5, hsz, e 0 6 (by omega)] at z
  obtain ⟨o1, o2, o3, o4⟩ := ho
  have c30 := hw.2.2.1.2.1
  unfold tl at o3 o4
  by_cases q : u = 0
  · subst q; exact o3 ⟨c30, z.2⟩
  · by_cases q2 : u = v
    · subst q2; exact o4 ⟨o1, z.2⟩
    · rw [if_neg (by omega)] at z; omega
theorem scf_rl {i' : Int} (hv : 1 ≤ v ∧ v < 4) (h30 : c 3 0 = 1) : Rl (scf c v d i) (scf c v d i') := by
  refine ⟨by rw [scf_0 (by omega) hv, scf_0 (by omega) hv], by rw [scf_0 (by omega) hv, scf_0 (by omega) hv], funext (fun b => by rw [scf_0 (by omega) hv, scf_0 (by omega) hv]), fun u hu => ?_, fun j => by rw [scf_0 (by omega) hv, scf_0 (by omega) hv]⟩
  obtain ⟨h1, h2, h3, h4, h5⟩ := scf_u (c := c) (d := d) (i := i) hv hu h30
  obtain ⟨g1, g2, g3, g4, g5⟩ := scf_u (c := c) (d := d) (i := i') hv hu h30
  rw [h1, h2, h4, h5, g1, g2, g4, g5]
  exact ⟨rfl, rfl, rfl, rfl⟩
theorem swl_rl {L : List (Int × Int)} : Rl c (swl c L) := by
  have e : ∀ a b, ¬ (a = 0 ∧ b = 8) → a < 8 → swl c L a b = c a b := fun a b x y => swl_o x (by omega) (by omega)
  exact ⟨e 0 0 (by omega) (by omega), e 0 6 (by omega) (by omega), funext (fun b => e 2 b (by omega) (by omega)), fun v hv => ⟨e _ 0 (by omega) (by omega), e _ 1 (by omega) (by omega), e _ 3 (by omega) (by omega), e _ 4 (by omega) (by omega)⟩, fun j => by rw [e 1 j (by omega) (by omega)]⟩
theorem swl_FL {L : List (Int × Int)} (hw : wfC c) (hn : NTL c) (hL : shB L) : FL (swl c L) = FL c := by
  have e : ∀ a b, ¬ (a = 0 ∧ b = 8) → a < 8 → swl c L a b = c a b := fun a b x y => swl_o x (by omega) (by omega)
  have w := swl_wf hw hL
  exact FL_eq hw.1 hw.2.1 hw.2.2.1 hn w.1 w.2.1 w.2.2.1 swl_rl ⟨e 0 1 (by omega) (by omega), e 0 2 (by omega) (by omega), e 0 3 (by omega) (by omega), e 0 4 (by omega) (by omega), e 0 5 (by omega) (by omega)⟩ (fun v hv => e _ 2 (by omega) (by omega)) (funext (fun b => e 1 b (by omega) (by omega)))
theorem shl_at {k : Nat} (hi : (k : Int) = 25 * d + (i + 12)) (hd : 0 ≤ d) (hib : -12 ≤ i ∧ i ≤ 12) : shl c v (k + 1) = shl c v k ++ (if cln (scf c v d i) = true then [(d, i)] else []) := by
  simp only [shl]
  rw [show ((k / 25 : Nat) : Int) = d by omega, show ((k % 25 : Nat) : Int) - 12 = i by omega]
end SH
