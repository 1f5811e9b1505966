/-! THE FAULTS in the order in which they are told: (time, RULE, a, b) -/
abbrev Ft : Type := Int × Int × Nat × Nat
noncomputable def ifL (P : Prop) (x : Ft) : List Ft := @ite (List Ft) P (Classical.propDecidable P) [x] []
theorem ifL_y {P : Prop} {x : Ft} (h : P) : ifL P x = [x] := if_pos h
theorem ifL_n {P : Prop} {x : Ft} (h : ¬ P) : ifL P x = [] := if_neg h
def rul (i : Nat) : Int := ([1, 2, 4, 8, 16, 32, 64, 128, 256] : List Int).getD i 0
theorem rul_c {i : Nat} (h : i < 8) : (1 ≤ rul i ∧ rul i ≤ 128 ∧ rul i * 2 = rul (i + 1)) ∧ (rul i = 8 ↔ i = 3) ∧ (rul i < 4 ↔ i < 2) ∧ (rul i = 128 ↔ i = 7) ∧ ((rul i < 4 ∨ rul i = 128) → rul i = 1 ∨ rul i = 2 ∨ rul i = 128) ∧ (¬ (rul i < 4 ∨ rul i = 128) → ¬ i = 3 → rul i = 4 ∨ rul i = 16 ∨ rul i = 32 ∨ rul i = 64) := by
  rcases (show i = 0 ∨ i = 1 ∨ i = 2 ∨ i = 3 ∨ i = 4 ∨ i = 5 ∨ i = 6 ∨ i = 7 by omega) with rfl | rfl | rfl | rfl | rfl | rfl | rfl | rfl <;> decide
theorem rul_8 : rul 8 = 256 := rfl
/-- of one time, one RULE of two VOICES, one a: b below m -/
noncomputable def fbs (c : Wo) (t rule : Int) (a : Nat) : Nat → List Ft
  | 0 => []
  | m + 1 => fbs c t rule a m ++ (if a < m then ifL (brP c rule a m t) (t, rule, a, m) else [])
noncomputable def fas (c : Wo) (t rule : Int) : Nat → List Ft
  | 0 => []
  | a + 1 => fas c t rule a ++ (if rule < 4 ∨ rule = 128 then ifL (brA c rule a t) (t, rule, a, a) else fbs c t rule a 4)
noncomputable def frs (c : Wo) (t : Int) : Nat → List Ft
  | 0 => []
  | i + 1 => frs c t i ++ (if i = 3 ∨ ziand (c 0 5) (rul i) = 0 then [] else fas c t (rul i) 4)
noncomputable def fts (c : Wo) : Nat → List Ft
  | 0 => []
  | t + 1 => fts c t ++ frs c t 8
noncomputable def FL (c : Wo) : List Ft := fts c (an_end c).toNat
theorem pre_in {α : Type} {A B C : List α} (h : B <+: C) : A ++ B <+: A ++ C := by
  obtain ⟨t, rfl⟩ := h
  exact ⟨t, by simp [List.append_assoc]⟩
theorem pre_ge {α : Type} {f : Nat → List α} (hs : ∀ m, f m <+: f (m + 1)) {i j : Nat} (h : i ≤ j) : f i <+: f j := by
  induction j with
  | zero =>
    obtain rfl : i = 0 := by omega
    exact List.prefix_refl _
  | succ j ih =>
    by_cases e : i = j + 1
    · rw [e]; exact List.prefix_refl _
    · exact (ih (by omega)).trans (hs j)
section FPre
variable {c : Wo}
theorem fbs_pre {t rule : Int} {a i j : Nat} (h : i ≤ j) : fbs c t rule a i <+: fbs c t rule a j := pre_ge (f := fbs c t rule a) (fun m => by simp only [fbs]; exact List.prefix_append _ _) h
theorem fas_pre {t rule : Int} {i j : Nat} (h : i ≤ j) : fas c t rule i <+: fas c t rule j := pre_ge (f := fas c t rule) (fun m => by simp only [fas]; exact List.prefix_append _ _) h
theorem frs_pre {t : Int} {i j : Nat} (h : i ≤ j) : frs c t i <+: frs c t j := pre_ge (f := frs c t) (fun m => by simp only [frs]; exact List.prefix_append _ _) h
theorem fts_pre {i j : Nat} (h : i ≤ j) : fts c i <+: fts c j := pre_ge (f := fts c) (fun m => by simp only [fts]; exact List.prefix_append _ _) h
theorem pre_t {t i : Nat} (ht : (t : Int) < an_end c) (hi : i ≤ 8) {X : List Ft} (hX : X <+: frs c t 8) : fts c t ++ X <+: FL c := by
  have h1 : fts c t ++ X <+: fts c (t + 1) := by simp only [fts]; exact pre_in hX
  exact h1.trans (fts_pre (by omega))
theorem pre_i {t : Int} {i : Nat} (hi : i < 8) (h3 : ¬ i = 3) (hr : ¬ ziand (c 0 5) (rul i) = 0) {X : List Ft} (hX : X <+: fas c t (rul i) 4) : frs c t i ++ X <+: frs c t 8 := by
  have h1 : frs c t i ++ X <+: frs c t (i + 1) := by
    simp only [frs]
    rw [if_neg (by omega)]
    exact pre_in hX
  exact h1.trans (frs_pre (by omega))
theorem pre_a {t rule : Int} {a : Nat} (ha : a < 4) (hr : ¬ (rule < 4 ∨ rule = 128)) {X : List Ft} (hX : X <+: fbs c t rule a 4) : fas c t rule a ++ X <+: fas c t rule 4 := by
  have h1 : fas c t rule a ++ X <+: fas c t rule (a + 1) := by
    simp only [fas]
    rw [if_neg hr]
    exact pre_in hX
  exact h1.trans (fas_pre (by omega))
/-- what is told of a fault that is counted: the last one of a beginning of the list -/
theorem FL_at {L : List Ft} {x : Ft} (h : L ++ [x] <+: FL c) : L.length < (FL c).length ∧ (FL c)[L.length]? = some x := by
  obtain ⟨t, ht⟩ := h
  rw [← ht]
  exact ⟨by simp, by simp⟩
end FPre
