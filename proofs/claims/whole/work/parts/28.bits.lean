/-! BITS: the notes that a moment touches; who is STRUCK; which RULES are on -/
def tbit (x : Int) (n : Nat) : Bool := (zi x).toBitVec.getLsbD n
theorem tb_or (x y : Int) (n : Nat) : tbit (zior x y) n = (tbit x n || tbit y n) := by
  unfold tbit zior
  rw [zi_of, show (zi x ||| zi y).toBitVec = (zi x).toBitVec ||| (zi y).toBitVec from rfl, BitVec.getLsbD_or]
theorem tb_shl {n : Nat} (h : n < 24) : tbit (zishl 1 n) n = true := by
  have : ∀ k : Fin 24, tbit (zishl 1 ((k : Nat) : Int)) k = true := by decide +kernel
  exact this ⟨n, h⟩
theorem tb_m1 {n : Nat} (h : n < 24) : tbit (-1) n = true := by
  have : ∀ k : Fin 24, tbit (-1) k = true := by decide +kernel
  exact this ⟨n, h⟩
theorem tb_and (x y : Int) (n : Nat) (h : ziand x y = 0) : (tbit x n && tbit y n) = false := by
  have e : zi x &&& zi y = 0 := by
    have := congrArg zi h
    unfold ziand at this
    rw [zi_of] at this
    exact this
  unfold tbit
  rw [← BitVec.getLsbD_and, show (zi x).toBitVec &&& (zi y).toBitVec = (zi x &&& zi y).toBitVec from rfl, e]
  simp
theorem tb_off {x : Int} {n : Nat} (hn : n < 24) (h : ziand x (zishl 1 n) = 0) : tbit x n = false := by
  have := tb_and x _ n h
  rw [tb_shl hn] at this
  simpa using this
theorem tb_all {x : Int} {n : Nat} (hn : n < 24) (h : tbit x n = true) : ¬ ziand x (-1) = 0 := by
  intro z
  have := tb_and x _ n z
  rw [tb_m1 hn, h] at this
  simp at this
def bsm (c : Wo) (t : Int) : Nat → Int
  | 0 => 0
  | v + 1 => bsm c t v + (2 : Int) ^ v * dSk c t v
theorem dSk_b (c : Wo) (t : Int) (v : Nat) : dSk c t v = 0 ∨ dSk c t v = 1 := by
  unfold dSk
  split
  · exact csk_b c v t
  · exact Or.inl rfl
theorem dSk_so {c : Wo} {t : Int} {v : Nat} (h : dPt c t v = 1000) : dSk c t v = 0 := by
  unfold dSk
  by_cases e : c (3 + v) 0 = 1
  · rw [if_pos e]
    rcases csk_b c v t with q | q
    · exact q
    · unfold dPt at h
      rw [if_pos e] at h
      exact absurd h (csk_pl q).2
  · rw [if_neg e]
theorem bs_or {x : Int} {v : Nat} (hv : v < 4) (hx : 0 ≤ x ∧ x < (2 : Int) ^ v) : zior x (zishl 1 v) = x + (2 : Int) ^ v ∧ zior x 0 = x := by
  have : ∀ k : Fin 4, ∀ y : Fin 16, ((y : Nat) : Int) < (2 : Int) ^ (k : Nat) → zior ((y : Nat) : Int) (zishl 1 ((k : Nat) : Int)) = ((y : Nat) : Int) + (2 : Int) ^ (k : Nat) ∧ zior ((y : Nat) : Int) 0 = ((y : Nat) : Int) := by decide +kernel
  have h16 : x < 16 := by
    rcases (show v = 0 ∨ v = 1 ∨ v = 2 ∨ v = 3 by omega) with rfl | rfl | rfl | rfl <;> simp at hx <;> omega
  have h2 := this ⟨v, hv⟩ ⟨x.toNat, by omega⟩
  simp only [show ((x.toNat : Nat) : Int) = x by omega] at h2
  exact h2 hx.2
theorem bsm_b (c : Wo) (t : Int) : ∀ v, v ≤ 4 → 0 ≤ bsm c t v ∧ bsm c t v < (2 : Int) ^ v := by
  intro v hv
  have a0 := dSk_b c t 0
  have a1 := dSk_b c t 1
  have a2 := dSk_b c t 2
  have a3 := dSk_b c t 3
  rcases (show v = 0 ∨ v = 1 ∨ v = 2 ∨ v = 3 ∨ v = 4 by omega) with rfl | rfl | rfl | rfl | rfl <;> simp [bsm] <;> omega
theorem bsm_get (c : Wo) (t : Int) {v : Nat} (hv : v < 4) : ziand (zishr (bsm c t 4) v) 1 = dSk c t v := by
  have a0 := dSk_b c t 0
  have a1 := dSk_b c t 1
  have a2 := dSk_b c t 2
  have a3 := dSk_b c t 3
  simp only [bsm]
  rcases (show v = 0 ∨ v = 1 ∨ v = 2 ∨ v = 3 by omega) with rfl | rfl | rfl | rfl
  all_goals
    generalize dSk c t 0 = x0 at *
    generalize dSk c t 1 = x1 at *
    generalize dSk c t 2 = x2 at *
    generalize dSk c t 3 = x3 at *
    rcases a0 with rfl | rfl <;> rcases a1 with rfl | rfl <;> rcases a2 with rfl | rfl <;> rcases a3 with rfl | rfl <;> decide +kernel
/-! the RULES in the order in which they are told -/
def tji (j : Nat) : Nat := ([0, 1, 2, 4, 5, 6, 7, 8] : List Nat).getD j 8
theorem told_r {j : Nat} (h : j < 7) : cm_told j = rul (tji j) ∧ tji j < 8 ∧ ¬ tji j = 3 := by
  rcases (show j = 0 ∨ j = 1 ∨ j = 2 ∨ j = 3 ∨ j = 4 ∨ j = 5 ∨ j = 6 by omega) with rfl | rfl | rfl | rfl | rfl | rfl | rfl <;> decide
theorem frs_3 (c : Wo) (t : Int) : frs c t 4 = frs c t 3 := by simp [frs]
theorem frs_told {c : Wo} {t : Int} {j : Nat} (h : j < 7) : frs c t (tji (j + 1)) = frs c t (tji j) ++ (if ziand (c 0 5) (cm_told j) = 0 then [] else fas c t (cm_told j) 4) := by
  have key : ∀ i, ¬ i = 3 → frs c t (i + 1) = frs c t i ++ (if ziand (c 0 5) (rul i) = 0 then [] else fas c t (rul i) 4) := by
    intro i hi
    simp only [frs]
    by_cases e : ziand (c 0 5) (rul i) = 0
    · rw [if_pos (Or.inr e), if_pos e]
    · rw [if_neg (by rintro (z | z); exact hi z; exact e z), if_neg e]
  rcases (show j = 0 ∨ j = 1 ∨ j = 2 ∨ j = 3 ∨ j = 4 ∨ j = 5 ∨ j = 6 by omega) with rfl | rfl | rfl | rfl | rfl | rfl | rfl
  · exact key 0 (by decide)
  · exact key 1 (by decide)
  · show frs c t 4 = _
    rw [frs_3]
    exact key 2 (by decide)
  · exact key 4 (by decide)
  · exact key 5 (by decide)
  · exact key 6 (by decide)
  · exact key 7 (by decide)
theorem one_v {x : Int} (hx : 0 ≤ x ∧ x ≤ 255) {j : Nat} (h : j < 7) : (¬ ziand (ziand x (cm_told j)) 131 = 0 ↔ ¬ ziand x (cm_told j) = 0 ∧ (cm_told j = 1 ∨ cm_told j = 2 ∨ cm_told j = 128)) := by
  have : ∀ y : Fin 256, ∀ k : Fin 7, (¬ ziand (ziand ((y : Nat) : Int) (cm_told k)) 131 = 0 ↔ ¬ ziand ((y : Nat) : Int) (cm_told k) = 0 ∧ (cm_told k = 1 ∨ cm_told k = 2 ∨ cm_told k = 128)) := by decide +kernel
  have h2 := this ⟨x.toNat, by omega⟩ ⟨j, h⟩
  simp only [show ((x.toNat : Nat) : Int) = x by omega] at h2
  exact h2
theorem idle_r {x : Int} (hx : 0 ≤ x ∧ x ≤ 255) (h0 : ziand x (-9) = 0) {i : Nat} (hi : i < 8) (h3 : ¬ i = 3) : ziand x (rul i) = 0 := by
  have : ∀ y : Fin 256, ziand ((y : Nat) : Int) (-9) = 0 → ∀ k : Fin 8, ¬ (k : Nat) = 3 → ziand ((y : Nat) : Int) (rul k) = 0 := by decide +kernel
  have h2 := this ⟨x.toNat, by omega⟩
  simp only [show ((x.toNat : Nat) : Int) = x by omega] at h2
  exact h2 h0 ⟨i, hi⟩ h3
theorem frs_idle {c : Wo} {t : Int} (hx : 0 ≤ c 0 5 ∧ c 0 5 ≤ 255) (h0 : ziand (c 0 5) (-9) = 0) : ∀ i, i ≤ 8 → frs c t i = [] := by
  intro i
  induction i with
  | zero => intro _; rfl
  | succ i ih =>
    intro hi
    simp only [frs]
    rw [ih (by omega)]
    by_cases e : i = 3
    · rw [if_pos (Or.inl e)]; rfl
    · rw [if_pos (Or.inr (idle_r hx h0 (by omega) e))]; rfl
theorem FN_idle {c J : Wo} {nts : Int} (hx : 0 ≤ c 0 5 ∧ c 0 5 ≤ 255) (h0 : ziand (c 0 5) (-9) = 0) (m : Nat) : FN c J nts m = [] := (FN_nil m).mpr (fun k _ _ => frs_idle hx h0 8 (Nat.le_refl _))
