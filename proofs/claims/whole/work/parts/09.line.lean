/-! LINES: places, beginnings, pitches, the place at a time -/
theorem tmod_fm {x y : Int} (hy : 0 < y) : x % y = if x.tmod y < 0 then x.tmod y + y else x.tmod y := by
  have h := Int.tmod_eq_emod (a := x) (b := y)
  have h1 := Int.emod_nonneg x (show y ≠ 0 by omega)
  have h2 := Int.emod_lt_of_pos x hy
  by_cases hc : 0 ≤ x ∨ y ∣ x
  · rw [if_pos hc] at h
    rw [if_neg (by omega)]
    omega
  · rw [if_neg hc] at h
    rw [if_pos (by omega)]
    omega
theorem zi_msb (a : Int32) : a.toInt < 0 ↔ a.toBitVec.msb = true := by
  rw [BitVec.msb_eq_toInt]
  simp
theorem zixor_neg {x y : Int} (hx : -2147483648 ≤ x ∧ x < 2147483648) (hy : 0 ≤ y ∧ y < 2147483648) : zixor x y < 0 ↔ x < 0 := by
  unfold zixor
  rw [zi_msb, show (zi x ^^^ zi y).toBitVec = (zi x).toBitVec ^^^ (zi y).toBitVec from rfl, BitVec.msb_xor]
  have h1 := zi_msb (zi x)
  have h2 := zi_msb (zi y)
  rw [zi_to hx] at h1
  rw [zi_to ⟨by omega, hy.2⟩] at h2
  have h3 : (zi y).toBitVec.msb = false := by
    cases hb : (zi y).toBitVec.msb
    · rfl
    · exact absurd (h2.mpr hb) (by omega)
  rw [h3, h1]
  simp
def nt (n : Nat) (mode : Int) (j : Nat) : Nat := if ziand mode 2 = 0 then j else n - 1 - j
def bg (L : Nat → Int) (n : Nat) (mode f : Int) : Nat → Int
  | 0 => 0
  | j + 1 => bg L n mode f j + L (nt n mode j) * f
/-- the first NOTE that is no REST, n if there is none -/
def fso (P : Nat → Int) : Nat → Nat
  | 0 => 0
  | n + 1 => if fso P n < n then fso P n else if P n = -1 then n + 1 else n
def lpi (P : Nat → Int) (n : Nat) (mode iv : Int) (i : Nat) : Int :=
  if P i = -1 then 1000 else if ziand mode 1 = 0 then (if P i = -2 then 1001 else P i + iv) else if P i = -2 ∨ P (fso P n) = -2 then 1001 else 2 * P (fso P n) - P i + iv
theorem nt_lt {n : Nat} {mode : Int} {j : Nat} (h : j < n) : nt n mode j < n := by
  unfold nt
  split <;> omega
theorem fso_spec (P : Nat → Int) : ∀ n, fso P n ≤ n ∧ (∀ j, j < fso P n → P j = -1) ∧ (fso P n < n → P (fso P n) ≠ -1) := by
  intro n
  induction n with
  | zero => exact ⟨Nat.le_refl _, fun j h => absurd h (Nat.not_lt_zero _), fun h => absurd h (Nat.lt_irrefl _)⟩
  | succ n ih =>
    obtain ⟨h1, h2, h3⟩ := ih
    simp only [fso]
    by_cases hc : fso P n < n
    · rw [if_pos hc]
      exact ⟨by omega, h2, fun _ => h3 hc⟩
    · have e : fso P n = n := by omega
      rw [if_neg hc]
      by_cases hd : P n = -1
      · rw [if_pos hd]
        exact ⟨Nat.le_refl _, lt_s (fun j hj => h2 j (by omega)) hd, fun h => absurd h (Nat.lt_irrefl _)⟩
      · rw [if_neg hd]
        exact ⟨Nat.le_succ _, fun j hj => h2 j (by omega), fun _ => hd⟩
theorem fso_eq {P : Nat → Int} {n k : Nat} (hk : k ≤ n) (h1 : ∀ j, j < k → P j = -1) (h2 : k < n → P k ≠ -1) : fso P n = k := by
  obtain ⟨a, b, d⟩ := fso_spec P n
  rcases Nat.lt_trichotomy (fso P n) k with h | h | h
  · exact absurd (h1 _ h) (d (by omega))
  · exact h
  · exact absurd (b k h) (h2 (by omega))
theorem bg_step {L : Nat → Int} {n : Nat} {mode f : Int} (hL : ∀ j, j < n → 1 ≤ L j ∧ L j ≤ 16) (hf : 1 ≤ f ∧ f ≤ 3) {j : Nat} (hj : j < n) : bg L n mode f j + 1 ≤ bg L n mode f (j + 1) ∧ bg L n mode f (j + 1) ≤ bg L n mode f j + 48 := by
  have h := hL _ (nt_lt (mode := mode) hj)
  simp only [bg]
  rcases (show f = 1 ∨ f = 2 ∨ f = 3 by omega) with rfl | rfl | rfl <;> omega
theorem bg_b {L : Nat → Int} {n : Nat} {mode f : Int} (hL : ∀ j, j < n → 1 ≤ L j ∧ L j ≤ 16) (hf : 1 ≤ f ∧ f ≤ 3) : ∀ j, j ≤ n → (j : Int) ≤ bg L n mode f j ∧ bg L n mode f j ≤ 48 * j := by
  intro j
  induction j with
  | zero => intro _; simp [bg]
  | succ j ih =>
    intro hj
    have h1 := ih (by omega)
    have h2 := bg_step (mode := mode) hL hf (show j < n by omega)
    omega
theorem bg_lt {L : Nat → Int} {n : Nat} {mode f : Int} (hL : ∀ j, j < n → 1 ≤ L j ∧ L j ≤ 16) (hf : 1 ≤ f ∧ f ≤ 3) {i : Nat} : ∀ j, i < j → j ≤ n → bg L n mode f i < bg L n mode f j := by
  intro j
  induction j with
  | zero => intro h; omega
  | succ j ih =>
    intro h1 h2
    have h3 := bg_step (mode := mode) hL hf (show j < n by omega)
    by_cases e : i = j
    · subst e; omega
    · have := ih (by omega) (by omega); omega
theorem bg_all (L : Nat → Int) (n : Nat) (mode f : Int) : bg L n mode f n = usum L n * f := by
  by_cases h : ziand mode 2 = 0
  · have key : ∀ j, bg L n mode f j = usum L j * f := by
      intro j
      induction j with
      | zero => simp [bg, usum]
      | succ j ih => simp only [bg, usum, ih, nt, if_pos h, Int.add_mul]
    exact key n
  · have key : ∀ j, j ≤ n → bg L n mode f j + usum L (n - j) * f = usum L n * f := by
      intro j
      induction j with
      | zero => intro _; simp [bg]
      | succ j ih =>
        intro hj
        have h1 := ih (by omega)
        have e : n - j = (n - (j + 1)) + 1 := by omega
        rw [e] at h1
        simp only [usum, Int.add_mul] at h1
        simp only [bg, nt, if_neg h]
        rw [show n - 1 - j = n - (j + 1) by omega]
        omega
    have := key n (Nat.le_refl _)
    rw [Nat.sub_self] at this
    simpa [usum] using this
/-- the place at an offset -/
def plf (b : Nat → Int) (x : Int) : Nat → Int
  | 0 => -1
  | n + 1 => if b n ≤ x then n else plf b x n
def plc (b : Nat → Int) (n : Nat) (x : Int) : Int := if x < 0 ∨ b n ≤ x then -1 else plf b x n
theorem plf_eq {b : Nat → Int} {x : Int} {p : Nat} : ∀ n, p < n → b p ≤ x → (∀ q, p < q → q < n → x < b q) → plf b x n = p := by
  intro n
  induction n with
  | zero => intro h; omega
  | succ n ih =>
    intro h1 h2 h3
    simp only [plf]
    by_cases e : p = n
    · subst e; rw [if_pos h2]
    · rw [if_neg (by have := h3 n (by omega) (by omega); omega)]
      exact ih (by omega) h2 (fun q a d => h3 q a (by omega))
def cn (c : Wo) : Nat := (c 0 0).toNat
def cnt (c : Wo) (v j : Nat) : Nat := nt (cn c) (c (3 + v) 3) j
def cbg (c : Wo) (v : Nat) : Nat → Int := bg (c 2) (cn c) (c (3 + v) 3) (c (3 + v) 4)
def clp (c : Wo) (v j : Nat) : Int := lpi (c 1) (cn c) (c (3 + v) 3) (c (3 + v) 2) (cnt c v j)
def csn (c : Wo) (v : Nat) (t : Int) : Int := if 0 < c 0 6 then (t - c (3 + v) 1) % c 0 6 else t - c (3 + v) 1
def cpl (c : Wo) (v : Nat) (t : Int) : Int := plc (cbg c v) (cn c) (csn c v t)
section CB
variable {c : Wo} {v : Nat}
theorem cn_e (h : wfN c) : (cn c : Int) = c 0 0 ∧ cn c ≤ 24 := by
  have := h.1
  unfold cn
  omega
theorem cL (h : wfN c) : ∀ j, j < cn c → 1 ≤ c 2 j ∧ c 2 j ≤ 16 := fun j hj => (h.2 j (by have := cn_e h; omega)).2
theorem cF (h : wfV c) (hv : v < 4) : 1 ≤ c (3 + v) 4 ∧ c (3 + v) 4 ≤ 3 := (h.1 v hv).2.2.2.2
theorem cnt_lt {j : Nat} (hj : j < cn c) : cnt c v j < cn c := nt_lt hj
theorem cbg_0 : cbg c v 0 = 0 := rfl
theorem cbg_s (j : Nat) : cbg c v (j + 1) = cbg c v j + c 2 (cnt c v j) * c (3 + v) 4 := rfl
theorem cbg_step (h : wfN c) (hV : wfV c) (hv : v < 4) {j : Nat} (hj : j < cn c) : cbg c v j + 1 ≤ cbg c v (j + 1) ∧ cbg c v (j + 1) ≤ cbg c v j + 48 := bg_step (cL h) (cF hV hv) hj
theorem cbg_b (h : wfN c) (hV : wfV c) (hv : v < 4) {j : Nat} (hj : j ≤ cn c) : (j : Int) ≤ cbg c v j ∧ cbg c v j ≤ 1152 := by
  have h1 := bg_b (mode := c (3 + v) 3) (cL h) (cF hV hv) j hj
  have h2 := cn_e h
  unfold cbg
  omega
theorem cbg_lt (h : wfN c) (hV : wfV c) (hv : v < 4) {i j : Nat} (hij : i < j) (hj : j ≤ cn c) : cbg c v i < cbg c v j := bg_lt (cL h) (cF hV hv) j hij hj
theorem cbg_all (c : Wo) (v : Nat) : cbg c v (cn c) = an_size c * c (3 + v) 4 := bg_all _ _ _ _
theorem plc_eq (h : wfN c) (hV : wfV c) (hv : v < 4) {x : Int} {p : Nat} (hp : p < cn c) (h1 : cbg c v p ≤ x) (h2 : x < cbg c v (p + 1)) : plc (cbg c v) (cn c) x = p := by
  have h3 := cbg_b h hV hv (Nat.le_of_lt hp)
  have h4 : cbg c v (p + 1) ≤ cbg c v (cn c) := by
    by_cases e : p + 1 = cn c
    · rw [e]; exact Int.le_refl _
    · exact Int.le_of_lt (cbg_lt h hV hv (show p + 1 < cn c by omega) (Nat.le_refl _))
  unfold plc
  rw [if_neg (by omega)]
  refine plf_eq _ hp h1 (fun q hq hqn => ?_)
  by_cases e : q = p + 1
  · rw [e]; exact h2
  · have := cbg_lt h hV hv (show p + 1 < q by omega) (Nat.le_of_lt hqn)
    omega
theorem plc_spec (h : wfN c) (hV : wfV c) (hv : v < 4) (x : Int) : ((x < 0 ∨ cbg c v (cn c) ≤ x) ∧ plc (cbg c v) (cn c) x = -1) ∨ ∃ p : Nat, p < cn c ∧ plc (cbg c v) (cn c) x = p ∧ cbg c v p ≤ x ∧ x < cbg c v (p + 1) := by
  by_cases hx : x < 0 ∨ cbg c v (cn c) ≤ x
  · left
    exact ⟨hx, by unfold plc; rw [if_pos hx]⟩
  · right
    have key : ∀ n, n ≤ cn c → x < cbg c v n → ∃ p : Nat, p < n ∧ cbg c v p ≤ x ∧ x < cbg c v (p + 1) := by
      intro n
      induction n with
      | zero => intro _ h0; rw [cbg_0] at h0; omega
      | succ n ih =>
        intro hn h0
        by_cases hc : cbg c v n ≤ x
        · exact ⟨n, by omega, hc, h0⟩
        · obtain ⟨p, a, b, d⟩ := ih (by omega) (by omega)
          exact ⟨p, by omega, b, d⟩
    obtain ⟨p, a, b, d⟩ := key (cn c) (Nat.le_refl _) (by omega)
    exact ⟨p, a, plc_eq h hV hv a b d, b, d⟩
end CB
/-- what a line's object holds: its numbers; its places; its pitches -/
def LnF (c J : Wo) (v : Nat) : Prop := J (12 + 6 * v) 5 = c 0 0 ∧ J (12 + 6 * v) 6 = cbg c v (cn c) ∧ J (12 + 6 * v) 7 = c 0 6 ∧ J (12 + 6 * v) 8 = c (3 + v) 1 ∧ J (12 + 6 * v) 9 = c (3 + v) 2 ∧ J (12 + 6 * v) 10 = c (3 + v) 0 ∧ J (12 + 6 * v) 11 = (if ziand (c (3 + v) 3) 1 = 0 then 0 else 1)
def LnB (c J : Wo) (v : Nat) : Prop := ∀ p, p < cn c → J (13 + 6 * v) p = cnt c v p ∧ J (14 + 6 * v) p = cbg c v p
def LnT (c J : Wo) (v : Nat) : Prop := ∀ p, p < cn c → J (15 + 6 * v) p = clp c v p
