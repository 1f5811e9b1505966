/-! judge's loops -/
def JdI (I J : Wo) (till : Int) (L : List Ft) (n : Int) : Prop := n = (L.length : Int) ∧ (till < 1 ∨ n < till) ∧ ∀ a b, ¬ (a = 0 ∧ 19 < b ∧ b < 24) → J a b = I a b
noncomputable def fb2 (c : Wo) (t rule al : Int) (a b : Nat) : List Ft := if al = 1 then (if b = a then [] else ifL (brA c rule a t) (t, rule, a, a)) else fbs c t rule a b
noncomputable def LC (c : Wo) (t i a : Nat) : List Ft := fts c t ++ (frs c t i ++ fas c t (rul i) a)
noncomputable def LD (c : Wo) (t i : Nat) (al : Int) (a b : Nat) : List Ft := fts c t ++ (frs c t i ++ (fas c t (rul i) a ++ fb2 c t (rul i) al a b))
section JD
variable {c : Wo} {t i a b : Nat} {al : Int}
theorem fbs_nil {t rule : Int} : ∀ m, m ≤ a + 1 → fbs c t rule a m = [] := by
  intro m
  induction m with
  | zero => intro _; rfl
  | succ m ih =>
    intro h
    simp only [fbs]
    rw [ih (by omega), if_neg (by omega)]
    rfl
theorem LC_0 : LC c t i 0 = fts c t ++ frs c t i := by simp [LC, fas]
theorem LD_ia (h : al = 1) : LD c t i al a a = LC c t i a := by simp [LD, LC, fb2, h]
theorem LD_ip (h : al = 0) : LD c t i al a (a + 1) = LC c t i a := by
  simp [LD, LC, fb2, h, fbs_nil (c := c) (a := a) (a + 1) (Nat.le_refl _)]
theorem LD_an (h : al = 1) (hb : ¬ brA c (rul i) a t) : LD c t i al a (a + 1) = LD c t i al a a := by simp [LD, fb2, h, ifL_n hb]
theorem LD_ay (h : al = 1) (hb : brA c (rul i) a t) : LD c t i al a (a + 1) = LD c t i al a a ++ [((t : Int), rul i, a, a)] := by simp [LD, fb2, h, ifL_y hb, List.append_assoc]
theorem LD_pn (h : al = 0) (hb : ¬ brP c (rul i) a b t) (hab : a < b) : LD c t i al a (b + 1) = LD c t i al a b := by simp [LD, fb2, h, fbs, hab, ifL_n hb]
theorem LD_py (h : al = 0) (hb : brP c (rul i) a b t) (hab : a < b) : LD c t i al a (b + 1) = LD c t i al a b ++ [((t : Int), rul i, a, b)] := by simp [LD, fb2, h, fbs, hab, ifL_y hb, List.append_assoc]
theorem LD_ea (h : al = 1) (hr : rul i < 4 ∨ rul i = 128) : LD c t i al a (a + 1) = LC c t i (a + 1) := by
  unfold LD LC fb2
  rw [if_pos h, if_neg (by omega)]
  simp only [fas]
  rw [if_pos hr]
theorem LD_ep (h : al = 0) (hr : ¬ (rul i < 4 ∨ rul i = 128)) : LD c t i al a 4 = LC c t i (a + 1) := by
  unfold LD LC fb2
  rw [if_neg (by omega)]
  simp only [fas]
  rw [if_neg hr]
theorem LC_e (h3 : ¬ i = 3) (hr : ¬ ziand (c 0 5) (rul i) = 0) : LC c t i 4 = fts c t ++ frs c t (i + 1) := by
  unfold LC
  simp only [frs]
  rw [if_neg (by omega)]
theorem LB_k (h : i = 3 ∨ ziand (c 0 5) (rul i) = 0) : fts c t ++ frs c t (i + 1) = fts c t ++ frs c t i := by
  simp only [frs]
  rw [if_pos h, List.append_nil]
theorem LD_pre (ht : (t : Int) < an_end c) (hi : i < 8) (h3 : ¬ i = 3) (hr : ¬ ziand (c 0 5) (rul i) = 0) (ha : a < 4) (hal : (al = 1 ∧ (rul i < 4 ∨ rul i = 128) ∧ b = a + 1) ∨ (al = 0 ∧ ¬ (rul i < 4 ∨ rul i = 128) ∧ b ≤ 4)) : LD c t i al a b <+: FL c := by
  refine pre_t ht (Nat.le_refl 8) (pre_i hi h3 hr ?_)
  rcases hal with ⟨h1, h2, rfl⟩ | ⟨h1, h2, h4⟩
  · have e : fas c t (rul i) a ++ fb2 c t (rul i) al a (a + 1) = fas c t (rul i) (a + 1) := by
      unfold fb2
      rw [if_pos h1, if_neg (by omega)]
      simp only [fas]
      rw [if_pos h2]
    rw [e]
    exact fas_pre (by omega)
  · refine pre_a ha h2 ?_
    unfold fb2
    rw [if_neg (by omega)]
    exact fbs_pre h4
end JD
theorem Jd_add {I J K1 K2 K3 K4 : Wo} {till n : Int} {L : List Ft} {x1 x2 x3 x4 : Int} {x : Ft} (h : JdI I J till L n) (hn : ¬ n + 1 = till) (e1 : K1 = up2 J 0 20 x1) (e2 : K2 = up2 K1 0 21 x2) (e3 : K3 = up2 K2 0 22 x3) (e4 : K4 = up2 K3 0 23 x4) : JdI I K4 till (L ++ [x]) (n + 1) := by
  obtain ⟨h1, h2, h3⟩ := h
  subst e4; subst e3; subst e2; subst e1
  refine ⟨by simp; omega, by omega, fun a b y => ?_⟩
  rw [up2_o _ 0 23 _ a b (by omega), up2_o _ 0 22 _ a b (by omega), up2_o _ 0 21 _ a b (by omega), up2_o _ 0 20 _ a b (by omega)]
  exact h3 a b y
/-- what judge answers -/
def jdP (c I : Wo) (till r : Int) (J : Wo) : Prop := (∀ a b, ¬ (a = 0 ∧ 19 < b ∧ b < 24) → J a b = I a b) ∧ ((∃ (k : Nat) (x : Ft), till = (k : Int) + 1 ∧ r = till ∧ k < (FL c).length ∧ (FL c)[k]? = some x ∧ J 0 20 = x.1 ∧ J 0 21 = x.2.1 ∧ J 0 22 = x.2.2.1 ∧ J 0 23 = x.2.2.2) ∨ ((till < 1 ∨ ((FL c).length : Int) < till) ∧ r = (FL c).length))
theorem Jd_ret {c I J K1 K2 K3 K4 : Wo} {till n : Int} {L : List Ft} {x : Ft} (h : JdI I J till L n) (hn : n + 1 = till) (hp : L ++ [x] <+: FL c) (e1 : K1 = up2 J 0 20 x.1) (e2 : K2 = up2 K1 0 21 x.2.1) (e3 : K3 = up2 K2 0 22 x.2.2.1) (e4 : K4 = up2 K3 0 23 x.2.2.2) : jdP c I till (n + 1) K4 := by
  obtain ⟨h1, h2, h3⟩ := h
  obtain ⟨g1, g2⟩ := FL_at hp
  subst e4; subst e3; subst e2; subst e1
  refine ⟨fun a b y => ?_, Or.inl ⟨L.length, x, by omega, hn, g1, g2, ?_, ?_, ?_, ?_⟩⟩
  · rw [up2_o _ 0 23 _ a b (by omega), up2_o _ 0 22 _ a b (by omega), up2_o _ 0 21 _ a b (by omega), up2_o _ 0 20 _ a b (by omega)]
    exact h3 a b y
  · simp [up2, up1]
  · simp [up2, up1]
  · simp [up2, up1]
  · simp [up2, up1]
