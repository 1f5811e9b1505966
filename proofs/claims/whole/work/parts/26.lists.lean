/-! the fault lists by moments -/
section LS
variable {c : Wo}
theorem brP_sk {rule t : Int} {a b : Nat} (h : brP c rule a b t) : hsk c a t ∨ hsk c b t := by
  obtain ⟨h1, h2, _, _, _, _, h3⟩ := h
  rcases h3 with h3 | h3 | h3
  · rcases h3.2.1 with z | z
    · exact Or.inl ⟨h1, z⟩
    · exact Or.inr ⟨h2, z⟩
  · rcases h3.2.1 with z | z
    · exact Or.inl ⟨h1, z⟩
    · exact Or.inr ⟨h2, z⟩
  · exact Or.inl ⟨h1, h3.2.1⟩
theorem brP_so {rule t : Int} {a b : Nat} (h : brP c rule a b t) : ¬ dPt c t a = 1000 ∧ ¬ dPt c t b = 1000 := by
  unfold dPt
  rw [if_pos h.1, if_pos h.2.1]
  exact ⟨h.2.2.1, h.2.2.2.1⟩
theorem brA_so {rule t : Int} {a : Nat} (h : brA c rule a t) : ¬ dPt c t a = 1000 := by
  unfold dPt
  rw [if_pos h.1.1]
  exact (csk_pl h.1.2).2
theorem fbs_cg {c' : Wo} {t rule : Int} {a : Nat} : ∀ m, (∀ b, b < m → (brP c rule a b t ↔ brP c' rule a b t)) → fbs c t rule a m = fbs c' t rule a m := by
  intro m
  induction m with
  | zero => intro _; rfl
  | succ m ih =>
    intro h
    simp only [fbs]
    rw [ih (fun b hb => h b (by omega)), show brP c rule a m t = brP c' rule a m t from propext (h m (by omega))]
theorem fas_cg {c' : Wo} {t rule : Int} : ∀ m, m ≤ 4 → (∀ a, a < 4 → (brA c rule a t ↔ brA c' rule a t)) → (∀ a b, a < 4 → b < 4 → (brP c rule a b t ↔ brP c' rule a b t)) → fas c t rule m = fas c' t rule m := by
  intro m
  induction m with
  | zero => intro _ _ _; rfl
  | succ m ih =>
    intro hm h1 h2
    simp only [fas]
    rw [ih (by omega) h1 h2, show brA c rule m t = brA c' rule m t from propext (h1 m (by omega)), fbs_cg 4 (fun b hb => h2 m b (by omega) hb)]
theorem frs_cg {c' : Wo} {t : Int} (h5 : c' 0 5 = c 0 5) (h1 : ∀ rule a, a < 4 → (brA c rule a t ↔ brA c' rule a t)) (h2 : ∀ rule a b, a < 4 → b < 4 → (brP c rule a b t ↔ brP c' rule a b t)) : ∀ m, frs c t m = frs c' t m := by
  intro m
  induction m with
  | zero => rfl
  | succ m ih =>
    simp only [frs]
    rw [ih, h5, fas_cg 4 (Nat.le_refl _) (h1 _) (h2 _)]
theorem fbs_no {t rule : Int} {a : Nat} {k : Nat} : ∀ m, k ≤ m → (∀ b, k ≤ b → b < m → ¬ brP c rule a b t) → fbs c t rule a m = fbs c t rule a k := by
  intro m
  induction m with
  | zero => intro h _; rw [show k = 0 by omega]
  | succ m ih =>
    intro h h1
    by_cases e : k = m + 1
    · rw [e]
    · simp only [fbs]
      rw [ih (by omega) (fun b x y => h1 b x (by omega)), ifL_n (h1 m (by omega) (by omega))]
      simp
theorem fas_no {t rule : Int} {k : Nat} : ∀ m, k ≤ m → (∀ a, k ≤ a → a < m → ¬ brA c rule a t ∧ ∀ b, b < 4 → ¬ brP c rule a b t) → fas c t rule m = fas c t rule k := by
  intro m
  induction m with
  | zero => intro h _; rw [show k = 0 by omega]
  | succ m ih =>
    intro h h1
    by_cases e : k = m + 1
    · rw [e]
    · simp only [fas]
      have h2 := h1 m (by omega) (by omega)
      rw [ih (by omega) (fun a x y => h1 a x (by omega)), ifL_n h2.1, fbs_no (k := 0) 4 (by omega) (fun b _ y => h2.2 b y)]
      simp [fbs]
theorem frs_none {t : Int} (h : ∀ v, v < 4 → ¬ hsk c v t) : ∀ m, frs c t m = [] := by
  intro m
  induction m with
  | zero => rfl
  | succ m ih =>
    simp only [frs]
    rw [ih, fas_no (k := 0) 4 (by omega) (fun a _ ha => ⟨fun z => h a ha z.1, fun b hb z => (brP_sk z).elim (h a ha) (h b hb)⟩)]
    simp [fas]
theorem fts_skip {s : Nat} : ∀ e, s ≤ e → (∀ t : Nat, s ≤ t → t < e → ∀ v, v < 4 → ¬ hsk c v t) → fts c e = fts c s := by
  intro e
  induction e with
  | zero => intro h _; rw [show s = 0 by omega]
  | succ e ih =>
    intro h h1
    by_cases q : s = e + 1
    · rw [q]
    · simp only [fts]
      rw [ih (by omega) (fun t x y => h1 t x (by omega)), frs_none (h1 e (by omega) (by omega))]
      simp
/-- the class's moments: rising, all times at which a VOICE is STRUCK -/
def MomA (c J : Wo) (N : Nat) : Prop := (∀ m, m < N → (0 ≤ J 8 m ∧ J 8 m < an_end c) ∧ ∃ v, v < 4 ∧ hsk c v (J 8 m)) ∧ (∀ m k, m < k → k < N → J 8 m < J 8 k) ∧ ∀ t, 0 ≤ t → t < an_end c → (∃ v, v < 4 ∧ hsk c v t) → ∃ m, m < N ∧ J 8 m = t
def tmo (J : Wo) (m : Nat) : Nat := if m = 0 then 0 else (J 8 (m - 1)).toNat + 1
theorem tmo_s (J : Wo) (m : Nat) : tmo J (m + 1) = (J 8 m).toNat + 1 := by
  unfold tmo
  rw [if_neg (by omega), show m + 1 - 1 = m by omega]
theorem fts_mom {J : Wo} {N : Nat} (hM : MomA c J N) {m : Nat} (hm : m < N) : fts c (tmo J (m + 1)) = fts c (tmo J m) ++ frs c (J 8 m) 8 := by
  obtain ⟨h1, h2, h3⟩ := hM
  have hb := (h1 m hm).1
  have e1 : fts c (J 8 m).toNat = fts c (tmo J m) := by
    have hle : tmo J m ≤ (J 8 m).toNat := by
      unfold tmo
      by_cases e : m = 0
      · rw [if_pos e]; omega
      · rw [if_neg e]
        have := h2 (m - 1) m (by omega) hm
        have := (h1 (m - 1) (by omega)).1
        omega
    refine fts_skip _ hle (fun t x y v hv hs => ?_)
    obtain ⟨k, hk, e⟩ := h3 t (by omega) (by omega) ⟨v, hv, hs⟩
    rcases Nat.lt_trichotomy k m with q | q | q
    · have h4 : J 8 k ≤ J 8 (m - 1) := by
        by_cases e2 : k = m - 1
        · rw [e2]; exact Int.le_refl _
        · exact Int.le_of_lt (h2 k (m - 1) (by omega) (by omega))
      have h5 := (h1 (m - 1) (by omega)).1
      unfold tmo at x
      rw [if_neg (by omega)] at x
      omega
    · rw [q] at e; omega
    · have := h2 m k q hk; omega
  rw [tmo_s]
  simp only [fts]
  rw [e1, show (((J 8 m).toNat : Nat) : Int) = J 8 m by omega]
theorem FL_mom {J : Wo} {N : Nat} (hM : MomA c J N) : FL c = fts c (tmo J N) := by
  obtain ⟨h1, h2, h3⟩ := hM
  unfold FL
  refine fts_skip _ ?_ (fun t x y v hv hs => ?_)
  · unfold tmo
    by_cases e : N = 0
    · rw [if_pos e]; omega
    · rw [if_neg e]
      have := (h1 (N - 1) (by omega)).1
      omega
  · obtain ⟨k, hk, e⟩ := h3 t (by omega) (by omega) ⟨v, hv, hs⟩
    have h4 : J 8 k ≤ J 8 (N - 1) := by
      by_cases e2 : k = N - 1
      · rw [e2]; exact Int.le_refl _
      · exact Int.le_of_lt (h2 k (N - 1) (by omega) (by omega))
    have h5 := (h1 (N - 1) (by omega)).1
    unfold tmo at x
    rw [if_neg (by omega)] at x
    omega
/-- the faults at the first m moments that the notes touch -/
noncomputable def FN (c J : Wo) (nts : Int) : Nat → List Ft
  | 0 => []
  | m + 1 => FN c J nts m ++ (if ziand (J 9 m) nts = 0 then [] else frs c (J 8 m) 8)
theorem FN_pre {J : Wo} {nts : Int} {i j : Nat} (h : i ≤ j) : FN c J nts i <+: FN c J nts j := pre_ge (f := FN c J nts) (fun m => by simp only [FN]; exact List.prefix_append _ _) h
theorem FN_all {J : Wo} {nts : Int} {N : Nat} (hM : MomA c J N) (ht : ∀ m, m < N → ¬ ziand (J 9 m) nts = 0) : ∀ m, m ≤ N → FN c J nts m = fts c (tmo J m) := by
  intro m
  induction m with
  | zero => intro _; rfl
  | succ m ih =>
    intro hm
    rw [fts_mom hM (by omega)]
    simp only [FN]
    rw [ih (by omega), if_neg (ht m (by omega))]
theorem FN_nil {J : Wo} {nts : Int} : ∀ N, FN c J nts N = [] ↔ ∀ m, m < N → ¬ ziand (J 9 m) nts = 0 → frs c (J 8 m) 8 = [] := by
  intro N
  induction N with
  | zero => simp [FN]
  | succ N ih =>
    simp only [FN, List.append_eq_nil_iff]
    rw [ih]
    constructor
    · rintro ⟨h1, h2⟩
      refine lt_s h1 (fun z => ?_)
      rw [if_neg z] at h2
      exact h2
    · intro h
      refine ⟨fun m hm => h m (by omega), ?_⟩
      by_cases z : ziand (J 9 N) nts = 0
      · rw [if_pos z]
      · rw [if_neg z]; exact h N (by omega) z
theorem FL_nil {J : Wo} {N : Nat} (hM : MomA c J N) : FL c = [] ↔ ∀ m, m < N → frs c (J 8 m) 8 = [] := by
  rw [FL_mom hM]
  have key : ∀ m, m ≤ N → (fts c (tmo J m) = [] ↔ ∀ k, k < m → frs c (J 8 k) 8 = []) := by
    intro m
    induction m with
    | zero => intro _; simp [tmo, fts]
    | succ m ih =>
      intro hm
      rw [fts_mom hM (by omega), List.append_eq_nil_iff, ih (by omega)]
      constructor
      · rintro ⟨h1, h2⟩
        exact lt_s h1 h2
      · intro h
        exact ⟨fun k hk => h k (by omega), h m (by omega)⟩
  exact key N (Nat.le_refl _)
theorem FN_len {J : Wo} {nts : Int} : ∀ m, (FN c J nts m).length ≤ 128 * m := by
  intro m
  induction m with
  | zero => simp [FN]
  | succ m ih =>
    simp only [FN, List.length_append]
    have h2 := frs_len (c := c) (t := J 8 m) 8
    split <;> simp <;> omega
end LS
/-- how many VOICES below v sound -/
def pcn (c : Wo) (t : Int) : Nat → Nat
  | 0 => 0
  | v + 1 => pcn c t v + (if dPt c t v = 1000 then 0 else 1)
section PC
variable {c : Wo} {t : Int}
theorem pcn_y {v : Nat} (h : ¬ dPt c t v = 1000) : pcn c t (v + 1) = pcn c t v + 1 := by simp only [pcn]; rw [if_neg h]
theorem pcn_n {v : Nat} (h : dPt c t v = 1000) : pcn c t (v + 1) = pcn c t v := by simp only [pcn]; rw [if_pos h]; omega
theorem pcn_le {k : Nat} : ∀ m, k ≤ m → pcn c t k ≤ pcn c t m := by
  intro m
  induction m with
  | zero => intro h; rw [show k = 0 by omega]; exact Nat.le_refl _
  | succ m ih =>
    intro h
    by_cases e : k = m + 1
    · rw [e]; exact Nat.le_refl _
    · have := ih (by omega)
      simp only [pcn]
      omega
theorem pcn_v : ∀ m, pcn c t m ≤ m := by
  intro m
  induction m with
  | zero => exact Nat.le_refl _
  | succ m ih =>
    simp only [pcn]
    split <;> omega
theorem pcn_nx {i : Nat} : ∀ m k, k + m = 4 → pcn c t k = i → i < pcn c t 4 → ∃ v, k ≤ v ∧ v < 4 ∧ ¬ dPt c t v = 1000 ∧ pcn c t v = i ∧ ∀ u, k ≤ u → u < v → dPt c t u = 1000 := by
  intro m
  induction m with
  | zero => intro k h1 h2 h3; rw [show k = 4 by omega] at h2; omega
  | succ m ih =>
    intro k h1 h2 h3
    by_cases e : dPt c t k = 1000
    · obtain ⟨v, a, b, d, f, g⟩ := ih (k + 1) (by omega) (by rw [pcn_n e]; exact h2) h3
      refine ⟨v, by omega, b, d, f, fun u x y => ?_⟩
      by_cases e2 : u = k
      · rw [e2]; exact e
      · exact g u (by omega) y
    · exact ⟨k, Nat.le_refl _, by omega, e, h2, fun u x y => by omega⟩
theorem pcn_end {k : Nat} (hk : k ≤ 4) (h : pcn c t k = pcn c t 4) : ∀ u, k ≤ u → u < 4 → dPt c t u = 1000 := by
  intro u h1 h2
  by_cases e : dPt c t u = 1000
  · exact e
  · have h3 := pcn_y e
    have h4 := pcn_le (c := c) (t := t) (k := k) u h1
    have h5 := pcn_le (c := c) (t := t) (k := u + 1) 4 (by omega)
    omega
theorem fas_sk {rule : Int} {k v : Nat} (hkv : k ≤ v) (h : ∀ u, k ≤ u → u < v → dPt c t u = 1000) : fas c t rule v = fas c t rule k := fas_no v hkv (fun a x y => ⟨fun z => brA_so z (h a x y), fun b _ z => (brP_so z).1 (h a x y)⟩)
theorem fbs_sk {rule : Int} {a k v : Nat} (hkv : k ≤ v) (h : ∀ u, k ≤ u → u < v → dPt c t u = 1000) : fbs c t rule a v = fbs c t rule a k := fbs_no v hkv (fun b x y z => (brP_so z).2 (h b x y))
end PC
/-- what hear has heard of the VOICES below v -/
def Hrd (c J : Wo) (t : Int) (v : Nat) : Prop := J 36 7 = pcn c t v ∧ ∀ u, u < v → ¬ dPt c t u = 1000 → J 37 (pcn c t u) = u ∧ J 38 u = dSk c t u ∧ J 39 u = dPt c t u ∧ J 40 u = dOb c t u ∧ J 41 u = dNb c t u
/-- the faults L are counted, the sought one is kept -/
def KfI (J : Wo) (s : Int) (L : List Ft) : Prop := J 36 9 = L.length ∧ J 36 10 = s ∧ ∀ k : Nat, (k : Int) = s → ∀ x : Ft, L[k]? = some x → J 36 11 = x.1 ∧ J 36 12 = x.2.1 ∧ J 36 13 = x.2.2.1 ∧ J 36 14 = x.2.2.2
theorem Kf_add {J K : Wo} {s : Int} {L : List Ft} {x : Ft} (h : KfI J s L) (h9 : K 36 9 = J 36 9 + 1) (h10 : K 36 10 = J 36 10) (hy : J 36 9 = J 36 10 → K 36 11 = x.1 ∧ K 36 12 = x.2.1 ∧ K 36 13 = x.2.2.1 ∧ K 36 14 = x.2.2.2) (hn : ¬ J 36 9 = J 36 10 → K 36 11 = J 36 11 ∧ K 36 12 = J 36 12 ∧ K 36 13 = J 36 13 ∧ K 36 14 = J 36 14) : KfI K s (L ++ [x]) := by
  obtain ⟨h1, h2, h3⟩ := h
  refine ⟨by rw [h9, h1]; simp, by rw [h10, h2], fun k hk y hy2 => ?_⟩
  by_cases e : k = L.length
  · have e2 : y = x := by
      rw [e] at hy2
      simpa using hy2.symm
    rw [e2]
    exact hy (by omega)
  · have h4 : L[k]? = some y := by
      have hlt : k < L.length := by
        have := List.getElem?_eq_some_iff.mp hy2
        obtain ⟨q, _⟩ := this
        simp at q
        omega
      rw [List.getElem?_append_left hlt] at hy2
      exact hy2
    obtain ⟨a, b, d, f⟩ := hn (by omega)
    rw [a, b, d, f]
    exact h3 k hk y h4
theorem Kf_fr {J K : Wo} {s : Int} {L : List Ft} (h : ∀ b, 8 < b → K 36 b = J 36 b) (hK : KfI J s L) : KfI K s L := by
  unfold KfI at hK ⊢
  rw [h 9 (by omega), h 10 (by omega), h 11 (by omega), h 12 (by omega), h 13 (by omega), h 14 (by omega)]
  exact hK
