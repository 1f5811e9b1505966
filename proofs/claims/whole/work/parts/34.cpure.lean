/-! THE SCORE: the lines laid and tuned; the moments; who is where -/
def ScF (c J : Wo) : Prop := ∀ v, v < 4 → LnF c J v ∧ LnB c J v ∧ LnN c J v
def ScT (c J : Wo) : Prop := ∀ v, v < 4 → c (3 + v) 0 = 1 → LnT c J v
section SC
variable {c I J K : Wo}
theorem LnT_fr {v : Nat} (h : ∀ b, K (15 + 6 * v) b = J (15 + 6 * v) b) (hT : LnT c J v) : LnT c K v := fun p hp => by rw [h p]; exact hT p hp
theorem LnN_fr {v : Nat} (h : ∀ b, K (16 + 6 * v) b = J (16 + 6 * v) b ∧ K (17 + 6 * v) b = J (17 + 6 * v) b) (hN : LnN c J v) : LnN c K v := fun p hp => by rw [(h p).1, (h p).2]; exact hN p hp
theorem ScF_fr (h : ∀ a b, 12 ≤ a → a < 36 → ¬ (a = 15 ∨ a = 21 ∨ a = 27 ∨ a = 33) → K a b = J a b) (hF : ScF c J) : ScF c K := fun v hv => by
  obtain ⟨h1, h2, h3⟩ := hF v hv
  exact ⟨LnF_fr (fun b => h _ b (by omega) (by omega) (by omega)) h1, LnB_fr (fun b => ⟨h _ b (by omega) (by omega) (by omega), h _ b (by omega) (by omega) (by omega)⟩) h2, LnN_fr (fun b => ⟨h _ b (by omega) (by omega) (by omega), h _ b (by omega) (by omega) (by omega)⟩) h3⟩
theorem ScT_fr (h : ∀ a b, 12 ≤ a → a < 36 → K a b = J a b) (hT : ScT c J) : ScT c K := fun v hv hon => LnT_fr (fun b => h _ b (by omega) (by omega)) (hT v hv hon)
end SC
def nJ (J : Wo) : Nat := (J 6 5).toNat
def MSt (J : Wo) : Prop := 0 ≤ J 6 5 ∧ (∀ m k, m < k → k < nJ J → J 8 m < J 8 k) ∧ ∀ m, m < nJ J → 0 ≤ J 8 m ∧ J 8 m ≤ 100000
def Kmp (I J : Wo) (t : Int) : Prop := MSt J ∧ (∀ x, (∃ m, m < nJ J ∧ J 8 m = x) ↔ (x = t ∨ ∃ m, m < nJ I ∧ I 8 m = x)) ∧ J 6 5 ≤ I 6 5 + 1 ∧ ∀ a b, ¬ a = 8 → ¬ (a = 6 ∧ b = 5) → J a b = I a b
theorem km_old {I : Wo} {t s : Int} (hM : MSt I) (h0 : 0 < s ∧ s ≤ I 6 5) (he : I 8 (s - 1).toNat = t) : Kmp I I t := by
  refine ⟨hM, fun x => ⟨fun h => Or.inr h, fun h => h.elim (fun e => ⟨(s - 1).toNat, by unfold nJ; omega, by rw [he, e]⟩) id⟩, by omega, fun _ _ _ _ => rfl⟩
theorem km_ins {I Ja J2 J3 : Wo} {t s : Int} (hM : MSt I) (ht : 0 ≤ t ∧ t ≤ 100000) (h0 : 0 ≤ s ∧ s ≤ I 6 5) (hgt : ∀ m : Nat, s ≤ (m : Int) → m < nJ I → t < I 8 m) (hle : s = 0 ∨ I 8 (s - 1).toNat < t)
    (hlow : ∀ j : Nat, (j : Int) ≤ s → Ja 8 j = I 8 j) (hhi : ∀ j : Nat, s < (j : Int) → (j : Int) ≤ I 6 5 → Ja 8 j = I 8 (j - 1)) (hf : ∀ a b, ¬ a = 8 → Ja a b = I a b) (e2 : J2 = up2 Ja 8 s.toNat t) (e3 : J3 = up2 J2 6 5 (I 6 5 + 1)) : Kmp I J3 t := by
  obtain ⟨m1, m2, m3⟩ := hM
  have c0 : J3 6 5 = I 6 5 + 1 := by rw [e3, up2_ss]
  have cn' : nJ J3 = nJ I + 1 := by unfold nJ; rw [c0]; omega
  have hN : (nJ I : Int) = I 6 5 := by unfold nJ; omega
  have v8 : ∀ j : Nat, J3 8 j = if (j : Int) < s then I 8 j else if (j : Int) = s then t else J3 8 j := fun j => by
    by_cases a : (j : Int) < s
    · rw [if_pos a, e3, up2_o _ _ _ _ _ _ (by omega), e2, up2_o _ _ _ _ _ _ (by omega)]; exact hlow j (by omega)
    · rw [if_neg a]
      by_cases b : (j : Int) = s
      · rw [if_pos b, e3, up2_o _ _ _ _ _ _ (by omega), e2, show j = s.toNat by omega, up2_ss]
      · rw [if_neg b]
  have vlt : ∀ j : Nat, (j : Int) < s → J3 8 j = I 8 j := fun j h => by rw [v8, if_pos h]
  have veq : ∀ j : Nat, (j : Int) = s → J3 8 j = t := fun j h => by rw [v8, if_neg (by omega), if_pos h]
  have vgt : ∀ j : Nat, s < (j : Int) → (j : Int) ≤ I 6 5 → J3 8 j = I 8 (j - 1) := fun j h h' => by
    rw [e3, up2_o _ _ _ _ _ _ (by omega), e2, up2_o _ _ _ _ _ _ (by omega)]; exact hhi j h h'
  have lowt : ∀ j : Nat, (j : Int) < s → I 8 j < t := fun j h => by
    rcases hle with z | z
    · omega
    · by_cases e : j = (s - 1).toNat
      · rw [e]; exact z
      · have := m2 j (s - 1).toNat (by omega) (by omega); omega
  have str : ∀ m k : Nat, m < k → k < nJ J3 → J3 8 m < J3 8 k := by
    intro m k hmk hk
    rw [cn'] at hk
    rcases Int.lt_trichotomy (m : Int) s with a | a | a
    · rw [vlt m a]
      rcases Int.lt_trichotomy (k : Int) s with b | b | b
      · rw [vlt k b]; exact m2 m k hmk (by omega)
      · rw [veq k b]; exact lowt m a
      · rw [vgt k b (by omega)]
        have := hgt (k - 1) (by omega) (by omega)
        have := lowt m a
        omega
    · rw [veq m a, vgt k (by omega) (by omega)]
      exact hgt (k - 1) (by omega) (by omega)
    · rw [vgt m a (by omega), vgt k (by omega) (by omega)]
      exact m2 (m - 1) (k - 1) (by omega) (by omega)
  refine ⟨⟨by omega, str, fun m hm => ?_⟩, fun x => ⟨?_, ?_⟩, by omega, fun a b x y => ?_⟩
  · rw [cn'] at hm
    rcases Int.lt_trichotomy (m : Int) s with a | a | a
    · rw [vlt m a]; exact m3 m (by omega)
    · rw [veq m a]; exact ht
    · rw [vgt m a (by omega)]; exact m3 (m - 1) (by omega)
  · rintro ⟨m, hm, e⟩
    rw [cn'] at hm
    rcases Int.lt_trichotomy (m : Int) s with a | a | a
    · rw [vlt m a] at e; exact Or.inr ⟨m, by omega, e⟩
    · rw [veq m a] at e; exact Or.inl e.symm
    · rw [vgt m a (by omega)] at e; exact Or.inr ⟨m - 1, by omega, e⟩
  · rintro (e | ⟨m, hm, e⟩)
    · exact ⟨s.toNat, by omega, by rw [veq _ (by omega), e]⟩
    · by_cases a : (m : Int) < s
      · exact ⟨m, by omega, by rw [vlt m a]; exact e⟩
      · exact ⟨m + 1, by omega, by rw [vgt (m + 1) (by omega) (by omega)]; exact e⟩
  · rw [e3, up2_o _ _ _ _ _ _ (by omega), e2, up2_o _ _ _ _ _ _ (by omega)]; exact hf a b x
theorem km_hi {I Ja J1 : Wo} {m : Int} (hm : 0 < m) (hhi : ∀ j : Nat, m < (j : Int) → (j : Int) ≤ I 6 5 → Ja 8 j = I 8 (j - 1)) (e : J1 = up2 Ja 8 m.toNat (I 8 (m - 1).toNat)) : ∀ j : Nat, m + (-1) < (j : Int) → (j : Int) ≤ I 6 5 → J1 8 j = I 8 (j - 1) := by
  intro j x y
  by_cases z : j = m.toNat
  · rw [z, e, up2_ss]
    congr 1
    omega
  · rw [e, up2_o _ _ _ _ _ _ (Or.inr z)]
    exact hhi j (by omega) y
theorem km_gt {I : Wo} {s t : Int} (hs : 0 < s) (hgt : ∀ j : Nat, s ≤ (j : Int) → j < nJ I → t < I 8 j) (h : t < I 8 (s - 1).toNat) : ∀ j : Nat, s + (-1) ≤ (j : Int) → j < nJ I → t < I 8 j := by
  intro j x y
  by_cases z : j = (s - 1).toNat
  · rw [z]; exact h
  · exact hgt j (by omega) y
/-- gatherMoments' loops -/
def GS (c : Wo) (v p : Nat) (x : Int) : Prop := ∃ u q, (u < v ∨ (u = v ∧ q < p)) ∧ q < cn c ∧ u < 4 ∧ c (3 + u) 0 = 1 ∧ ¬ clp c u q = 1000 ∧ ctm c u q = x
def GmI (c I J : Wo) (v p : Nat) : Prop := MSt J ∧ (∀ x, (∃ m, m < nJ J ∧ J 8 m = x) ↔ GS c v p x) ∧ J 6 5 ≤ 24 * v + p ∧ ∀ a b, ¬ a = 8 → ¬ (a = 6 ∧ b = 5) → J a b = I a b
section GM
variable {c I J K : Wo} {v p : Nat}
theorem gm_0 (e : J = up2 I 6 5 0) : GmI c I J 0 0 := by
  subst e
  have h0 : up2 I 6 5 0 6 5 = 0 := up2_ss _ _ _ _
  have hn : nJ (up2 I 6 5 0) = 0 := by unfold nJ; rw [h0]; rfl
  refine ⟨⟨by rw [h0]; omega, fun m k a b => by rw [hn] at b; omega, fun m a => by rw [hn] at a; omega⟩, fun x => ⟨fun ⟨m, a, _⟩ => by rw [hn] at a; omega, fun ⟨u, q, a, _⟩ => by omega⟩, by rw [h0]; omega, fun a b x y => up2_o _ _ _ _ _ _ (by omega)⟩
theorem gm_n (h : GmI c I J v p) (hc : clp c v p = 1000) : GmI c I J v (p + 1) := by
  obtain ⟨h1, h2, h3, h4⟩ := h
  refine ⟨h1, fun x => ?_, by omega, h4⟩
  rw [h2 x]
  constructor
  · rintro ⟨u, q, a, b⟩
    exact ⟨u, q, by omega, b⟩
  · rintro ⟨u, q, a, b⟩
    refine ⟨u, q, ?_, b⟩
    rcases a with a | a
    · exact Or.inl a
    · by_cases z : q = p
      · exfalso; apply b.2.2.2.1; rw [a.1, z]; exact hc
      · exact Or.inr (by omega)
theorem gm_y (h : GmI c I J v p) (hv : v < 4) (hp : p < cn c) (hon : c (3 + v) 0 = 1) (hc : ¬ clp c v p = 1000) (hK : Kmp J K (ctm c v p)) : GmI c I K v (p + 1) := by
  obtain ⟨h1, h2, h3, h4⟩ := h
  obtain ⟨k1, k2, k3, k4⟩ := hK
  refine ⟨k1, fun x => ?_, by omega, fun a b y z => (k4 a b y z).trans (h4 a b y z)⟩
  rw [k2 x, h2 x]
  constructor
  · rintro (e | ⟨u, q, a, b⟩)
    · exact ⟨v, p, by omega, hp, hv, hon, hc, e.symm⟩
    · exact ⟨u, q, by omega, b⟩
  · rintro ⟨u, q, a, b⟩
    rcases a with a | a
    · exact Or.inr ⟨u, q, by omega, b⟩
    · by_cases z : q = p
      · left
        rw [← b.2.2.2.2, a.1, z]
      · exact Or.inr ⟨u, q, by omega, b⟩
theorem gm_e (h : GmI c I J v p) (hn : cn c ≤ 24) (hp : p ≤ cn c) (he : c (3 + v) 0 = 0 ∨ p = cn c) : GmI c I J (v + 1) 0 := by
  obtain ⟨h1, h2, h3, h4⟩ := h
  refine ⟨h1, fun x => ?_, by omega, h4⟩
  rw [h2 x]
  constructor
  · rintro ⟨u, q, a, b⟩
    exact ⟨u, q, by omega, b⟩
  · rintro ⟨u, q, a, b⟩
    refine ⟨u, q, ?_, b⟩
    by_cases z : u = v
    · rcases he with he | he
      · have := b.2.2.1; rw [z] at this; omega
      · exact Or.inr ⟨z, by omega⟩
    · exact Or.inl (by omega)
theorem gm_end (hw : wfN c) (hS : wfS c) (hV : wfV c) (hn : NTL c) (h : GmI c I J 4 0) : MomA c J (nJ J) ∧ 0 ≤ J 6 5 ∧ J 6 5 ≤ 96 := by
  obtain ⟨h1, h2, h3, h4⟩ := h
  refine ⟨⟨fun m hm => ?_, h1.2.1, fun t x y z => ?_⟩, h1.1, by omega⟩
  · obtain ⟨u, q, a, b1, b2, b3, b4, b5⟩ := (h2 (J 8 m)).mp ⟨m, hm, rfl⟩
    have f := ctm_f hw hS hV b2 b3 (hn u b2) b1
    rw [b5] at f
    exact ⟨f.1, u, b2, b3, (csk_tm hw hS hV b2 b3 (hn u b2) f.1).mpr ⟨q, b1, b5, b4⟩⟩
  · obtain ⟨v, hv, hs⟩ := z
    obtain ⟨p, p1, p2, p3⟩ := (csk_tm hw hS hV hv hs.1 (hn v hv) ⟨x, y⟩).mp hs.2
    exact (h2 t).mpr ⟨v, p, Or.inl hv, p1, hv, hs.1, p3, p2⟩
end GM
/-- who is where at a moment -/
def plC (c : Wo) (t : Int) (u : Nat) : Int := if dPt c t u = 1000 then -1 else cpl c u t
def PlV (c J : Wo) (m v : Nat) : Prop := (∀ u, u < v → J 10 (m * 4 + u) = plC c (J 8 m) u) ∧ J 11 m = bsm c (J 8 m) v ∧ ∀ n, n < 24 → tbit (J 9 m) n = false → ∀ u, u < v → ¬ dPt c (J 8 m) u = 1000 → ¬ ndd c u (cpl c u (J 8 m)).toNat n
section PV
variable {c I J K J1 J2 J3 : Wo} {m v p : Nat} {r s : Int}
theorem plC_on (h : wfN c) (hV : wfV c) (hv : v < 4) {t : Int} (hp : ¬ plC c t v = -1) : c (3 + v) 0 = 1 ∧ ¬ dPt c t v = 1000 ∧ plC c t v = cpl c v t ∧ (0 ≤ cpl c v t ∧ cpl c v t < cn c) ∧ ¬ clp c v (cpl c v t).toNat = 1000 := by
  unfold plC at hp ⊢
  by_cases e : dPt c t v = 1000
  · rw [if_pos e] at hp; exact absurd rfl hp
  · rw [if_neg e] at hp ⊢
    have hb := (cpl_b h hV hv t).resolve_left hp
    unfold dPt at e
    by_cases hon : c (3 + v) 0 = 1
    · rw [if_pos hon, cpl_pt] at e
      exact ⟨hon, by unfold dPt; rw [if_pos hon, cpl_pt]; exact e, rfl, hb, fun z => e (Or.inr z)⟩
    · rw [if_neg hon] at e; exact absurd rfl e
theorem plC_no (h : wfN c) (hV : wfV c) (hv : v < 4) {t : Int} (hp : plC c t v = -1) : dPt c t v = 1000 := by
  unfold plC at hp
  by_cases e : dPt c t v = 1000
  · exact e
  · rw [if_neg e] at hp
    exfalso; apply e
    unfold dPt
    by_cases hon : c (3 + v) 0 = 1
    · rw [if_pos hon, cpl_pt]; exact Or.inl hp
    · rw [if_neg hon]
theorem plC_1 {t : Int} (hon : ¬ c (3 + v) 0 = 1) : plC c t v = -1 := by
  unfold plC dPt
  rw [if_neg hon, if_pos rfl]
theorem plC_2 {t : Int} (hp : cpl c v t = -1) : plC c t v = -1 := by
  unfold plC
  split
  · rfl
  · exact hp
theorem plC_3 {t : Int} (hc : clp c v (cpl c v t).toNat = 1000) : plC c t v = -1 := by
  unfold plC dPt
  by_cases hon : c (3 + v) 0 = 1
  · rw [if_pos hon, if_pos (cpl_pt.mpr (Or.inr hc))]
  · rw [if_neg hon, if_pos rfl]
theorem plC_4 {t : Int} (hon : c (3 + v) 0 = 1) (hp : ¬ cpl c v t = -1) (hc : ¬ clp c v (cpl c v t).toNat = 1000) : plC c t v = cpl c v t := by
  unfold plC dPt
  rw [if_pos hon, if_neg (fun z => (cpl_pt.mp z).elim hp hc)]
theorem pl_j1 {t p0 : Int} (h0 : (c (3 + v) 0 = 1 ∧ p0 = cpl c v t) ∨ (¬ c (3 + v) 0 = 1 ∧ p0 = -1)) (h : p0 = -1) : p0 = plC c t v := by
  rcases h0 with ⟨z1, z2⟩ | ⟨z1, z2⟩
  · rw [plC_2 (by omega)]; exact h
  · rw [plC_1 z1]; exact h
theorem pl_j2 {t p0 : Int} (h0 : (c (3 + v) 0 = 1 ∧ p0 = cpl c v t) ∨ (¬ c (3 + v) 0 = 1 ∧ p0 = -1)) (h : ¬ p0 = -1) (hc : clp c v p0.toNat = 1000) : -1 = plC c t v := by
  rcases h0 with ⟨z1, z2⟩ | ⟨z1, z2⟩
  · rw [plC_3 (by rw [← z2]; exact hc)]
  · exact absurd z2 h
theorem pl_j3 {t p0 : Int} (h0 : (c (3 + v) 0 = 1 ∧ p0 = cpl c v t) ∨ (¬ c (3 + v) 0 = 1 ∧ p0 = -1)) (h : ¬ p0 = -1) (hc : ¬ clp c v p0.toNat = 1000) : p0 = plC c t v := by
  rcases h0 with ⟨z1, z2⟩ | ⟨z1, z2⟩
  · rw [plC_4 z1 (by omega) (by rw [← z2]; exact hc)]; exact z2
  · exact absurd z2 h
theorem pl_0 (e1 : J1 = up2 J 9 m 0) (e2 : J2 = up2 J1 11 m 0) : PlV c J2 m 0 := by
  subst e2
  refine ⟨fun u hu => absurd hu (Nat.not_lt_zero _), up2_ss _ _ _ _, fun n hn hb u hu => absurd hu (Nat.not_lt_zero _)⟩
theorem pl_fr (h : PlV c J m v) (h8 : K 8 m = J 8 m) (h9 : K 9 m = J 9 m) (h10 : ∀ u, u < v → K 10 (m * 4 + u) = J 10 (m * 4 + u)) (h11 : K 11 m = J 11 m) : PlV c K m v := by
  unfold PlV at h ⊢
  rw [h8, h9, h11]
  exact ⟨fun u hu => (h10 u hu).trans (h.1 u hu), h.2⟩
theorem pl_n (h : PlV c J m v) (hd : dPt c (J 8 m) v = 1000) (e1 : J1 = up2 J 10 (m * 4 + v) (-1)) : PlV c J1 m (v + 1) := by
  obtain ⟨h1, h2, h3⟩ := h
  have e8 : J1 8 m = J 8 m := by rw [e1, up2_o _ _ _ _ _ _ (by omega)]
  have e9 : J1 9 m = J 9 m := by rw [e1, up2_o _ _ _ _ _ _ (by omega)]
  have e11 : J1 11 m = J 11 m := by rw [e1, up2_o _ _ _ _ _ _ (by omega)]
  unfold PlV
  rw [e8, e9, e11]
  refine ⟨lt_s (fun u hu => by rw [e1, up2_o _ _ _ _ _ _ (by omega)]; exact h1 u hu) ?_, ?_, fun n hn hb => lt_s (h3 n hn hb) (fun z => absurd hd z)⟩
  · rw [e1, up2_ss]; unfold plC; rw [if_pos hd]
  · rw [h2]; simp only [bsm]; rw [dSk_so hd]; omega
theorem pl_y {t : Int} (ht8 : J 8 m = t) (hv : v < 4) (h : PlV c J m v) (e1 : J1 = up2 J 10 (m * 4 + v) (p : Int)) (e2 : J2 = up2 J1 9 m (zior (J 9 m) r)) (e3 : J3 = up2 J2 11 m (zior (bsm c t v) s)) (hd : ¬ dPt c t v = 1000) (hp : (p : Int) = cpl c v t) (hr : ∀ n, n < 24 → ndd c v p n → tbit r n = true) (hs : s = if dSk c t v = 1 then zishl 1 v else 0) : PlV c J3 m (v + 1) := by
  subst ht8
  obtain ⟨h1, h2, h3⟩ := h
  have e8 : J3 8 m = J 8 m := by rw [e3, up2_o _ _ _ _ _ _ (by omega), e2, up2_o _ _ _ _ _ _ (by omega), e1, up2_o _ _ _ _ _ _ (by omega)]
  have e9 : J3 9 m = zior (J 9 m) r := by rw [e3, up2_o _ _ _ _ _ _ (by omega), e2, up2_ss]
  have e11 : J3 11 m = zior (bsm c (J 8 m) v) s := by rw [e3, up2_ss]
  have e10 : ∀ u, J3 10 u = J1 10 u := fun u => by rw [e3, up2_o _ _ _ _ _ _ (by omega), e2, up2_o _ _ _ _ _ _ (by omega)]
  unfold PlV
  rw [e8, e9, e11]
  refine ⟨lt_s (fun u hu => by rw [e10, e1, up2_o _ _ _ _ _ _ (by omega)]; exact h1 u hu) ?_, ?_, fun n hn hb => ?_⟩
  · rw [e10, e1, up2_ss]; unfold plC; rw [if_neg hd]; exact hp
  · have q := bs_or hv (bsm_b c (J 8 m) v (by omega))
    simp only [bsm]
    rcases dSk_b c (J 8 m) v with z | z
    · rw [hs, if_neg (by omega), q.2, z]; omega
    · rw [hs, if_pos z, q.1, z]; omega
  · rw [tb_or] at hb
    have hb1 : tbit (J 9 m) n = false := by cases hx : tbit (J 9 m) n <;> simp_all
    have hb2 : tbit r n = false := by cases hx : tbit r n <;> simp_all
    refine lt_s (h3 n hn hb1) (fun _ z => ?_)
    rw [show (cpl c v (J 8 m)).toNat = p by omega] at z
    have := hr n hn z
    rw [hb2] at this
    exact absurd this (by simp)
end PV
/-- all moments are placed -/
def PlA (c J : Wo) : Prop := ∀ m, m < nJ J → PlV c J m 4
theorem PlA_tch {c J : Wo} (h : PlA c J) : TchI c J (nJ J) := fun m hm n hn hb v hv hd => (h m hm).2.2 n hn hb v hv hd
theorem na_0 {x : Int} {n : Nat} (hn : n < 24) (hx : x = zishl 1 (n : Int)) : tbit x n = true := by rw [hx]; exact tb_shl hn
theorem na_l {x y : Int} {n : Nat} (h : tbit x n = true) : tbit (zior x y) n = true := by rw [tb_or, h]; rfl
theorem na_r {x y : Int} {n : Nat} (h : tbit y n = true) : tbit (zior x y) n = true := by rw [tb_or, h]; simp

/-! JUDGING in the class: what is heard -/
section HB
variable {c : Wo} {t : Int} {v : Nat}
theorem dPt_b (h : wfN c) (hV : wfV c) (hv : v < 4) : -200 ≤ dPt c t v ∧ dPt c t v ≤ 1001 := by
  unfold dPt
  split
  · exact cpt_b h hV hv t
  · omega
theorem dPt_pl (h : wfN c) (hV : wfV c) (hv : v < 4) (hd : ¬ dPt c t v = 1000) : c (3 + v) 0 = 1 ∧ (0 ≤ cpl c v t ∧ cpl c v t < cn c) ∧ ¬ clp c v (cpl c v t).toNat = 1000 ∧ dPt c t v = clp c v (cpl c v t).toNat := by
  unfold dPt at hd ⊢
  by_cases hon : c (3 + v) 0 = 1
  · rw [if_pos hon] at hd ⊢
    have hc := fun z => hd (cpl_pt.mpr z)
    have hb := (cpl_b h hV hv t).resolve_left (fun z => hc (Or.inl z))
    refine ⟨hon, hb, fun z => hc (Or.inr z), ?_⟩
    unfold cpt
    rw [if_neg (by omega)]
  · rw [if_neg hon] at hd; exact absurd rfl hd
theorem dOb_b (h : wfN c) (hV : wfV c) (hv : v < 4) (hd : ¬ dPt c t v = 1000) : (-200 ≤ dOb c t v ∧ dOb c t v ≤ 1001) ∧ (-200 ≤ dNb c t v ∧ dNb c t v ≤ 1001) := by
  have := (dPt_pl h hV hv hd).2.1
  exact ⟨cbs_b h hV hv (by omega) _ _, cbs_b h hV hv (by omega) _ _⟩
theorem pcn_at {i : Nat} : ∀ m, i < pcn c t m → ∃ u, u < m ∧ ¬ dPt c t u = 1000 ∧ pcn c t u = i := by
  intro m
  induction m with
  | zero => intro h; simp [pcn] at h
  | succ m ih =>
    intro h
    by_cases e : dPt c t m = 1000
    · rw [pcn_n e] at h
      obtain ⟨u, a, b⟩ := ih h
      exact ⟨u, by omega, b⟩
    · rw [pcn_y e] at h
      by_cases q : i < pcn c t m
      · obtain ⟨u, a, b⟩ := ih q
        exact ⟨u, by omega, b⟩
      · exact ⟨m, by omega, e, by omega⟩
theorem pcn_inj {u w : Nat} (hu : ¬ dPt c t u = 1000) (hw : ¬ dPt c t w = 1000) (h : pcn c t u = pcn c t w) : u = w := by
  rcases Nat.lt_trichotomy u w with q | q | q
  · have h1 := pcn_y hu
    have h2 := pcn_le (c := c) (t := t) (k := u + 1) w (by omega)
    omega
  · exact q
  · have h1 := pcn_y hw
    have h2 := pcn_le (c := c) (t := t) (k := w + 1) u (by omega)
    omega
theorem fg_step {i u a b : Nat} (hu : ¬ dPt c t u = 1000) (hi : pcn c t u = i) (hno : ∀ q, q < 4 → ¬ dPt c t q = 1000 → pcn c t q < i → ¬ (dPt c t q = 1001 ∨ (dPt c t q < dPt c t a ∧ dPt c t q < dPt c t b))) (h : ¬ (dPt c t u = 1001 ∨ (dPt c t u < dPt c t a ∧ dPt c t u < dPt c t b))) : ∀ q, q < 4 → ¬ dPt c t q = 1000 → pcn c t q < i + 1 → ¬ (dPt c t q = 1001 ∨ (dPt c t q < dPt c t a ∧ dPt c t q < dPt c t b)) := by
  intro q x y z
  by_cases e : pcn c t q = i
  · rw [pcn_inj y hu (e.trans hi.symm)]; exact h
  · exact hno q x y (by omega)
theorem gp_tm (a b : Int) : Int.tmod ((a - b).natAbs : Int) 12 = gp a b := by
  unfold gp
  rw [Int.tmod_eq_emod_of_nonneg (by omega)]
theorem cons_k {k : Int} (hk : 0 ≤ k ∧ k < 12) : (ziand (zishr 921 k) 1 = 0 ∧ ¬ cons k) ∨ (ziand (zishr 921 k) 1 = 1 ∧ cons k) := by
  unfold cons
  rcases (show k = 0 ∨ k = 1 ∨ k = 2 ∨ k = 3 ∨ k = 4 ∨ k = 5 ∨ k = 6 ∨ k = 7 ∨ k = 8 ∨ k = 9 ∨ k = 10 ∨ k = 11 by omega) with rfl | rfl | rfl | rfl | rfl | rfl | rfl | rfl | rfl | rfl | rfl | rfl <;> decide +kernel
theorem fas_y {rule : Int} {k : Nat} (hr : rule < 4 ∨ rule = 128) (hk : k ≤ v) (hs : ∀ u, k ≤ u → u < v → dPt c t u = 1000) (hb : brA c rule v t) : fas c t rule (v + 1) = fas c t rule k ++ [(t, rule, v, v)] := by
  simp only [fas]
  rw [if_pos hr, ifL_y hb, fas_sk hk hs]
theorem fas_z {rule : Int} {k : Nat} (hr : rule < 4 ∨ rule = 128) (hk : k ≤ v) (hs : ∀ u, k ≤ u → u < v → dPt c t u = 1000) (hb : ¬ brA c rule v t) : fas c t rule (v + 1) = fas c t rule k := by
  simp only [fas]
  rw [if_pos hr, ifL_n hb, fas_sk hk hs, List.append_nil]
theorem fbs_y {rule : Int} {a k : Nat} (hav : a < v) (hk : k ≤ v) (hs : ∀ u, k ≤ u → u < v → dPt c t u = 1000) (hb : brP c rule a v t) : fbs c t rule a (v + 1) = fbs c t rule a k ++ [(t, rule, a, v)] := by
  simp only [fbs]
  rw [if_pos hav, ifL_y hb, fbs_sk hk hs]
theorem fbs_z {rule : Int} {a k : Nat} (hav : a < v) (hk : k ≤ v) (hs : ∀ u, k ≤ u → u < v → dPt c t u = 1000) (hb : ¬ brP c rule a v t) : fbs c t rule a (v + 1) = fbs c t rule a k := by
  simp only [fbs]
  rw [if_pos hav, ifL_n hb, fbs_sk hk hs, List.append_nil]
theorem fas_p {rule : Int} {k : Nat} (hr : ¬ (rule < 4 ∨ rule = 128)) (hk : k ≤ v) (hs : ∀ u, k ≤ u → u < v → dPt c t u = 1000) : fas c t rule (v + 1) = fas c t rule k ++ fbs c t rule v 4 := by
  simp only [fas]
  rw [if_neg hr, fas_sk hk hs]
end HB
/-- all is heard at t -/
def HrA (c J : Wo) (t : Int) : Prop := J 36 8 = t ∧ Hrd c J t 4
section HV
variable {c I J : Wo} {t : Int}
theorem HrA_v (h : HrA c J t) : ∀ u, u < 4 → ¬ dPt c t u = 1000 → J 38 u = dSk c t u ∧ J 39 u = dPt c t u ∧ J 40 u = dOb c t u ∧ J 41 u = dNb c t u := fun u hu hd => (h.2.2 u hu hd).2
theorem HrA_p (h : HrA c J t) {u i : Nat} (hu : u < 4) (hd : ¬ dPt c t u = 1000) (hi : pcn c t u = i) : J 37 i = (u : Int) := by rw [← hi]; exact (h.2.2 u hu hd).1
theorem HrA_fr (h : HrA c I t) (hf : ∀ a b, ¬ (a = 36 ∧ 8 < b) → J a b = I a b) : HrA c J t := by
  unfold HrA Hrd at h ⊢
  refine ⟨by rw [hf 36 8 (by omega)]; exact h.1, by rw [hf 36 7 (by omega)]; exact h.2.1, fun u hu hd => ?_⟩
  rw [hf 37 _ (by omega), hf 38 u (by omega), hf 39 u (by omega), hf 40 u (by omega), hf 41 u (by omega)]
  exact h.2.2 u hu hd
theorem hr_n {v : Nat} (h : Hrd c J t v) (hd : dPt c t v = 1000) : Hrd c J t (v + 1) := by
  refine ⟨by rw [pcn_n hd]; exact h.1, lt_s h.2 (fun z => absurd hd z)⟩
theorem hr_y {J1 J2 J3 J4 J5 J6 : Wo} {v : Nat} {x1 x2 x3 x4 : Int} (hv : v < 4) (h : Hrd c J t v) (hd : ¬ dPt c t v = 1000) (e1 : J1 = up2 J 37 (pcn c t v) (v : Int)) (e2 : J2 = up2 J1 36 7 ((pcn c t v : Int) + 1)) (e3 : J3 = up2 J2 38 v x1) (e4 : J4 = up2 J3 39 v x2) (e5 : J5 = up2 J4 40 v x3) (e6 : J6 = up2 J5 41 v x4)
    (h1 : x1 = dSk c t v) (h2 : x2 = dPt c t v) (h3 : x3 = dOb c t v) (h4 : x4 = dNb c t v) : Hrd c J6 t (v + 1) := by
  have o37 : ∀ b, ¬ b = pcn c t v → J6 37 b = J 37 b := fun b hb => by
    rw [e6, up2_o _ _ _ _ _ _ (by omega), e5, up2_o _ _ _ _ _ _ (by omega), e4, up2_o _ _ _ _ _ _ (by omega), e3, up2_o _ _ _ _ _ _ (by omega), e2, up2_o _ _ _ _ _ _ (by omega), e1, up2_o _ _ _ _ _ _ (by omega)]
  have oth : ∀ a b, 38 ≤ a → a ≤ 41 → ¬ b = v → J6 a b = J a b := fun a b x y z => by
    rw [e6, up2_o _ _ _ _ _ _ (by omega), e5, up2_o _ _ _ _ _ _ (by omega), e4, up2_o _ _ _ _ _ _ (by omega), e3, up2_o _ _ _ _ _ _ (by omega), e2, up2_o _ _ _ _ _ _ (by omega), e1, up2_o _ _ _ _ _ _ (by omega)]
  refine ⟨?_, fun u hu hdu => ?_⟩
  · rw [pcn_y hd, e6, up2_o _ _ _ _ _ _ (by omega), e5, up2_o _ _ _ _ _ _ (by omega), e4, up2_o _ _ _ _ _ _ (by omega), e3, up2_o _ _ _ _ _ _ (by omega), e2, up2_ss]
    omega
  · by_cases e : u = v
    · subst e
      refine ⟨?_, ?_, ?_, ?_, ?_⟩
      · rw [e6, up2_o _ _ _ _ _ _ (by omega), e5, up2_o _ _ _ _ _ _ (by omega), e4, up2_o _ _ _ _ _ _ (by omega), e3, up2_o _ _ _ _ _ _ (by omega), e2, up2_o _ _ _ _ _ _ (by omega), e1, up2_ss]
      · rw [e6, up2_o _ _ _ _ _ _ (by omega), e5, up2_o _ _ _ _ _ _ (by omega), e4, up2_o _ _ _ _ _ _ (by omega), e3, up2_ss]; exact h1
      · rw [e6, up2_o _ _ _ _ _ _ (by omega), e5, up2_o _ _ _ _ _ _ (by omega), e4, up2_ss]; exact h2
      · rw [e6, up2_o _ _ _ _ _ _ (by omega), e5, up2_ss]; exact h3
      · rw [e6, up2_ss]; exact h4
    · have hne : ¬ pcn c t u = pcn c t v := fun z => e (pcn_inj hdu hd z)
      rw [o37 _ hne, oth 38 u (by omega) (by omega) e, oth 39 u (by omega) (by omega) e, oth 40 u (by omega) (by omega) e, oth 41 u (by omega) (by omega) e]
      exact h.2 u (by omega) hdu
theorem kf_len {s : Int} {L : List Ft} (h : KfI J s L) : J 36 9 = (L.length : Int) := h.1
/-- what countFaults answers -/
def cfP (c I : Wo) (s nts r : Int) (J : Wo) : Prop := (∀ a b, (a < 36 ∨ 41 < a) → J a b = I a b) ∧ ((r ≤ s ∧ r = ((FN c I nts (nJ I)).length : Int)) ∨ (s < r ∧ ∃ x, (FN c I nts (nJ I))[s.toNat]? = some x ∧ J 36 11 = x.1 ∧ J 36 12 = x.2.1 ∧ J 36 13 = x.2.2.1 ∧ J 36 14 = x.2.2.2)) ∧ (0 ≤ r ∧ r ≤ 200000)
theorem FN_fr {J : Wo} {nts : Int} (h : ∀ a b, (a = 8 ∨ a = 9) → J a b = I a b) : ∀ m, FN c J nts m = FN c I nts m := by
  intro m
  induction m with
  | zero => rfl
  | succ m ih =>
    simp only [FN]
    rw [ih, h 8 m (by omega), h 9 m (by omega)]
theorem cf_end {m : Nat} {s nts : Int} (hs : 0 ≤ s) (hb : nJ I ≤ 96) (hf : ∀ a b, (a < 36 ∨ 41 < a) → J a b = I a b) (hK : KfI J s (FN c I nts m)) (hm : m ≤ nJ I) (he : m = nJ I ∨ s < J 36 9) : cfP c I s nts (J 36 9) J := by
  have h9 := hK.1
  have hfl := FN_len (c := c) (J := I) (nts := nts) m
  refine ⟨hf, ?_, by omega⟩
  by_cases z : s < J 36 9
  · right
    refine ⟨z, ?_⟩
    have hlt : s.toNat < (FN c I nts m).length := by omega
    have hx := List.getElem?_eq_getElem hlt
    refine ⟨(FN c I nts m)[s.toNat], ?_, hK.2.2 s.toNat (by omega) _ hx⟩
    obtain ⟨t, ht⟩ := FN_pre (c := c) (J := I) (nts := nts) hm
    rw [← ht, List.getElem?_append_left hlt]
    exact hx
  · left
    have e := he.resolve_right z
    rw [← e]
    exact ⟨by omega, h9⟩
theorem cf_idle {s nts : Int} (hs : 0 ≤ s) (hf : ∀ a b, (a < 36 ∨ 41 < a) → J a b = I a b) (hK : KfI J s []) (hi : FN c I nts (nJ I) = []) : cfP c I s nts (J 36 9) J := by
  have h9 := hK.1
  simp at h9
  refine ⟨hf, Or.inl ?_, by omega⟩
  rw [hi]
  simp
  omega
theorem Kf_0 {J1 J2 : Wo} {s : Int} (e1 : J1 = up2 I 36 9 0) (e2 : J2 = up2 J1 36 10 s) : KfI J2 s [] := by
  subst e2; subst e1
  refine ⟨by rw [up2_o _ _ _ _ _ _ (by omega), up2_ss]; rfl, up2_ss _ _ _ _, fun k hk x hx => by simp at hx⟩
end HV

/-- the BOUNDS that the judge asks -/
def BdE (c J : Wo) : Prop := J 5 0 = c 0 1 ∧ J 5 1 = c 0 2 ∧ J 5 2 = c 0 3 ∧ J 5 3 = c 0 4 ∧ J 5 4 = c 0 5
theorem BdE_fr {c I J : Wo} (h : BdE c I) (hf : ∀ b, J 5 b = I 5 b) : BdE c J := by
  unfold BdE at h ⊢
  rw [hf, hf, hf, hf, hf]
  exact h
def fA1 (c : Wo) (rule p o : Int) : Prop := (rule = 1 ∧ (p < c 0 1 ∨ c 0 2 < p)) ∨ (rule = 2 ∧ ziand (zishr (c 0 3) (p % 12)) 1 = 0) ∨ (rule = 128 ∧ o < 1000 ∧ leap ((p - o).natAbs : Int))
section FA
variable {c : Wo} {rule p o : Int}
theorem fA1_1 (h : rule = 1) : fA1 c rule p o ↔ (p < c 0 1 ∨ c 0 2 < p) := by
  unfold fA1; subst h
  constructor
  · rintro (z | z | z)
    · exact z.2
    · exact absurd z.1 (by decide)
    · exact absurd z.1 (by decide)
  · intro z; exact Or.inl ⟨rfl, z⟩
theorem fA1_2 (h : rule = 2) : fA1 c rule p o ↔ ziand (zishr (c 0 3) (p % 12)) 1 = 0 := by
  unfold fA1; subst h
  constructor
  · rintro (z | z | z)
    · exact absurd z.1 (by decide)
    · exact z.2
    · exact absurd z.1 (by decide)
  · intro z; exact Or.inr (Or.inl ⟨rfl, z⟩)
theorem fA1_3 (h : rule = 128) : fA1 c rule p o ↔ (o < 1000 ∧ leap ((p - o).natAbs : Int)) := by
  unfold fA1; subst h
  constructor
  · rintro (z | z | z)
    · exact absurd z.1 (by decide)
    · exact absurd z.1 (by decide)
    · exact z.2
  · intro z; exact Or.inr (Or.inr ⟨rfl, z⟩)
theorem fA_of {s : Int} : fA c rule p s o ↔ s = 1 ∧ ¬ p = 1001 ∧ fA1 c rule p o := Iff.rfl
end FA
section FT
variable {c : Wo} {t rule : Int} {P S O N : Nat → Int} {a b : Nat}
theorem fT_4 (h : rule = 4) : fT c t rule P S O N a b ↔ dcl c t P S O N a b := by
  unfold fT; subst h
  constructor
  · rintro (z | z | z | z)
    · exact z.2
    · exact absurd z.1 (by decide)
    · exact absurd z.1 (by decide)
    · exact absurd z.1 (by decide)
  · intro z; exact Or.inl ⟨rfl, z⟩
theorem fT_16 (h : rule = 16) : fT c t rule P S O N a b ↔ (mvA (P a) (P b) (S a) (S b) (O a) (O b) ∧ gp (P a) (P b) = gp (O a) (O b)) := by
  unfold fT; subst h
  constructor
  · rintro (z | z | z | z)
    · exact absurd z.1 (by decide)
    · exact z.2
    · exact absurd z.1 (by decide)
    · exact absurd z.1 (by decide)
  · intro z; exact Or.inr (Or.inl ⟨rfl, z⟩)
theorem fT_32 (h : rule = 32) : fT c t rule P S O N a b ↔ (mvA (P a) (P b) (S a) (S b) (O a) (O b) ∧ ¬ gp (P a) (P b) = gp (O a) (O b) ∧ upj (P a) (P b) (O a) (O b)) := by
  unfold fT; subst h
  constructor
  · rintro (z | z | z | z)
    · exact absurd z.1 (by decide)
    · exact absurd z.1 (by decide)
    · exact z.2
    · exact absurd z.1 (by decide)
  · intro z; exact Or.inr (Or.inr (Or.inl ⟨rfl, z⟩))
theorem fT_64 (h : rule = 64) : fT c t rule P S O N a b ↔ P a < P b := by
  unfold fT; subst h
  constructor
  · rintro (z | z | z | z)
    · exact absurd z.1 (by decide)
    · exact absurd z.1 (by decide)
    · exact absurd z.1 (by decide)
    · exact z.2
  · intro z; exact Or.inr (Or.inr (Or.inr ⟨rfl, z⟩))
end FT
section KF
variable {I J1 J2 J3 J4 J5 : Wo} {s : Int} {L : List Ft} {t rule : Int} {a b : Nat}
theorem kf_ns (hK : KfI I s L) (hne : ¬ (L.length : Int) = s) (e : J1 = up2 I 36 9 ((L.length : Int) + 1)) : KfI J1 s (L ++ [(t, rule, a, b)]) ∧ ∀ x y, ¬ (x = 36 ∧ 8 < y) → J1 x y = I x y := by
  have o : ∀ x y, ¬ (x = 36 ∧ y = 9) → J1 x y = I x y := fun x y z => by rw [e, up2_o _ _ _ _ _ _ (by omega)]
  refine ⟨Kf_add hK (by rw [e, up2_ss, hK.1]) (o _ _ (by omega)) (fun z => absurd z (by rw [hK.1, hK.2.1]; exact hne)) (fun _ => ⟨o _ _ (by omega), o _ _ (by omega), o _ _ (by omega), o _ _ (by omega)⟩), fun x y z => o x y (by omega)⟩
theorem kf_st (hK : KfI I s L) (he : (L.length : Int) = s) (e1 : J1 = up2 I 36 11 t) (e2 : J2 = up2 J1 36 12 rule) (e3 : J3 = up2 J2 36 13 (a : Int)) (e4 : J4 = up2 J3 36 14 (b : Int)) (e5 : J5 = up2 J4 36 9 ((L.length : Int) + 1)) : KfI J5 s (L ++ [(t, rule, a, b)]) ∧ ∀ x y, ¬ (x = 36 ∧ 8 < y) → J5 x y = I x y := by
  have o : ∀ x y, ¬ (x = 36 ∧ (y = 9 ∨ y = 11 ∨ y = 12 ∨ y = 13 ∨ y = 14)) → J5 x y = I x y := fun x y z => by
    rw [e5, up2_o _ _ _ _ _ _ (by omega), e4, up2_o _ _ _ _ _ _ (by omega), e3, up2_o _ _ _ _ _ _ (by omega), e2, up2_o _ _ _ _ _ _ (by omega), e1, up2_o _ _ _ _ _ _ (by omega)]
  refine ⟨Kf_add hK (by rw [e5, up2_ss, hK.1]) (o _ _ (by omega)) (fun _ => ⟨?_, ?_, ?_, ?_⟩) (fun z => absurd (by rw [hK.1, hK.2.1]; exact he) z), fun x y z => o x y (by omega)⟩
  · rw [e5, up2_o _ _ _ _ _ _ (by omega), e4, up2_o _ _ _ _ _ _ (by omega), e3, up2_o _ _ _ _ _ _ (by omega), e2, up2_o _ _ _ _ _ _ (by omega), e1, up2_ss]
  · rw [e5, up2_o _ _ _ _ _ _ (by omega), e4, up2_o _ _ _ _ _ _ (by omega), e3, up2_o _ _ _ _ _ _ (by omega), e2, up2_ss]
  · rw [e5, up2_o _ _ _ _ _ _ (by omega), e4, up2_o _ _ _ _ _ _ (by omega), e3, up2_ss]
  · rw [e5, up2_o _ _ _ _ _ _ (by omega), e4, up2_ss]
end KF
section CF
variable {c I J : Wo} {t : Int} {v m : Nat} {nts : Int}
theorem plC_b (h : wfN c) (hV : wfV c) (hv : v < 4) : -1 ≤ plC c t v ∧ plC c t v < 24 := by
  have := cpl_b h hV hv t
  have := cn_e h
  unfold plC
  split <;> omega
theorem PlA_fr (h : PlA c I) (hf : ∀ a b, 6 ≤ a → a ≤ 11 → J a b = I a b) : PlA c J := by
  have e : nJ J = nJ I := by unfold nJ; rw [hf 6 5 (by omega) (by omega)]
  intro m hm
  rw [e] at hm
  exact pl_fr (h m hm) (hf 8 m (by omega) (by omega)) (hf 9 m (by omega) (by omega)) (fun u _ => hf 10 _ (by omega) (by omega)) (hf 11 m (by omega) (by omega))
theorem MomA_fr {N : Nat} (h : MomA c I N) (hf : ∀ b, J 8 b = I 8 b) : MomA c J N := by
  unfold MomA at h ⊢
  simp only [hf]
  exact h
theorem FN_y (h : ¬ ziand (I 9 m) nts = 0) : FN c I nts (m + 1) = FN c I nts m ++ frs c (I 8 m) 8 := by
  simp only [FN]
  rw [if_neg h]
theorem FN_z (h : ziand (I 9 m) nts = 0) : FN c I nts (m + 1) = FN c I nts m := by
  simp only [FN]
  rw [if_pos h, List.append_nil]
theorem told_b {j : Nat} (h : j < 7) : 1 ≤ cm_told j ∧ cm_told j ≤ 128 ∧ (cm_told j = 1 ∨ cm_told j = 2 ∨ cm_told j = 128 ∨ cm_told j = 4 ∨ cm_told j = 16 ∨ cm_told j = 32 ∨ cm_told j = 64) := by
  rcases (show j = 0 ∨ j = 1 ∨ j = 2 ∨ j = 3 ∨ j = 4 ∨ j = 5 ∨ j = 6 by omega) with rfl | rfl | rfl | rfl | rfl | rfl | rfl <;> decide
theorem frs_ty {q : Nat} (h : q < 7) (hr : ¬ ziand (c 0 5) (cm_told q) = 0) : frs c t (tji (q + 1)) = frs c t (tji q) ++ fas c t (cm_told q) 4 := by rw [frs_told h, if_neg hr]
theorem frs_tn {q : Nat} (h : q < 7) (hr : ziand (c 0 5) (cm_told q) = 0) : frs c t (tji (q + 1)) = frs c t (tji q) := by rw [frs_told h, if_pos hr, List.append_nil]
end CF

/-! THE CLASS: laid for a configuration -/
def LdA (c J : Wo) : Prop := ScF c J ∧ ScT c J ∧ MomA c J (nJ J) ∧ (0 ≤ J 6 5 ∧ J 6 5 ≤ 96) ∧ PlA c J
theorem LdA_fr {c I J : Wo} (h : LdA c I) (hf : ∀ a b, 6 ≤ a → a < 36 → J a b = I a b) : LdA c J := by
  obtain ⟨h1, h2, h3, h4, h5⟩ := h
  have e : nJ J = nJ I := by unfold nJ; rw [hf 6 5 (by omega) (by omega)]
  refine ⟨ScF_fr (fun a b x y _ => hf a b (by omega) y) h1, ScT_fr (fun a b x y => hf a b (by omega) y) h2, ?_, by rw [hf 6 5 (by omega) (by omega)]; exact h4, PlA_fr h5 (fun a b x y => hf a b x (by omega))⟩
  rw [e]
  exact MomA_fr h3 (fun b => hf 8 b (by omega) (by omega))
theorem FN_FL {c J : Wo} (hw : wfN c) (hS : wfS c) (hV : wfV c) (h : LdA c J) : FN c J (-1) (nJ J) = FL c := by
  obtain ⟨h1, h2, h3, h4, h5⟩ := h
  rw [FN_all h3 (tch_all hw hS hV h3 (PlA_tch h5)) (nJ J) (Nat.le_refl _), FL_mom h3]
theorem cf_0 {c I J : Wo} {nts r : Int} (h : cfP c I 0 nts r J) : (r = 0 ∧ FN c I nts (nJ I) = []) ∨ (0 < r ∧ ¬ FN c I nts (nJ I) = []) := by
  rcases h.2.1 with ⟨h1, h2⟩ | ⟨h1, x, hx, _⟩
  · left
    have h3 : (FN c I nts (nJ I)).length = 0 := by omega
    exact ⟨by omega, List.eq_nil_of_length_eq_zero h3⟩
  · right
    refine ⟨h1, fun e => ?_⟩
    rw [e] at hx
    simp at hx
/-! lines under other configurations -/
def Rn (c d : Wo) (v : Nat) : Prop := d 0 0 = c 0 0 ∧ d 0 6 = c 0 6 ∧ d 2 = c 2 ∧ (∀ j, (d 1 j = -1 ↔ c 1 j = -1)) ∧ d (3 + v) 3 = c (3 + v) 3 ∧ d (3 + v) 4 = c (3 + v) 4
section RN
variable {c d J K : Wo} {v u : Nat}
theorem Rn.e_cn (h : Rn c d v) : cn d = cn c := by unfold cn; rw [h.1]
theorem Rn.e_cnt (h : Rn c d v) (j : Nat) : cnt d v j = cnt c v j := by unfold cnt; rw [h.e_cn, h.2.2.2.2.1]
theorem Rn.e_cbg (h : Rn c d v) : cbg d v = cbg c v := by unfold cbg; rw [h.e_cn, h.2.2.1, h.2.2.2.2.1, h.2.2.2.2.2]
theorem Rn.e_jnd (h : Rn c d v) (p : Nat) : jnd d v p = jnd c v p := by
  unfold jnd
  rw [h.e_cn, h.e_cbg, h.2.1]
  congr 1
  rw [h.e_cnt, h.e_cnt, h.2.2.2.1, h.2.2.2.1]
theorem Rn.lnB (h : Rn c d v) (hB : LnB c J v) : LnB d J v := fun p hp => by
  rw [h.e_cn] at hp
  rw [h.e_cnt, h.e_cbg]
  exact hB p hp
theorem Rn.lnN (h : Rn c d v) (hN : LnN c J v) : LnN d J v := fun p hp => by
  rw [h.e_cn] at hp
  unfold cbef cbeh
  rw [h.e_cn, h.e_jnd, h.e_jnd]
  exact hN p hp
theorem Rn.lnT (h : Rn c d v) (h1 : d 1 = c 1) (h2 : d (3 + v) 2 = c (3 + v) 2) (hT : LnT c J v) : LnT d J v := fun p hp => by
  rw [h.e_cn] at hp
  unfold clp
  rw [h.e_cn, h.e_cnt, h1, h2, h.2.2.2.2.1]
  exact hT p hp
theorem Rl.rn (h : Rl c d) (hv : v < 4) : Rn c d v := ⟨h.1, h.2.1, h.2.2.1, h.2.2.2.2, (h.2.2.2.1 v hv).2.2.1, (h.2.2.2.1 v hv).2.2.2⟩
theorem ScF_rl (h : Rl c d) (hi : ∀ v, v < 4 → d (3 + v) 2 = c (3 + v) 2) (hF : ScF c J) : ScF d J := fun v hv => by
  obtain ⟨h1, h2, h3⟩ := hF v hv
  have rn := h.rn hv
  refine ⟨?_, rn.lnB h2, rn.lnN h3⟩
  obtain ⟨a0, a1, a3, a4⟩ := h.2.2.2.1 v hv
  unfold LnF at h1 ⊢
  rw [h.1, rn.e_cbg, rn.e_cn, h.2.1, a0, a1, a3, hi v hv]
  exact h1
theorem Rl.dsk (h : Rl c d) (w1 : wfN c) (w2 : wfV c) (w3 : wfN d) (w4 : wfV d) (t : Int) : ∀ v, v ≤ 4 → bsm d t v = bsm c t v := by
  intro v
  induction v with
  | zero => intro _; rfl
  | succ v ih =>
    intro hv
    simp only [bsm]
    rw [ih (by omega), h.sk w1 w2 w3 w4 (by omega)]
theorem Rl.pla (h : Rl c d) (w1 : wfN c) (w2 : wfV c) (w3 : wfN d) (w4 : wfV d) (hP : PlA c J) : PlA d J := by
  intro m hm
  obtain ⟨h1, h2, h3⟩ := hP m hm
  refine ⟨fun u hu => ?_, ?_, fun n hn hb u hu hd => ?_⟩
  · rw [h1 u hu]
    unfold plC
    have := h.so w1 w2 w3 w4 hu (J 8 m)
    rw [h.e_cpl hu]
    by_cases e : dPt c (J 8 m) u = 1000
    · rw [if_pos e, if_pos (this.mpr e)]
    · rw [if_neg e, if_neg (fun z => e (this.mp z))]
  · rw [h2, h.dsk w1 w2 w3 w4 _ 4 (Nat.le_refl _)]
  · have hd2 : ¬ dPt c (J 8 m) u = 1000 := fun z => hd ((h.so w1 w2 w3 w4 hu (J 8 m)).mpr z)
    have q := h3 n hn hb u hu hd2
    unfold ndd at q ⊢
    rw [h.e_cpl hu, h.e_cbef hu, h.e_cbeh hu, h.e_cnt hu, h.e_cnt hu, h.e_cnt hu, h.e_fsr, (h.2.2.2.1 u hu).2.2.1]
    exact q
end RN
section SP
variable {c I J K : Wo} {u v : Nat} {dd ii : Int}
theorem scf_rn (hu : 1 ≤ u ∧ u < 4) (hv : v < 4) (h30 : c 3 0 = 1) : Rn c (scf c u dd ii) v := by
  obtain ⟨s0, s1, s2, s3, s4⟩ := scf_u (c := c) (d := dd) (i := ii) hu hv h30
  exact ⟨scf_0 (by omega) hu, scf_0 (by omega) hu, funext (fun b => scf_0 (by omega) hu), fun j => by rw [scf_0 (by omega) hu], s3, s4⟩
theorem scf_rn2 {d2 i2 : Int} (hu : 1 ≤ u ∧ u < 4) (hv : v < 4) (h30 : c 3 0 = 1) : Rn (scf c u dd ii) (scf c u d2 i2) v := by
  obtain ⟨s0, s1, s2, s3, s4⟩ := scf_u (c := c) (d := dd) (i := ii) hu hv h30
  obtain ⟨r0, r1, r2, r3, r4⟩ := scf_u (c := c) (d := d2) (i := i2) hu hv h30
  exact ⟨by rw [scf_0 (by omega) hu, scf_0 (by omega) hu], by rw [scf_0 (by omega) hu, scf_0 (by omega) hu], funext (fun b => by rw [scf_0 (by omega) hu, scf_0 (by omega) hu]), fun j => by rw [scf_0 (by omega) hu, scf_0 (by omega) hu], by rw [s3, r3], by rw [s4, r4]⟩
theorem sp_line (hu : 1 ≤ u ∧ u < 4) (hv : v < 4) (h30 : c 3 0 = 1) (h1 : LnF c J v) (h2 : LnB c J v) (h3 : LnN c J v) {x : Int} (hx : x = if v = 0 ∨ v = u then 1 else 0) (e : K = up2 J (12 + 6 * v) 10 x) : LnF (scf c u (c (3 + u) 1) (c (3 + u) 2)) K v ∧ LnB (scf c u (c (3 + u) 1) (c (3 + u) 2)) K v ∧ LnN (scf c u (c (3 + u) 1) (c (3 + u) 2)) K v := by
  have rn := scf_rn (c := c) (dd := c (3 + u) 1) (ii := c (3 + u) 2) hu hv h30
  obtain ⟨s0, s1, s2, s3, s4⟩ := scf_u (c := c) (d := c (3 + u) 1) (i := c (3 + u) 2) hu hv h30
  have o : ∀ a b, ¬ (a = 12 + 6 * v ∧ b = 10) → K a b = J a b := fun a b z => by rw [e, up2_o _ _ _ _ _ _ (by omega)]
  refine ⟨?_, rn.lnB (LnB_fr (fun b => ⟨o _ b (by omega), o _ b (by omega)⟩) h2), rn.lnN (LnN_fr (fun b => ⟨o _ b (by omega), o _ b (by omega)⟩) h3)⟩
  unfold LnF at h1 ⊢
  rw [rn.1, rn.e_cbg, rn.e_cn, rn.2.1, s0, s1, s2, s3, o _ 5 (by omega), o _ 6 (by omega), o _ 7 (by omega), o _ 8 (by omega), o _ 9 (by omega), o _ 11 (by omega), e, up2_ss]
  refine ⟨h1.1, h1.2.1, h1.2.2.1, ?_, ?_, hx, h1.2.2.2.2.2.2⟩
  · rw [h1.2.2.2.1]
    by_cases z : v = u
    · rw [if_pos z, z]
    · rw [if_neg z]
  · rw [h1.2.2.2.2.1]
    by_cases z : v = u
    · rw [if_pos z, z]
    · rw [if_neg z]
theorem sp_delay {d2 : Int} (hu : 1 ≤ u ∧ u < 4) (h30 : c 3 0 = 1) (hF : ScF (scf c u dd ii) J) (hT : ScT (scf c u dd ii) J) (e : K = up2 J (12 + 6 * u) 8 d2) : ScF (scf c u d2 ii) K ∧ ScT (scf c u d2 ii) K := by
  have o : ∀ a b, ¬ (a = 12 + 6 * u ∧ b = 8) → K a b = J a b := fun a b z => by rw [e, up2_o _ _ _ _ _ _ (by omega)]
  constructor
  · intro v hv
    obtain ⟨h1, h2, h3⟩ := hF v hv
    have rn := scf_rn2 (c := c) (dd := dd) (ii := ii) (d2 := d2) (i2 := ii) hu hv h30
    obtain ⟨s0, s1, s2, s3, s4⟩ := scf_u (c := c) (d := dd) (i := ii) hu hv h30
    obtain ⟨r0, r1, r2, r3, r4⟩ := scf_u (c := c) (d := d2) (i := ii) hu hv h30
    refine ⟨?_, rn.lnB (LnB_fr (fun b => ⟨o _ b (by omega), o _ b (by omega)⟩) h2), rn.lnN (LnN_fr (fun b => ⟨o _ b (by omega), o _ b (by omega)⟩) h3)⟩
    unfold LnF at h1 ⊢
    rw [rn.1, rn.e_cbg, rn.e_cn, rn.2.1, r0, r1, r2, r3, o _ 5 (by omega), o _ 6 (by omega), o _ 7 (by omega), o _ 9 (by omega), o _ 10 (by omega), o _ 11 (by omega)]
    rw [s0, s1, s2, s3] at h1
    refine ⟨h1.1, h1.2.1, h1.2.2.1, ?_, h1.2.2.2.2.1, h1.2.2.2.2.2.1, h1.2.2.2.2.2.2⟩
    by_cases z : v = u
    · rw [if_pos z, z, e, up2_ss]
    · rw [if_neg z, o _ 8 (by omega), h1.2.2.2.1, if_neg z]
  · intro v hv hon
    have rn := scf_rn2 (c := c) (dd := dd) (ii := ii) (d2 := d2) (i2 := ii) hu hv h30
    obtain ⟨s0, s1, s2, s3, s4⟩ := scf_u (c := c) (d := dd) (i := ii) hu hv h30
    obtain ⟨r0, r1, r2, r3, r4⟩ := scf_u (c := c) (d := d2) (i := ii) hu hv h30
    refine rn.lnT (funext (fun b => by rw [scf_0 (by omega) hu, scf_0 (by omega) hu])) (by rw [s2, r2]) (LnT_fr (fun b => o _ b (by omega)) (hT v hv ?_))
    rw [s0, ← r0]
    exact hon
/-- another interval: the line's pitches are tuned anew -/
theorem sp_int {i2 : Int} (hu : 1 ≤ u ∧ u < 4) (h30 : c 3 0 = 1) (hF : ScF (scf c u dd ii) J) (e : K = up2 J (12 + 6 * u) 9 i2) : ScF (scf c u dd i2) K := by
  have o : ∀ a b, ¬ (a = 12 + 6 * u ∧ b = 9) → K a b = J a b := fun a b z => by rw [e, up2_o _ _ _ _ _ _ (by omega)]
  intro v hv
  obtain ⟨h1, h2, h3⟩ := hF v hv
  have rn := scf_rn2 (c := c) (dd := dd) (ii := ii) (d2 := dd) (i2 := i2) hu hv h30
  obtain ⟨s0, s1, s2, s3, s4⟩ := scf_u (c := c) (d := dd) (i := ii) hu hv h30
  obtain ⟨r0, r1, r2, r3, r4⟩ := scf_u (c := c) (d := dd) (i := i2) hu hv h30
  refine ⟨?_, rn.lnB (LnB_fr (fun b => ⟨o _ b (by omega), o _ b (by omega)⟩) h2), rn.lnN (LnN_fr (fun b => ⟨o _ b (by omega), o _ b (by omega)⟩) h3)⟩
  unfold LnF at h1 ⊢
  rw [rn.1, rn.e_cbg, rn.e_cn, rn.2.1, r0, r1, r2, r3, o _ 5 (by omega), o _ 6 (by omega), o _ 7 (by omega), o _ 8 (by omega), o _ 10 (by omega), o _ 11 (by omega)]
  rw [s0, s1, s2, s3] at h1
  refine ⟨h1.1, h1.2.1, h1.2.2.1, h1.2.2.2.1, ?_, h1.2.2.2.2.2.1, h1.2.2.2.2.2.2⟩
  by_cases z : v = u
  · rw [if_pos z, z, e, up2_ss]
  · rw [if_neg z, o _ 9 (by omega), h1.2.2.2.2.1, if_neg z]
theorem sp_tune {i2 : Int} (hu : 1 ≤ u ∧ u < 4) (h30 : c 3 0 = 1) (hT : ScT (scf c u dd ii) J) (hf : ∀ a b, ¬ a = 15 + 6 * u → ¬ a = 12 + 6 * u → K a b = J a b) (hK : LnT (scf c u dd i2) K u) : ScT (scf c u dd i2) K := by
  intro v hv hon
  by_cases z : v = u
  · rw [z]; exact hK
  · have rn := scf_rn2 (c := c) (dd := dd) (ii := ii) (d2 := dd) (i2 := i2) hu hv h30
    obtain ⟨s0, s1, s2, s3, s4⟩ := scf_u (c := c) (d := dd) (i := ii) hu hv h30
    obtain ⟨r0, r1, r2, r3, r4⟩ := scf_u (c := c) (d := dd) (i := i2) hu hv h30
    refine rn.lnT (funext (fun b => by rw [scf_0 (by omega) hu, scf_0 (by omega) hu])) (by rw [s2, r2, if_neg z, if_neg z]) (LnT_fr (fun b => hf _ b (by omega) (by omega)) (hT v hv ?_))
    rw [s0, ← r0]
    exact hon
theorem cmN_f2 (h : ∀ a b, 1 ≤ a → a < 4 → J a b = I a b) (hm : cmN c I) : cmN c J := ⟨by rw [h 1 2 (by omega) (by omega)]; exact hm.1, fun j hj => by rw [h 2 j (by omega) (by omega), h 3 j (by omega) (by omega)]; exact hm.2 j hj⟩
theorem scf_cmN (hu : 1 ≤ u ∧ u < 4) (h : cmN c J) : cmN (scf c u dd ii) J := by
  unfold cmN at h ⊢
  refine ⟨by rw [scf_0 (by omega) hu]; exact h.1, fun j hj => ?_⟩
  rw [scf_0 (by omega) hu] at hj
  rw [scf_0 (by omega) hu, scf_0 (by omega) hu]
  exact h.2 j hj
theorem scf_bd (hu : 1 ≤ u ∧ u < 4) (h : BdE c J) : BdE (scf c u dd ii) J := by
  unfold BdE at h ⊢
  rw [scf_0 (by omega) hu, scf_0 (by omega) hu, scf_0 (by omega) hu, scf_0 (by omega) hu, scf_0 (by omega) hu]
  exact h
theorem swl_cmN {L : List (Int × Int)} (h : cmN (swl c L) J) : cmN c J := by
  unfold cmN at h ⊢
  refine ⟨by have := h.1; rw [swl_o (by omega) (by omega) (by omega)] at this; exact this, fun j hj => ?_⟩
  have := h.2 j (by rw [swl_o (by omega) (by omega) (by omega)]; exact hj)
  rw [swl_o (by omega) (by omega) (by omega), swl_o (by omega) (by omega) (by omega)] at this
  exact this
theorem cmS_bd (h : cmS c J) : BdE c J := ⟨h.1.1, h.1.2.1, h.1.2.2.1, h.1.2.2.2.1, h.1.2.2.2.2⟩
theorem swl_bd {L : List (Int × Int)} (h : cmS (swl c L) J) : BdE c J := by
  have q := cmS_bd h
  unfold BdE at q ⊢
  rw [swl_o (by omega) (by omega) (by omega), swl_o (by omega) (by omega) (by omega), swl_o (by omega) (by omega) (by omega), swl_o (by omega) (by omega) (by omega), swl_o (by omega) (by omega) (by omega)] at q
  exact q
/-- the class holds c, and the shifts L -/
theorem cm_swl {L : List (Int × Int)} (h : cmR c I) (hf : ∀ a b, (a < 6 ∨ 42 < a) → ¬ (a = 0 ∧ b = 8) → ¬ (a = 0 ∧ b = 10) → ¬ a = 43 → J a b = I a b) (hL : shB L) (h10 : J 0 10 = (L.length : Int)) (h43 : ∀ (k : Nat) x, L[k]? = some x → J 43 k = x.1 * 25 + x.2 + 12) : cmR (swl c L) J := by
  obtain ⟨hw, g1, g2, g3, g4⟩ := h
  have e : ∀ a b, ¬ (a = 0 ∧ b = 8) → a < 8 → swl c L a b = c a b := fun a b x y => swl_o x (by omega) (by omega)
  refine ⟨swl_wf hw hL, ⟨?_, fun j hj => ?_⟩, ?_, fun j hj => ?_, ?_, fun k hk => ?_⟩
  · rw [hf 1 2 (by omega) (by omega) (by omega) (by omega), e 0 0 (by omega) (by omega)]; exact g1.1
  · rw [e 0 0 (by omega) (by omega)] at hj
    rw [hf 2 j (by omega) (by omega) (by omega) (by omega), hf 3 j (by omega) (by omega) (by omega) (by omega), e 1 j (by omega) (by omega), e 2 j (by omega) (by omega)]
    exact g1.2 j hj
  · unfold cmS at g2 ⊢
    rw [hf 5 0 (by omega) (by omega) (by omega) (by omega), hf 5 1 (by omega) (by omega) (by omega) (by omega), hf 5 2 (by omega) (by omega) (by omega) (by omega), hf 5 3 (by omega) (by omega) (by omega) (by omega), hf 5 4 (by omega) (by omega) (by omega) (by omega), hf 0 7 (by omega) (by omega) (by omega) (by omega), hf 0 9 (by omega) (by omega) (by omega) (by omega), e 0 1 (by omega) (by omega), e 0 2 (by omega) (by omega), e 0 3 (by omega) (by omega), e 0 4 (by omega) (by omega), e 0 5 (by omega) (by omega), e 0 6 (by omega) (by omega), e 0 7 (by omega) (by omega)]
    exact g2
  · rw [e _ 0 (by omega) (by omega), e _ 1 (by omega) (by omega), e _ 2 (by omega) (by omega), e _ 3 (by omega) (by omega), e _ 4 (by omega) (by omega), hf _ 0 (by omega) (by omega) (by omega) (by omega), hf _ 1 (by omega) (by omega) (by omega) (by omega), hf _ 2 (by omega) (by omega) (by omega) (by omega), hf _ 3 (by omega) (by omega) (by omega) (by omega), hf _ 4 (by omega) (by omega) (by omega) (by omega)]
    exact g3 j hj
  · rw [swl_n]; exact h10
  · rw [swl_n] at hk
    have hk2 : k < L.length := by omega
    have hx := List.getElem?_eq_getElem hk2
    obtain ⟨a1, a2⟩ := swl_8 (c := c) hx
    rw [a1, a2]
    exact h43 k _ hx
/-- the shifts' list in the class's fields -/
def CsI (c I J : Wo) (L : List (Int × Int)) : Prop := (∀ a b, (a < 6 ∨ 42 < a) → ¬ (a = 0 ∧ b = 8) → ¬ (a = 0 ∧ b = 10) → ¬ a = 43 → J a b = I a b) ∧ J 0 10 = (L.length : Int) ∧ ∀ (k : Nat) x, L[k]? = some x → J 43 k = x.1 * 25 + x.2 + 12
theorem cs_fr {L : List (Int × Int)} (h : CsI c I J L) (hf : ∀ a b, (a < 6 ∨ 42 < a) → K a b = J a b) : CsI c I K L := by
  obtain ⟨h1, h2, h3⟩ := h
  exact ⟨fun a b x y z w => (hf a b x).trans (h1 a b x y z w), (hf 0 10 (by omega)).trans h2, fun k x hx => (hf 43 k (by omega)).trans (h3 k x hx)⟩
theorem cs_add {L : List (Int × Int)} {k : Nat} {K1 : Wo} {d i : Int} (h : CsI c I J L) (hk : k = L.length) (e1 : K1 = up2 J 43 k (d * 25 + i + 12)) (e2 : K = up2 K1 0 10 ((k : Int) + 1)) : CsI c I K (L ++ [(d, i)]) := by
  obtain ⟨h1, h2, h3⟩ := h
  refine ⟨fun a b x y z w => ?_, ?_, fun q x hx => ?_⟩
  · rw [e2, up2_o _ _ _ _ _ _ (by omega), e1, up2_o _ _ _ _ _ _ (by omega)]; exact h1 a b x y z w
  · rw [e2, up2_ss]; simp; omega
  · rw [e2, up2_o _ _ _ _ _ _ (by omega), e1]
    by_cases z : q = k
    · subst z
      rw [hk] at hx
      have hxe : x = (d, i) := by simpa using hx.symm
      rw [hxe, up2_ss]
    · have hlt : q < L.length := by
        obtain ⟨p, _⟩ := List.getElem?_eq_some_iff.mp hx
        simp at p
        omega
      rw [List.getElem?_append_left hlt] at hx
      rw [up2_o _ _ _ _ _ _ (Or.inr z)]
      exact h3 q x hx
end SP

/-- what the class's search keeps of the score -/
def SpI (c : Wo) (O : List Nat) (J : Wo) : Prop := OpI J 42 O ∧ J 0 8 = (O.length : Int) ∧ ScF c J ∧ MomA c J (nJ J) ∧ (0 ≤ J 6 5 ∧ J 6 5 ≤ 96) ∧ PlA c J
section SS
variable {c I J K : Wo} {O : List Nat}
theorem ss_fr (h : SpI c O J) (hf : ∀ a b, (a = 42 ∨ (a = 0 ∧ b = 8) ∨ (6 ≤ a ∧ a < 36 ∧ ¬ (a = 15 ∨ a = 21 ∨ a = 27 ∨ a = 33))) → K a b = J a b) : SpI c O K := by
  obtain ⟨h1, h2, h3, h4, h5, h6⟩ := h
  have e : nJ K = nJ J := by unfold nJ; rw [hf 6 5 (by omega)]
  refine ⟨OpI_fr h1 (fun b => hf 42 b (by omega)), by rw [hf 0 8 (by omega)]; exact h2, ScF_fr (fun a b x y z => hf a b (by omega)) h3, ?_, by rw [hf 6 5 (by omega)]; exact h5, PlA_fr h6 (fun a b x y => hf a b (by omega))⟩
  rw [e]
  exact MomA_fr h4 (fun b => hf 8 b (by omega))
theorem opf_07 {x : Int} : ∀ k, opf (up2 c 0 7 x) k = opf c k := by
  intro k
  induction k with
  | zero => rfl
  | succ k ih =>
    simp only [opf]
    rw [ih, up2_o _ _ _ _ _ _ (by omega)]
theorem opl_07 {x : Int} : opl (up2 c 0 7 x) = opl c := by
  unfold opl
  rw [opf_07, show cn (up2 c 0 7 x) = cn c by unfold cn; rw [up2_o _ _ _ _ _ _ (by omega)]]
theorem ck_0 (h : ∀ m, m ∈ O → c 1 m = -2) (hF : FL c = []) : CkI O 0 c := by
  intro k hk
  rw [show k = 0 by omega, List.drop_zero, rop_same h]
  exact hF
theorem ck_bq {i : Int} {n : Nat} (h : CkI O i c) (h0 : 0 ≤ i) (hn : O[i.toNat]? = some n) : CkI O (i + (-1)) (up2 c 1 n (-2)) := ck_bk h h0 hn
theorem sri_all {c0 : Wo} {most i : Int} (h : SrI c0 O most i c) (hi : i < 0) : ∀ m, m ∈ O → c 1 m = -2 := fun m hm => by
  obtain ⟨k, hk⟩ := List.getElem?_of_mem hm
  exact h.2.2.1 k m hk (by omega)
end SS
