/-! A MOMENT'S DATA: what the faults at a time need of the VOICES -/
def NTL (c : Wo) : Prop := ∀ v, v < 4 → ¬ tl c v
section TM
variable {c : Wo} {v : Nat}
theorem ctm_mlx (c : Wo) (v p : Nat) : ctm c v p = mlx c v (cbg c v p) := rfl
theorem ntl_b (hS : wfS c) (hon : c (3 + v) 0 = 1) (ht : ¬ tl c v) (hr : 0 < c 0 6) : cbg c v (cn c) ≤ c 0 6 := by
  rw [cbg_all]
  unfold tl at ht
  omega
theorem ctm_f (h : wfN c) (hS : wfS c) (hV : wfV c) (hv : v < 4) (hon : c (3 + v) 0 = 1) (ht : ¬ tl c v) {p : Nat} (hp : p < cn c) : (0 ≤ ctm c v p ∧ ctm c v p < an_end c) ∧ csn c v (ctm c v p) = cbg c v p ∧ cpl c v (ctm c v p) = p := by
  have h0 := cbg_b h hV hv (Nat.le_of_lt hp)
  have h1 := cbg_lt h hV hv hp (Nat.le_refl _)
  have h2 := mlx_b h hS hV hv hon (o := cbg c v p) (by omega) h1
  have h3 := csn_mlx (v := v) hS (o := cbg c v p) (by omega)
  have h4 : csn c v (ctm c v p) = cbg c v p := by
    rw [ctm_mlx, h3]
    by_cases hr : 0 < c 0 6
    · have := ntl_b hS hon ht hr
      rw [if_pos hr, Int.emod_eq_of_lt (by omega) (by omega)]
    · rw [if_neg hr]
  refine ⟨h2, h4, ?_⟩
  unfold cpl
  rw [h4]
  exact plc_eq h hV hv hp (Int.le_refl _) (by have := cbg_step h hV hv hp; omega)
theorem cpl_pt {t : Int} : cpt c v t = 1000 ↔ cpl c v t = -1 ∨ clp c v (cpl c v t).toNat = 1000 := by
  unfold cpt
  by_cases e : cpl c v t = -1
  · rw [if_pos e]; simp [e]
  · rw [if_neg e]; simp [e]
theorem ctm_iff (h : wfN c) (hS : wfS c) (hV : wfV c) (hv : v < 4) (hon : c (3 + v) 0 = 1) (ht : ¬ tl c v) {t : Int} (h0 : 0 ≤ t ∧ t < an_end c) {p : Nat} (hp : p < cn c) : ctm c v p = t ↔ cpl c v t = p ∧ csn c v t = cbg c v p := by
  obtain ⟨h1, h2, h3⟩ := ctm_f h hS hV hv hon ht hp
  constructor
  · rintro rfl
    exact ⟨h3, h2⟩
  · rintro ⟨_, h5⟩
    exact csn_inj (v := v) h1 h0 (by rw [h2, h5])
theorem csk_iff {t : Int} : csk c v t = 1 ↔ ¬ cpl c v t = -1 ∧ csn c v t = cbg c v (cpl c v t).toNat ∧ ¬ clp c v (cpl c v t).toNat = 1000 := by
  unfold csk
  by_cases e : cpl c v t = -1
  · rw [if_pos e]; simp [e]
  · rw [if_neg e]
    by_cases e2 : csn c v t = cbg c v (cpl c v t).toNat ∧ ¬ clp c v (cpl c v t).toNat = 1000
    · rw [if_pos e2]; simp [e, e2]
    · rw [if_neg e2]; simp [e, e2]
theorem csk_tm (h : wfN c) (hS : wfS c) (hV : wfV c) (hv : v < 4) (hon : c (3 + v) 0 = 1) (ht : ¬ tl c v) {t : Int} (h0 : 0 ≤ t ∧ t < an_end c) : csk c v t = 1 ↔ ∃ p, p < cn c ∧ ctm c v p = t ∧ ¬ clp c v p = 1000 := by
  rw [csk_iff]
  constructor
  · rintro ⟨h1, h2, h3⟩
    have h4 := (cpl_b h hV hv t).resolve_left h1
    exact ⟨(cpl c v t).toNat, by omega, (ctm_iff h hS hV hv hon ht h0 (by omega)).mpr ⟨by omega, h2⟩, h3⟩
  · rintro ⟨p, hp, h1, h2⟩
    obtain ⟨h3, h4⟩ := (ctm_iff h hS hV hv hon ht h0 hp).mp h1
    rw [h3, Int.toNat_natCast]
    exact ⟨by omega, h4, h2⟩
/-- what a STRUCK VOICE had at the time before is its neighbour in the LINE -/
theorem old_ob (h : wfN c) (hS : wfS c) (hV : wfV c) (hv : v < 4) (hon : c (3 + v) 0 = 1) (ht : ¬ tl c v) {t : Int} (h0 : 0 ≤ t ∧ t < an_end c) (hs : csk c v t = 1) (hb : 0 ≤ btm c t) : cpt c v (btm c t) = ob c v t := by
  obtain ⟨h1, h2, h3⟩ := csk_iff.mp hs
  have h4 := (cpl_b h hV hv t).resolve_left h1
  have hcn := cn_e h
  obtain ⟨p, hp⟩ : ∃ p : Nat, cpl c v t = p := ⟨(cpl c v t).toNat, by omega⟩
  unfold ob
  rw [hp] at h2 h4 ⊢
  rw [Int.toNat_natCast] at h2
  have hend : an_end c = if 0 < c 0 6 then c 0 6 else eo c 4 := rfl
  have hsn : csn c v (btm c t) = if p = 0 then (if 0 < c 0 6 then c 0 6 - 1 else -1) else cbg c v p - 1 := by
    have hb0 := cbg_b h hV hv (j := p) (by omega)
    unfold btm csn
    unfold csn at h2
    by_cases hr : 0 < c 0 6
    · rw [if_pos hr] at h2 ⊢
      rw [if_pos hr] at hend
      have e : ((if 0 < t then t - 1 else if 0 < c 0 6 then c 0 6 - 1 else -1) - c (3 + v) 1) % c 0 6 = (cbg c v p - 1) % c 0 6 := by
        rw [← h2]
        by_cases ht0 : 0 < t
        · rw [if_pos ht0, Int.emod_sub_emod] 
          congr 1
          omega
        · rw [if_neg ht0, if_pos hr, Int.emod_sub_emod, show c 0 6 - 1 - c (3 + v) 1 = (t - c (3 + v) 1 - 1) + c 0 6 by omega, Int.add_emod_right]
      rw [e]
      by_cases hp0 : p = 0
      · rw [if_pos hp0, if_pos hr, hp0, cbg_0, show (0 : Int) - 1 = (c 0 6 - 1) + c 0 6 * (-1) by omega, Int.add_mul_emod_self_left, Int.emod_eq_of_lt (by omega) (by omega)]
      · rw [if_neg hp0]
        have h5 := ntl_b hS hon ht hr
        have h6 := cbg_lt h hV hv (show p < cn c by omega) (Nat.le_refl _)
        exact Int.emod_eq_of_lt (by omega) (by omega)
    · rw [if_neg hr] at h2
      have hd := (hV.1 v hv).2.1
      by_cases ht0 : 0 < t
      · rw [if_pos ht0, if_neg hr]
        by_cases hp0 : p = 0
        · rw [if_pos hp0, if_neg hr]
          rw [hp0, cbg_0] at h2
          omega
        · rw [if_neg hp0]
          omega
      · unfold btm at hb
        rw [if_neg ht0, if_neg hr] at hb
        omega
  by_cases hp0 : p = 0
  · rw [if_pos hp0] at hsn
    unfold cbs
    rw [if_neg (by omega)]
    by_cases hr : 0 < c 0 6
    · rw [if_pos hr] at hsn
      by_cases hz : an_size c * c (3 + v) 4 = c 0 6
      · rw [if_neg (by omega), if_pos (by omega)]
        have h7 : cpl c v (btm c t) = ((cn c - 1 : Nat) : Int) := by
          unfold cpl
          have h8 := cbg_lt h hV hv (show cn c - 1 < cn c by omega) (Nat.le_refl _)
          rw [cbg_all] at h8
          refine plc_eq h hV hv (by omega) (by omega) ?_
          rw [show cn c - 1 + 1 = cn c by omega, cbg_all]
          omega
        unfold cpt
        rw [h7, if_neg (by omega), Int.toNat_natCast]
      · rw [if_pos (Or.inr hz)]
        have h5 := ntl_b hS hon ht hr
        rw [cpl_pt]
        left
        unfold cpl plc
        rw [cbg_all] at h5 ⊢
        rw [if_pos (by omega)]
    · rw [if_neg hr] at hsn
      have := hS.2.2.2.2.1
      rw [if_pos (by omega)]
      rw [cpl_pt]
      left
      unfold cpl plc
      rw [if_pos (by omega)]
  · rw [if_neg hp0] at hsn
    have h7 : cpl c v (btm c t) = ((p - 1 : Nat) : Int) := by
      unfold cpl
      have h8 := cbg_lt h hV hv (show p - 1 < p by omega) (show p ≤ cn c by omega)
      refine plc_eq h hV hv (by omega) (by omega) ?_
      rw [show p - 1 + 1 = p by omega]
      omega
    unfold cpt cbs
    rw [h7, if_neg (by omega), Int.toNat_natCast, if_pos (by omega), show ((p : Int) + -1).toNat = p - 1 by omega]
theorem old_no (h : wfN c) (hS : wfS c) (hV : wfV c) (hv : v < 4) {t : Int} (h0 : 0 ≤ t) (hs : csk c v t = 1) (hb : btm c t < 0) : ob c v t = 1000 := by
  obtain ⟨h1, h2, h3⟩ := csk_iff.mp hs
  have h4 := (cpl_b h hV hv t).resolve_left h1
  have hr := hS.2.2.2.2.1
  have hd := (hV.1 v hv).2.1
  have h5 : ¬ 0 < t ∧ ¬ 0 < c 0 6 := by
    unfold btm at hb
    by_cases a : 0 < t
    · rw [if_pos a] at hb; omega
    · rw [if_neg a] at hb
      by_cases b : 0 < c 0 6
      · rw [if_pos b] at hb; omega
      · exact ⟨a, b⟩
  have h6 : csn c v t = t - c (3 + v) 1 := by unfold csn; rw [if_neg h5.2]
  have h7 : cpl c v t = 0 := by
    by_cases e : cpl c v t = 0
    · exact e
    · have h8 := cbg_b h hV hv (j := (cpl c v t).toNat) (by omega)
      omega
  unfold ob cbs
  rw [h7, if_neg (by omega), if_pos (by omega)]
end TM

/-! the faults at a time, by the VOICES' data: pitch (1000: silent), struck, the neighbours' pitches -/
def dPt (c : Wo) (t : Int) (v : Nat) : Int := if c (3 + v) 0 = 1 then cpt c v t else 1000
def dSk (c : Wo) (t : Int) (v : Nat) : Int := if c (3 + v) 0 = 1 then csk c v t else 0
def dOb (c : Wo) (t : Int) (v : Nat) : Int := ob c v t
def dNb (c : Wo) (t : Int) (v : Nat) : Int := nb c v t
def fA (c : Wo) (rule p s o : Int) : Prop := s = 1 ∧ ¬ p = 1001 ∧ ((rule = 1 ∧ (p < c 0 1 ∨ c 0 2 < p)) ∨ (rule = 2 ∧ ziand (zishr (c 0 3) (p % 12)) 1 = 0) ∨ (rule = 128 ∧ o < 1000 ∧ leap ((p - o).natAbs : Int)))
abbrev stw (p o n : Int) : Prop := (1 ≤ p - o ∧ p - o ≤ 2 ∧ 1 ≤ n - p ∧ n - p ≤ 2) ∨ (p - o ≤ -1 ∧ -2 ≤ p - o ∧ n - p ≤ -1 ∧ -2 ≤ n - p)
def gai (p s o n : Int) : Int := if s = 1 then (if o = 1000 ∨ n = 1000 then 0 else if o = 1001 ∨ n = 1001 then 1 else if stw p o n then 2 else 3) else 2
def exc (ga gb : Int) : Prop := ¬ ga = 0 ∧ ¬ gb = 0 ∧ (ga = 1 ∨ gb = 1 ∨ (ga = 2 ∧ gb = 2))
def fgd (P : Nat → Int) (a b : Nat) : Prop := ∃ v, v < 4 ∧ ¬ P v = 1000 ∧ (P v = 1001 ∨ (P v < P a ∧ P v < P b))
def dcl (c : Wo) (t : Int) (P S O N : Nat → Int) (a b : Nat) : Prop := ¬ cons (gp (P a) (P b)) ∧ ¬ (gp (P a) (P b) = 5 ∧ fgd P a b) ∧ (ziand (c 0 5) 8 = 0 ∨ t % c 0 4 = 0 ∨ ¬ exc (gai (P a) (S a) (O a) (N a)) (gai (P b) (S b) (O b) (N b)))
def mvA (pa pb sa sb oa ob : Int) : Prop := (gp pa pb = 0 ∨ gp pa pb = 7) ∧ sa = 1 ∧ sb = 1 ∧ oa < 1000 ∧ ob < 1000 ∧ ((oa < pa ∧ ob < pb) ∨ (pa < oa ∧ pb < ob))
def upj (pa pb oa ob : Int) : Prop := (pb ≤ pa ∧ 2 < ((pa - oa).natAbs : Int)) ∨ (pa < pb ∧ 2 < ((pb - ob).natAbs : Int))
def fT (c : Wo) (t rule : Int) (P S O N : Nat → Int) (a b : Nat) : Prop := (rule = 4 ∧ dcl c t P S O N a b) ∨ (rule = 16 ∧ mvA (P a) (P b) (S a) (S b) (O a) (O b) ∧ gp (P a) (P b) = gp (O a) (O b)) ∨ (rule = 32 ∧ mvA (P a) (P b) (S a) (S b) (O a) (O b) ∧ ¬ gp (P a) (P b) = gp (O a) (O b) ∧ upj (P a) (P b) (O a) (O b)) ∨ (rule = 64 ∧ P a < P b)
def fP (c : Wo) (t rule : Int) (P S O N : Nat → Int) (a b : Nat) : Prop := ¬ P a = 1000 ∧ ¬ P b = 1000 ∧ ¬ P a = 1001 ∧ ¬ P b = 1001 ∧ (S a = 1 ∨ S b = 1) ∧ fT c t rule P S O N a b
section DQ
variable {c : Wo} {t rule : Int} {a b v : Nat}
theorem brA_d : brA c rule v t ↔ fA c rule (dPt c t v) (dSk c t v) (dOb c t v) := by
  unfold brA fA hsk dPt dSk dOb
  by_cases e : c (3 + v) 0 = 1
  · rw [if_pos e, if_pos e]; simp only [e, true_and]
  · rw [if_neg e, if_neg e]; simp [e]
theorem gai_b (p s o n : Int) : 0 ≤ gai p s o n ∧ gai p s o n ≤ 3 := by
  unfold gai
  split
  · split
    · omega
    · split
      · omega
      · split <;> omega
  · omega
theorem ind_g (hon : c (3 + v) 0 = 1) : (lakI c v t = 1 ↔ gai (dPt c t v) (dSk c t v) (dOb c t v) (dNb c t v) = 0) ∧ (lakI c v t = 0 → (opnI c v t = 1 ↔ gai (dPt c t v) (dSk c t v) (dOb c t v) (dNb c t v) = 1)) ∧ (lakI c v t = 0 → (nstI c v t = 1 ↔ gai (dPt c t v) (dSk c t v) (dOb c t v) (dNb c t v) = 3)) := by
  unfold dPt dSk dOb dNb
  rw [if_pos hon, if_pos hon]
  by_cases hs : csk c v t = 1
  · obtain ⟨h1, h2, h3⟩ := ind_yes (c := c) (v := v) (t := t) ⟨hon, hs⟩
    rw [h1, h2, h3]
    unfold gai
    rw [if_pos hs]
    by_cases e1 : ob c v t = 1000 ∨ nb c v t = 1000
    · rw [if_pos e1, if_pos e1]
      simp
    · rw [if_neg e1, if_neg e1]
      unfold gst
      rw [if_neg e1]
      by_cases e2 : ob c v t = 1001 ∨ nb c v t = 1001
      · rw [if_pos e2, if_pos e2]; simp
      · rw [if_neg e2, if_neg e2]
        by_cases e3 : stw (cpt c v t) (ob c v t) (nb c v t)
        · rw [if_pos e3]
          unfold stw at e3
          rw [if_pos e3]
          simp
        · rw [if_neg e3]
          unfold stw at e3
          rw [if_neg e3]
          simp
  · obtain ⟨h1, h2, h3⟩ := ind_no (c := c) (v := v) (t := t) (fun z => hs z.2)
    rw [h1, h2, h3]
    unfold gai
    rw [if_neg hs]
    simp
theorem fgd_d (hna : ¬ dPt c t a = 1001) (hnb : ¬ dPt c t b = 1001) (hona : c (3 + a) 0 = 1) (honb : c (3 + b) 0 = 1) : fgd (dPt c t) a b ↔ fop c t ∨ flo c a b t := by
  unfold fgd fop flo hso
  have ea : dPt c t a = cpt c a t := if_pos hona
  have eb : dPt c t b = cpt c b t := if_pos honb
  rw [ea, eb]
  constructor
  · rintro ⟨v, hv, h1, h2⟩
    by_cases e : c (3 + v) 0 = 1
    · have ev : dPt c t v = cpt c v t := if_pos e
      rw [ev] at h1 h2
      rcases h2 with h2 | h2
      · exact Or.inl ⟨v, hv, ⟨e, h1⟩, h2⟩
      · exact Or.inr ⟨v, hv, ⟨e, h1⟩, (by rintro rfl; omega), (by rintro rfl; omega), h2⟩
    · exact absurd (if_neg e) h1
  · rintro (⟨v, hv, h1, h2⟩ | ⟨v, hv, h1, _, _, h2⟩)
    · have ev : dPt c t v = cpt c v t := if_pos h1.1
      exact ⟨v, hv, by rw [ev]; exact h1.2, Or.inl (by rw [ev]; exact h2)⟩
    · have ev : dPt c t v = cpt c v t := if_pos h1.1
      exact ⟨v, hv, by rw [ev]; exact h1.2, Or.inr (by rw [ev]; exact h2)⟩
theorem dis_d (hona : c (3 + a) 0 = 1) (honb : c (3 + b) 0 = 1) (hna : ¬ dPt c t a = 1001) (hnb : ¬ dPt c t b = 1001) : dis c a b t ↔ dcl c t (dPt c t) (dSk c t) (dOb c t) (dNb c t) a b := by
  have ea : dPt c t a = cpt c a t := if_pos hona
  have eb : dPt c t b = cpt c b t := if_pos honb
  unfold dis dcl
  rw [fgd_d hna hnb hona honb, ea, eb]
  obtain ⟨a1, a2, a3⟩ := ind_g (t := t) hona
  obtain ⟨b1, b2, b3⟩ := ind_g (t := t) honb
  rw [ea] at a1 a2 a3
  rw [eb] at b1 b2 b3
  have la := lakI_b c a t
  have lb := lakI_b c b t
  have oa := opnI_b c a t
  have obb := opnI_b c b t
  have na := nstI_b c a t
  have nbb := nstI_b c b t
  have ga := gai_b (cpt c a t) (dSk c t a) (dOb c t a) (dNb c t a)
  have gb := gai_b (cpt c b t) (dSk c t b) (dOb c t b) (dNb c t b)
  generalize gai (cpt c a t) (dSk c t a) (dOb c t a) (dNb c t a) = ga0 at *
  generalize gai (cpt c b t) (dSk c t b) (dOb c t b) (dNb c t b) = gb0 at *
  generalize lakI c a t = la0 at *
  generalize lakI c b t = lb0 at *
  generalize opnI c a t = oa0 at *
  generalize opnI c b t = ob0 at *
  generalize nstI c a t = na0 at *
  generalize nstI c b t = nb0 at *
  have key : (max la0 lb0 = 1 ∨ (max oa0 ob0 = 0 ∧ max na0 nb0 = 1)) ↔ ¬ exc ga0 gb0 := by
    unfold exc
    rcases (show la0 = 0 ∨ la0 = 1 by omega) with rfl | rfl
    · rcases (show lb0 = 0 ∨ lb0 = 1 by omega) with rfl | rfl
      · have a2 := a2 rfl
        have a3 := a3 rfl
        have b2 := b2 rfl
        have b3 := b3 rfl
        omega
      · omega
    · omega
  rw [key]
  constructor
  · rintro ⟨h1, h2, h3⟩
    exact ⟨h1, fun z => z.2.elim (h2 z.1).1 (h2 z.1).2, h3⟩
  · rintro ⟨h1, h2, h3⟩
    exact ⟨h1, fun z => ⟨fun y => h2 ⟨z, Or.inl y⟩, fun y => h2 ⟨z, Or.inr y⟩⟩, h3⟩
theorem nA (x : Int) : 2 < (x.natAbs : Int) ↔ 2 < x ∨ x < -2 := by omega
theorem brP_d (h : wfN c) (hS : wfS c) (hV : wfV c) (hn : NTL c) (ha : a < 4) (hb : b < 4) (h0 : 0 ≤ t ∧ t < an_end c) : brP c rule a b t ↔ fP c t rule (dPt c t) (dSk c t) (dOb c t) (dNb c t) a b := by
  unfold brP fP
  by_cases hona : c (3 + a) 0 = 1
  · by_cases honb : c (3 + b) 0 = 1
    · have ea : dPt c t a = cpt c a t := if_pos hona
      have eb : dPt c t b = cpt c b t := if_pos honb
      have sa : dSk c t a = csk c a t := if_pos hona
      have sb : dSk c t b = csk c b t := if_pos honb
      rw [ea, eb, sa, sb]
      simp only [hona, honb, true_and]
      by_cases hp : ¬ cpt c a t = 1000 ∧ ¬ cpt c b t = 1000 ∧ ¬ cpt c a t = 1001 ∧ ¬ cpt c b t = 1001
      · have hd := dis_d (t := t) hona honb (by rw [ea]; exact hp.2.2.1) (by rw [eb]; exact hp.2.2.2)
        unfold brQ fT
        rw [ea, eb, sa, sb]
        have hdI : disI c a b t = 1 ↔ dcl c t (dPt c t) (dSk c t) (dOb c t) (dNb c t) a b := by
          rw [← hd]
          by_cases z : dis c a b t
          · rw [disI_y z]; simp [z]
          · rw [disI_n z]; simp [z]
        have hov : ∀ v, v < 4 → c (3 + v) 0 = 1 → csk c v t = 1 → (0 ≤ btm c t ∧ cpt c v (btm c t) = dOb c t v) ∨ (btm c t < 0 ∧ dOb c t v = 1000) := by
          intro v hv hon hs
          by_cases hbt : 0 ≤ btm c t
          · exact Or.inl ⟨hbt, old_ob h hS hV hv hon (hn v hv) h0 hs hbt⟩
          · exact Or.inr ⟨by omega, old_no h hS hV hv h0.1 hs (by omega)⟩
        have hob : ∀ v, v < 4 → csk c v t = 1 → -200 ≤ dOb c t v ∧ dOb c t v ≤ 1001 := by
          intro v hv hs
          have := cpl_b h hV hv t
          have h5 := csk_pl hs
          exact cbs_b h hV hv (by omega) _ _
        have hpar : ∀ r : Int, (csk c a t = 1 ∧ csk c b t = 1 ∧ 0 ≤ btm c t ∧ ¬ cpt c a (btm c t) = 1000 ∧ ¬ cpt c b (btm c t) = 1000 ∧ ¬ cpt c a (btm c t) = 1001 ∧ ¬ cpt c b (btm c t) = 1001 ∧ ((cpt c a (btm c t) < cpt c a t ∧ cpt c b (btm c t) < cpt c b t) ∨ (cpt c a t < cpt c a (btm c t) ∧ cpt c b t < cpt c b (btm c t))) ∧ (gp (cpt c a t) (cpt c b t) = 0 ∨ gp (cpt c a t) (cpt c b t) = 7) ∧ ((r = 16 ∧ gp (cpt c a t) (cpt c b t) = gp (cpt c a (btm c t)) (cpt c b (btm c t))) ∨ (r = 32 ∧ ¬ gp (cpt c a t) (cpt c b t) = gp (cpt c a (btm c t)) (cpt c b (btm c t)) ∧ ((cpt c b t ≤ cpt c a t ∧ (2 < cpt c a t - cpt c a (btm c t) ∨ cpt c a t - cpt c a (btm c t) < -2)) ∨ (cpt c a t < cpt c b t ∧ (2 < cpt c b t - cpt c b (btm c t) ∨ cpt c b t - cpt c b (btm c t) < -2)))))) ↔ (mvA (cpt c a t) (cpt c b t) (csk c a t) (csk c b t) (dOb c t a) (dOb c t b) ∧ ((r = 16 ∧ gp (cpt c a t) (cpt c b t) = gp (dOb c t a) (dOb c t b)) ∨ (r = 32 ∧ ¬ gp (cpt c a t) (cpt c b t) = gp (dOb c t a) (dOb c t b) ∧ upj (cpt c a t) (cpt c b t) (dOb c t a) (dOb c t b)))) := by
          intro r
          by_cases hs : csk c a t = 1 ∧ csk c b t = 1
          · have q1 := hov a ha hona hs.1
            have q2 := hov b hb honb hs.2
            have q3 := hob a ha hs.1
            have q4 := hob b hb hs.2
            unfold mvA upj
            simp only [nA, hs.1, hs.2, true_and]
            rcases q1 with ⟨q0, q1⟩ | ⟨q0, q1⟩
            · rcases q2 with ⟨_, q2⟩ | ⟨q5, q2⟩
              · rw [q1, q2]
                simp only [q0, true_and]
                have e1 : (¬ dOb c t a = 1000 ∧ ¬ dOb c t a = 1001) ↔ dOb c t a < 1000 := by omega
                have e2 : (¬ dOb c t b = 1000 ∧ ¬ dOb c t b = 1001) ↔ dOb c t b < 1000 := by omega
                constructor
                · rintro ⟨z1, z2, z3, z4, z5, z6, z7⟩
                  exact ⟨⟨z6, e1.mp ⟨z1, z3⟩, e2.mp ⟨z2, z4⟩, z5⟩, z7⟩
                · rintro ⟨⟨z6, z1, z2, z5⟩, z7⟩
                  exact ⟨(e1.mpr z1).1, (e2.mpr z2).1, (e1.mpr z1).2, (e2.mpr z2).2, z5, z6, z7⟩
              · omega
            · constructor
              · rintro ⟨z1, _⟩
                omega
              · rintro ⟨⟨z6, z1, z2, z5⟩, z7⟩
                omega
          · constructor
            · rintro ⟨z1, z2, _⟩
              exact absurd ⟨z1, z2⟩ hs
            · rintro ⟨⟨_, z1, z2, _⟩, _⟩
              exact absurd ⟨z1, z2⟩ hs
        constructor
        · rintro ⟨_, _, _, _, z⟩
          rcases z with ⟨z1, z2, z3⟩ | ⟨z1, z2, z3⟩ | ⟨z1, z2⟩
          · exact ⟨hp.1, hp.2.1, hp.2.2.1, hp.2.2.2, z2, Or.inl ⟨z1, hdI.mp z3⟩⟩
          · exact ⟨hp.1, hp.2.1, hp.2.2.1, hp.2.2.2, z2, Or.inr (Or.inr (Or.inr ⟨z1, z3⟩))⟩
          · have z3 := (hpar rule).mp z2
            refine ⟨hp.1, hp.2.1, hp.2.2.1, hp.2.2.2, Or.inl z2.1, ?_⟩
            rcases z3.2 with ⟨y1, y2⟩ | ⟨y1, y2, y3⟩
            · exact Or.inr (Or.inl ⟨y1, z3.1, y2⟩)
            · exact Or.inr (Or.inr (Or.inl ⟨y1, z3.1, y2, y3⟩))
        · rintro ⟨_, _, _, _, z2, z⟩
          refine ⟨hp.1, hp.2.1, hp.2.2.1, hp.2.2.2, ?_⟩
          rcases z with ⟨z1, z3⟩ | ⟨z1, z3, z4⟩ | ⟨z1, z3, z4⟩ | ⟨z1, z3⟩
          · exact Or.inl ⟨z1, z2, hdI.mpr z3⟩
          · exact Or.inr (Or.inr ⟨Or.inl z1, (hpar rule).mpr ⟨z3, Or.inl ⟨z1, z4⟩⟩⟩)
          · exact Or.inr (Or.inr ⟨Or.inr z1, (hpar rule).mpr ⟨z3, Or.inr ⟨z1, z4⟩⟩⟩)
          · exact Or.inr (Or.inl ⟨z1, z2, z3⟩)
      · constructor
        · intro z
          exact absurd ⟨z.1, z.2.1, z.2.2.1, z.2.2.2.1⟩ hp
        · intro z
          exact absurd ⟨z.1, z.2.1, z.2.2.1, z.2.2.2.1⟩ hp
    · have eb : dPt c t b = 1000 := if_neg honb
      simp [honb, eb]
  · have ea : dPt c t a = 1000 := if_neg hona
    simp [hona, ea]
end DQ
