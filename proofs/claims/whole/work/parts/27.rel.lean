/-! TWO CONFIGURATIONS with the same times: the pitches and intervals may differ, rests are rests in both -/
def Rl (c d : Wo) : Prop := d 0 0 = c 0 0 ∧ d 0 6 = c 0 6 ∧ d 2 = c 2 ∧ (∀ v, v < 4 → d (3 + v) 0 = c (3 + v) 0 ∧ d (3 + v) 1 = c (3 + v) 1 ∧ d (3 + v) 3 = c (3 + v) 3 ∧ d (3 + v) 4 = c (3 + v) 4) ∧ ∀ j, (d 1 j = -1 ↔ c 1 j = -1)
section RL
variable {c d : Wo} {v : Nat}
theorem Rl.rf (c : Wo) : Rl c c := ⟨rfl, rfl, rfl, fun _ _ => ⟨rfl, rfl, rfl, rfl⟩, fun _ => Iff.rfl⟩
theorem Rl.sy (h : Rl c d) : Rl d c := ⟨h.1.symm, h.2.1.symm, h.2.2.1.symm, fun v hv => ⟨(h.2.2.2.1 v hv).1.symm, (h.2.2.2.1 v hv).2.1.symm, (h.2.2.2.1 v hv).2.2.1.symm, (h.2.2.2.1 v hv).2.2.2.symm⟩, fun j => (h.2.2.2.2 j).symm⟩
theorem Rl.tr {e : Wo} (h : Rl c d) (g : Rl d e) : Rl c e := by
  refine ⟨g.1.trans h.1, g.2.1.trans h.2.1, g.2.2.1.trans h.2.2.1, fun v hv => ?_, fun j => (g.2.2.2.2 j).trans (h.2.2.2.2 j)⟩
  obtain ⟨a1, a2, a3, a4⟩ := h.2.2.2.1 v hv
  obtain ⟨b1, b2, b3, b4⟩ := g.2.2.2.1 v hv
  exact ⟨b1.trans a1, b2.trans a2, b3.trans a3, b4.trans a4⟩
theorem Rl.e_cn (h : Rl c d) : cn d = cn c := by unfold cn; rw [h.1]
theorem Rl.e_cnt (h : Rl c d) (hv : v < 4) (j : Nat) : cnt d v j = cnt c v j := by unfold cnt; rw [h.e_cn, (h.2.2.2.1 v hv).2.2.1]
theorem Rl.e_cbg (h : Rl c d) (hv : v < 4) : cbg d v = cbg c v := by unfold cbg; rw [h.e_cn, h.2.2.1, (h.2.2.2.1 v hv).2.2.1, (h.2.2.2.1 v hv).2.2.2]
theorem Rl.e_csn (h : Rl c d) (hv : v < 4) (t : Int) : csn d v t = csn c v t := by unfold csn; rw [h.2.1, (h.2.2.2.1 v hv).2.1]
theorem Rl.e_cpl (h : Rl c d) (hv : v < 4) (t : Int) : cpl d v t = cpl c v t := by unfold cpl; rw [h.e_cbg hv, h.e_cn, h.e_csn hv]
theorem Rl.e_ctm (h : Rl c d) (hv : v < 4) (p : Nat) : ctm d v p = ctm c v p := by unfold ctm; rw [h.e_cbg hv, h.2.1, (h.2.2.2.1 v hv).2.1]
theorem Rl.e_jnd (h : Rl c d) (hv : v < 4) (p : Nat) : jnd d v p = jnd c v p := by
  unfold jnd
  rw [h.e_cn, h.e_cbg hv, h.2.1]
  congr 1
  rw [h.e_cnt hv, h.e_cnt hv, h.2.2.2.2, h.2.2.2.2]
theorem Rl.e_cbef (h : Rl c d) (hv : v < 4) (p : Nat) : cbef d v p = cbef c v p := by unfold cbef; rw [h.e_cn, h.e_jnd hv]
theorem Rl.e_cbeh (h : Rl c d) (hv : v < 4) (p : Nat) : cbeh d v p = cbeh c v p := by unfold cbeh; rw [h.e_cn, h.e_jnd hv]
theorem Rl.e_fso (h : Rl c d) : ∀ n, fso (d 1) n = fso (c 1) n := by
  intro n
  induction n with
  | zero => rfl
  | succ n ih =>
    simp only [fso]
    rw [ih]
    by_cases e : c 1 n = -1
    · rw [if_pos e, if_pos ((h.2.2.2.2 n).mpr e)]
    · rw [if_neg e, if_neg (fun z => e ((h.2.2.2.2 n).mp z))]
theorem Rl.e_fsr (h : Rl c d) : fsr d = fsr c := by unfold fsr; rw [h.e_cn, h.e_fso]
theorem Rl.size (h : Rl c d) : an_size d = an_size c := by unfold an_size; rw [h.1, h.2.2.1]
theorem Rl.e_eo (h : Rl c d) : ∀ m, m ≤ 4 → eo d m = eo c m := by
  intro m
  induction m with
  | zero => intro _; rfl
  | succ m ih =>
    intro hm
    simp only [eo]
    obtain ⟨a1, a2, a3, a4⟩ := h.2.2.2.1 m (by omega)
    rw [ih (by omega), a1, a2, a4, h.size]
theorem Rl.ends (h : Rl c d) : an_end d = an_end c := by unfold an_end; rw [h.2.1, h.e_eo 4 (Nat.le_refl _)]
theorem Rl.ntl (h : Rl c d) (hn : NTL c) : NTL d := by
  intro v hv
  have := hn v hv
  obtain ⟨a1, a2, a3, a4⟩ := h.2.2.2.1 v hv
  unfold tl at this ⊢
  rw [a1, a4, h.2.1, h.size]
  exact this
end RL
section RM
variable {c d : Wo} {v : Nat}
theorem clp_rest (h : wfN c) (hV : wfV c) (hv : v < 4) {p : Nat} (hp : p < cn c) : clp c v p = 1000 ↔ c 1 (cnt c v p) = -1 := by
  have hcn := cn_e h
  have h1 := (h.2 (cnt c v p) (by have := cnt_lt (c := c) (v := v) hp; omega)).1
  have h2 := (hV.1 v hv).2.2.1
  have hz : -2 ≤ cz c ∧ cz c ≤ 127 := by
    rcases fsr_cases c with q | q
    · omega
    · have := (h.2 (fsr c).toNat (by omega)).1; omega
  by_cases a : c 1 (cnt c v p) = -1
  · rw [clp_r a]; simp [a]
  · simp only [a, iff_false]
    by_cases b : c 1 (cnt c v p) = -2 ∨ (¬ ziand (c (3 + v) 3) 1 = 0 ∧ cz c = -2)
    · rw [clp_o hp a b]; omega
    · by_cases e : ziand (c (3 + v) 3) 1 = 0
      · rw [clp_n a (by omega) e]; omega
      · rw [clp_i hp a (by omega) e (by omega)]; omega
theorem Rl.rest (R : Rl c d) (h : wfN c) (hV : wfV c) (h' : wfN d) (hV' : wfV d) (hv : v < 4) {p : Nat} (hp : p < cn c) : clp d v p = 1000 ↔ clp c v p = 1000 := by
  rw [clp_rest h hV hv hp, clp_rest h' hV' hv (by rw [R.e_cn]; exact hp), R.e_cnt hv, R.2.2.2.2]
theorem Rl.e_csk (R : Rl c d) (h : wfN c) (hV : wfV c) (h' : wfN d) (hV' : wfV d) (hv : v < 4) (t : Int) : csk d v t = csk c v t := by
  unfold csk
  rw [R.e_cpl hv]
  by_cases e : cpl c v t = -1
  · rw [if_pos e, if_pos e]
  · rw [if_neg e, if_neg e, R.e_csn hv, R.e_cbg hv]
    have h1 := (cpl_b h hV hv t).resolve_left e
    have h2 := R.rest h hV h' hV' hv (p := (cpl c v t).toNat) (by omega)
    simp only [h2]
theorem Rl.so (R : Rl c d) (h : wfN c) (hV : wfV c) (h' : wfN d) (hV' : wfV d) (hv : v < 4) (t : Int) : dPt d t v = 1000 ↔ dPt c t v = 1000 := by
  unfold dPt
  rw [(R.2.2.2.1 v hv).1]
  by_cases hon : c (3 + v) 0 = 1
  · rw [if_pos hon, if_pos hon, cpl_pt, cpl_pt, R.e_cpl hv]
    by_cases e : cpl c v t = -1
    · simp [e]
    · have h1 := (cpl_b h hV hv t).resolve_left e
      have h2 := R.rest h hV h' hV' hv (p := (cpl c v t).toNat) (by omega)
      rw [h2]
  · rw [if_neg hon, if_neg hon]
theorem Rl.sk (R : Rl c d) (h : wfN c) (hV : wfV c) (h' : wfN d) (hV' : wfV d) (hv : v < 4) (t : Int) : dSk d t v = dSk c t v := by
  unfold dSk
  rw [(R.2.2.2.1 v hv).1, R.e_csk h hV h' hV' hv]
theorem Rl.e_hsk (R : Rl c d) (h : wfN c) (hV : wfV c) (h' : wfN d) (hV' : wfV d) (hv : v < 4) (t : Int) : hsk d v t ↔ hsk c v t := by
  unfold hsk
  rw [(R.2.2.2.1 v hv).1, R.e_csk h hV h' hV' hv]
theorem Rl.mom (R : Rl c d) (h : wfN c) (hV : wfV c) (h' : wfN d) (hV' : wfV d) {J : Wo} {N : Nat} (hM : MomA c J N) : MomA d J N := by
  obtain ⟨h1, h2, h3⟩ := hM
  refine ⟨fun m hm => ⟨by rw [R.ends]; exact (h1 m hm).1, ?_⟩, h2, fun t x y z => ?_⟩
  · obtain ⟨v, hv, hs⟩ := (h1 m hm).2
    exact ⟨v, hv, (R.e_hsk h hV h' hV' hv _).mpr hs⟩
  · obtain ⟨v, hv, hs⟩ := z
    exact h3 t x (by rw [← R.ends]; exact y) ⟨v, hv, (R.e_hsk h hV h' hV' hv _).mp hs⟩
/-- the neighbours' pitches, as the class has them -/
theorem ob_bef (h : wfN c) (hS : wfS c) (hV : wfV c) (hv : v < 4) {p : Nat} (hp : p < cn c) (hr : ¬ clp c v p = 1000) : cbs c v p (-1) = if cbef c v p = -1 then 1000 else clp c v (cbef c v p).toNat := by
  have hcn := cn_e h
  have hq := pv_lt hp
  have hr2 : ¬ c 1 (cnt c v p) = -1 := fun z => hr ((clp_rest h hV hv hp).mpr z)
  have hrd := hS.2.2.2.2.1
  have hpos := cbg_b h hV hv (Nat.le_refl (cn c))
  by_cases hadj : pvp (cn c) p + 1 < cn c ∨ cbg c v (cn c) = c 0 6
  · have e1 : cbs c v p (-1) = clp c v (pvp (cn c) p) := by
      unfold cbs
      by_cases e0 : p = 0
      · subst e0
        rw [if_neg (by omega)]
        have e2 : pvp (cn c) 0 = cn c - 1 := by unfold pvp; rw [if_pos rfl]
        rw [e2] at hadj ⊢
        rw [cbg_all] at hadj hpos
        rw [if_neg (by omega), if_pos (by omega)]
      · have e2 : pvp (cn c) p = p - 1 := by unfold pvp; rw [if_neg e0]
        rw [e2, if_pos (by omega)]
        congr 1
        omega
    rw [e1]
    by_cases hb : c 1 (cnt c v (pvp (cn c) p)) = -1
    · have hj : jnd c v (pvp (cn c) p) = false := jnd_f (fun z => z.2.1 hb)
      unfold cbef
      rw [hj]
      simp only [Bool.false_eq_true, if_false, if_true]
      exact clp_r hb
    · have hj : jnd c v (pvp (cn c) p) = true := jnd_t hadj hb (by rw [nx_pv hp]; exact hr2)
      unfold cbef
      rw [hj, if_pos rfl, if_neg (by omega), Int.toNat_natCast]
  · have hj : jnd c v (pvp (cn c) p) = false := jnd_f (fun z => hadj z.1)
    unfold cbef
    rw [hj]
    simp only [Bool.false_eq_true, if_false, if_true]
    have e0 : p = 0 := by
      by_cases z : p = 0
      · exact z
      · exfalso
        apply hadj
        left
        unfold pvp
        rw [if_neg z]
        omega
    subst e0
    unfold cbs
    rw [if_neg (by omega)]
    rw [cbg_all] at hadj
    rw [if_pos (by omega)]
theorem nb_beh (h : wfN c) (hS : wfS c) (hV : wfV c) (hv : v < 4) {p : Nat} (hp : p < cn c) (hr : ¬ clp c v p = 1000) : cbs c v p 1 = if cbeh c v p = -1 then 1000 else clp c v (cbeh c v p).toNat := by
  have hcn := cn_e h
  have hq := nx_lt hp
  have hr2 : ¬ c 1 (cnt c v p) = -1 := fun z => hr ((clp_rest h hV hv hp).mpr z)
  have hrd := hS.2.2.2.2.1
  have hpos := cbg_b h hV hv (Nat.le_refl (cn c))
  by_cases hadj : p + 1 < cn c ∨ cbg c v (cn c) = c 0 6
  · have e1 : cbs c v p 1 = clp c v (nxp (cn c) p) := by
      unfold cbs
      by_cases e0 : p + 1 < cn c
      · have e2 : nxp (cn c) p = p + 1 := by unfold nxp; rw [if_pos e0]
        rw [e2, if_pos (by omega)]
        congr 1
      · have e2 : nxp (cn c) p = 0 := by unfold nxp; rw [if_neg e0]
        rw [cbg_all] at hadj hpos
        rw [e2, if_neg (by omega), if_neg (by omega), if_neg (by omega)]
    rw [e1]
    by_cases hb : c 1 (cnt c v (nxp (cn c) p)) = -1
    · have hj : jnd c v p = false := jnd_f (fun z => z.2.2 hb)
      unfold cbeh
      rw [hj]
      simp only [Bool.false_eq_true, if_false, if_true]
      exact clp_r hb
    · have hj : jnd c v p = true := jnd_t hadj hr2 hb
      unfold cbeh
      rw [hj, if_pos rfl, if_neg (by omega), Int.toNat_natCast]
  · have hj : jnd c v p = false := jnd_f (fun z => hadj z.1)
    unfold cbeh
    rw [hj]
    simp only [Bool.false_eq_true, if_false, if_true]
    unfold cbs
    rw [if_neg (by omega)]
    rw [cbg_all] at hadj
    rw [if_pos (by omega)]
theorem cbef_b {p : Nat} (hp : p < cn c) : cbef c v p = -1 ∨ (0 ≤ cbef c v p ∧ cbef c v p < cn c) := by
  unfold cbef
  have := pv_lt hp
  split <;> omega
theorem cbeh_b {p : Nat} (hp : p < cn c) : cbeh c v p = -1 ∨ (0 ≤ cbeh c v p ∧ cbeh c v p < cn c) := by
  unfold cbeh
  have := nx_lt hp
  split <;> omega
/-- note n's pitch may be needed at place p of VOICE v -/
def ndd (c : Wo) (v p n : Nat) : Prop := n = cnt c v p ∨ (¬ cbef c v p = -1 ∧ n = cnt c v (cbef c v p).toNat) ∨ (¬ cbeh c v p = -1 ∧ n = cnt c v (cbeh c v p).toNat) ∨ (¬ ziand (c (3 + v) 3) 1 = 0 ∧ ¬ fsr c = -1 ∧ (n : Int) = fsr c)
theorem clp_same (R : Rl c d) (hv : v < 4) {n p : Nat} (hp : p < cn c) (hiv : d (3 + v) 2 = c (3 + v) 2) (h1 : ∀ j, ¬ j = n → d 1 j = c 1 j) (hn : ¬ n = cnt c v p) (hc : ¬ ziand (c (3 + v) 3) 1 = 0 → ¬ (n : Int) = fsr c) : clp d v p = clp c v p := by
  have e1 : d 1 (cnt c v p) = c 1 (cnt c v p) := h1 _ (fun z => hn z.symm)
  obtain ⟨a1, a2, a3, a4⟩ := R.2.2.2.1 v hv
  unfold clp lpi
  rw [R.e_cnt hv, R.e_cn, e1, a3, hiv, R.e_fso]
  by_cases hr : c 1 (cnt c v p) = -1
  · rw [if_pos hr, if_pos hr]
  · rw [if_neg hr, if_neg hr]
    by_cases hm : ziand (c (3 + v) 3) 1 = 0
    · rw [if_pos hm, if_pos hm]
    · rw [if_neg hm, if_neg hm]
      have hlt : fso (c 1) (cn c) < cn c := by
        obtain ⟨x, y, _⟩ := fso_spec (c 1) (cn c)
        rcases Nat.lt_or_ge (fso (c 1) (cn c)) (cn c) with q | q
        · exact q
        · exact absurd (y (cnt c v p) (by have := cnt_lt (c := c) (v := v) hp; omega)) hr
      have e2 : fsr c = fso (c 1) (cn c) := by unfold fsr; rw [if_pos hlt]
      have e3 : d 1 (fso (c 1) (cn c)) = c 1 (fso (c 1) (cn c)) := h1 _ (fun z => hc hm (by rw [e2]; omega))
      rw [e3]
end RM
section IN
variable {c d : Wo}
theorem fA_cg {rule p s o o' : Int} (h1 : d 0 1 = c 0 1) (h2 : d 0 2 = c 0 2) (h3 : d 0 3 = c 0 3) (ho : s = 1 → o' = o) : fA d rule p s o' ↔ fA c rule p s o := by
  unfold fA
  rw [h1, h2, h3]
  constructor
  · rintro ⟨x, y⟩; rw [ho x] at y; exact ⟨x, y⟩
  · rintro ⟨x, y⟩; rw [ho x]; exact ⟨x, y⟩
theorem gai_cg {p s o n o' n' : Int} (h : s = 1 → o' = o ∧ n' = n) : gai p s o' n' = gai p s o n := by
  unfold gai
  by_cases e : s = 1
  · rw [(h e).1, (h e).2]
  · rw [if_neg e, if_neg e]
theorem fP_cg {t rule : Int} {P S O N P' S' O' N' : Nat → Int} {a b : Nat} (ha : a < 4) (hb : b < 4) (h4 : d 0 4 = c 0 4) (h5 : d 0 5 = c 0 5) (hP : ∀ v, v < 4 → P' v = P v) (hS : ∀ v, v < 4 → S' v = S v) (hO : ∀ v, v < 4 → S v = 1 → O' v = O v ∧ N' v = N v) : fP d t rule P' S' O' N' a b ↔ fP c t rule P S O N a b := by
  have hf : fgd P' a b ↔ fgd P a b := by
    unfold fgd
    rw [hP a ha, hP b hb]
    constructor
    · rintro ⟨v, hv, x⟩; rw [hP v hv] at x; exact ⟨v, hv, x⟩
    · rintro ⟨v, hv, x⟩; rw [← hP v hv] at x; exact ⟨v, hv, x⟩
  have hm : ∀ X : Prop, (S a = 1 → S b = 1 → (mvA (P a) (P b) (S a) (S b) (O' a) (O' b) ∧ X)) → True := fun _ _ => trivial
  unfold fP fT dcl
  rw [h4, h5, hf, hP a ha, hP b hb, hS a ha, hS b hb, gai_cg (hO a ha), gai_cg (hO b hb)]
  by_cases hs : S a = 1 ∧ S b = 1
  · rw [(hO a ha hs.1).1, (hO b hb hs.2).1]
  · have m1 : ∀ x y : Int, ¬ mvA (P a) (P b) (S a) (S b) x y := fun x y z => hs ⟨z.2.1, z.2.2.1⟩
    simp only [m1, false_and, and_false]
theorem frs_ind {t : Int} (R : Rl c d) (h : wfN c) (hS : wfS c) (hV : wfV c) (h' : wfN d) (hS' : wfS d) (hV' : wfV d) (hn : NTL c) (h0 : 0 ≤ t ∧ t < an_end c) (hb : d 0 1 = c 0 1 ∧ d 0 2 = c 0 2 ∧ d 0 3 = c 0 3 ∧ d 0 4 = c 0 4 ∧ d 0 5 = c 0 5)
    (hP : ∀ v, v < 4 → dPt d t v = dPt c t v) (hO : ∀ v, v < 4 → dSk c t v = 1 → dOb d t v = dOb c t v ∧ dNb d t v = dNb c t v) : ∀ m, frs d t m = frs c t m := by
  have hn' := R.ntl hn
  have h0' : 0 ≤ t ∧ t < an_end d := by rw [R.ends]; exact h0
  have hsk := fun v (hv : v < 4) => R.sk h hV h' hV' hv t
  refine frs_cg hb.2.2.2.2.symm (fun rule a ha => ?_) (fun rule a b ha hbb => ?_)
  · rw [brA_d, brA_d, hP a ha, hsk a ha]
    exact fA_cg hb.1 hb.2.1 hb.2.2.1 (fun z => (hO a ha z).1)
  · rw [brP_d h' hS' hV' hn' ha hbb h0', brP_d h hS hV hn ha hbb h0]
    exact fP_cg ha hbb hb.2.2.2.1 hb.2.2.2.2 hP hsk hO
/-- at a time that does not need note n's pitch, the faults are the same whatever it is -/
theorem frs_note {t : Int} {n : Nat} (R : Rl c d) (h : wfN c) (hS : wfS c) (hV : wfV c) (h' : wfN d) (hS' : wfS d) (hV' : wfV d) (hn : NTL c) (h0 : 0 ≤ t ∧ t < an_end c) (hb : d 0 1 = c 0 1 ∧ d 0 2 = c 0 2 ∧ d 0 3 = c 0 3 ∧ d 0 4 = c 0 4 ∧ d 0 5 = c 0 5)
    (hiv : ∀ v, v < 4 → d (3 + v) 2 = c (3 + v) 2) (h1 : ∀ j, ¬ j = n → d 1 j = c 1 j) (hnd : ∀ v, v < 4 → ¬ dPt c t v = 1000 → ¬ ndd c v (cpl c v t).toNat n) : ∀ m, frs d t m = frs c t m := by
  have hso : ∀ v, v < 4 → ¬ dPt c t v = 1000 → c (3 + v) 0 = 1 ∧ ¬ cpl c v t = -1 ∧ ¬ clp c v (cpl c v t).toNat = 1000 := by
    intro v hv hz
    unfold dPt at hz
    by_cases hon : c (3 + v) 0 = 1
    · rw [if_pos hon, cpl_pt] at hz
      exact ⟨hon, fun z => hz (Or.inl z), fun z => hz (Or.inr z)⟩
    · rw [if_neg hon] at hz; omega
  have hcl : ∀ v, v < 4 → ¬ dPt c t v = 1000 → clp d v (cpl c v t).toNat = clp c v (cpl c v t).toNat := by
    intro v hv hz
    obtain ⟨_, e, _⟩ := hso v hv hz
    have e2 := (cpl_b h hV hv t).resolve_left e
    have q := hnd v hv hz
    exact clp_same R hv (by omega) (hiv v hv) h1 (fun z => q (Or.inl z)) (fun z1 z2 => q (Or.inr (Or.inr (Or.inr ⟨z1, by omega, z2⟩))))
  refine frs_ind R h hS hV h' hS' hV' hn h0 hb (fun v hv => ?_) (fun v hv hs => ?_)
  · by_cases hz : dPt c t v = 1000
    · rw [hz]; exact (R.so h hV h' hV' hv t).mpr hz
    · obtain ⟨e1, e2, e3⟩ := hso v hv hz
      unfold dPt cpt
      rw [(R.2.2.2.1 v hv).1, if_pos e1, if_pos e1, R.e_cpl hv, if_neg e2, if_neg e2]
      exact hcl v hv hz
  · have hz : ¬ dPt c t v = 1000 := by
      unfold dSk at hs
      by_cases hon : c (3 + v) 0 = 1
      · rw [if_pos hon] at hs
        unfold dPt
        rw [if_pos hon]
        exact (csk_pl hs).2
      · rw [if_neg hon] at hs; omega
    obtain ⟨e1, e2, e3⟩ := hso v hv hz
    have e4 := (cpl_b h hV hv t).resolve_left e2
    have q := hnd v hv hz
    have hp : (cpl c v t).toNat < cn c := by omega
    have hpd : (cpl c v t).toNat < cn d := by rw [R.e_cn]; exact hp
    have e5 : ¬ clp d v (cpl c v t).toNat = 1000 := by rw [hcl v hv hz]; exact e3
    have e6 : ((cpl c v t).toNat : Int) = cpl c v t := by omega
    have c1 := ob_bef h hS hV hv hp e3
    have c2 := nb_beh h hS hV hv hp e3
    have d1 := ob_bef h' hS' hV' hv hpd e5
    have d2 := nb_beh h' hS' hV' hv hpd e5
    rw [e6] at c1 c2 d1 d2
    have b1 := cbef_b (v := v) hp
    have b2 := cbeh_b (v := v) hp
    have q4 : ¬ ziand (c (3 + v) 3) 1 = 0 → ¬ (n : Int) = fsr c := fun z1 z2 => q (Or.inr (Or.inr (Or.inr ⟨z1, by omega, z2⟩)))
    unfold dOb dNb ob nb
    rw [R.e_cpl hv, c1, c2, d1, d2, R.e_cbef hv, R.e_cbeh hv]
    constructor
    · by_cases z : cbef c v (cpl c v t).toNat = -1
      · rw [if_pos z, if_pos z]
      · rw [if_neg z, if_neg z]
        exact clp_same R hv (by omega) (hiv v hv) h1 (fun y => q (Or.inr (Or.inl ⟨z, y⟩))) q4
    · by_cases z : cbeh c v (cpl c v t).toNat = -1
      · rw [if_pos z, if_pos z]
      · rw [if_neg z, if_neg z]
        exact clp_same R hv (by omega) (hiv v hv) h1 (fun y => q (Or.inr (Or.inr (Or.inl ⟨z, y⟩)))) q4
/-- what the rest of the table says does not matter -/
theorem FL_eq (h : wfN c) (hS : wfS c) (hV : wfV c) (hn : NTL c) (h' : wfN d) (hS' : wfS d) (hV' : wfV d) (R : Rl c d) (hb : d 0 1 = c 0 1 ∧ d 0 2 = c 0 2 ∧ d 0 3 = c 0 3 ∧ d 0 4 = c 0 4 ∧ d 0 5 = c 0 5) (hiv : ∀ v, v < 4 → d (3 + v) 2 = c (3 + v) 2) (h1 : d 1 = c 1) : FL d = FL c := by
  unfold FL
  rw [R.ends]
  have key : ∀ e : Nat, (e : Int) ≤ an_end c → fts d e = fts c e := by
    intro e
    induction e with
    | zero => intro _; rfl
    | succ e ih =>
      intro he
      simp only [fts]
      rw [ih (by omega)]
      have hb2 := cn_e h
      rw [frs_note (n := 1000) R h hS hV h' hS' hV' hn (t := (e : Int)) ⟨by omega, by omega⟩ hb hiv (fun j _ => by rw [h1]) (fun v hv hz => ?_) 8]
      intro z
      have e2 : ¬ cpl c v e = -1 := by
        intro y
        apply hz
        unfold dPt
        by_cases hon : c (3 + v) 0 = 1
        · rw [if_pos hon, cpl_pt]; exact Or.inl y
        · rw [if_neg hon]
      have e4 := (cpl_b h hV hv (e : Int)).resolve_left e2
      have b1 := cbef_b (c := c) (v := v) (p := (cpl c v e).toNat) (by omega)
      have b2 := cbeh_b (c := c) (v := v) (p := (cpl c v e).toNat) (by omega)
      rcases z with z | z | z | z
      · have := cnt_lt (c := c) (v := v) (j := (cpl c v e).toNat) (by omega); omega
      · have := cnt_lt (c := c) (v := v) (j := (cbef c v (cpl c v e).toNat).toNat) (by omega); omega
      · have := cnt_lt (c := c) (v := v) (j := (cbeh c v (cpl c v e).toNat).toNat) (by omega); omega
      · rcases fsr_cases c with q | q <;> omega
  have hh : (((an_end c).toNat : Nat) : Int) ≤ an_end c := by
    have := an_end_b h hS hV
    omega
  exact key _ hh
end IN
