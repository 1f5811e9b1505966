/-! THE CONFIGURATION that both sides hold: c 0 = [notes, LOW, HIGH, SCALE, BEAT, RULES, ROUND, STEPS, number of shifts], c 1 pitches, c 2 lengths,
c (3 + v) = voice v: [on, delay, interval, mode, factor], c 8, c 9 = the shifts' delays, intervals. -/
theorem q44 {v a : Nat} (h : a < 44) : ¬ (44 + v = a) := by omega
theorem q3 {v a : Nat} (h : a < 3) : ¬ (3 + v = a) := by omega
def wfN (c : Wo) : Prop := (0 ≤ c 0 0 ∧ c 0 0 ≤ 24) ∧ ∀ j : Nat, (j : Int) < c 0 0 → (-2 ≤ c 1 j ∧ c 1 j ≤ 127) ∧ (1 ≤ c 2 j ∧ c 2 j ≤ 16)
def wfS (c : Wo) : Prop := (0 ≤ c 0 1 ∧ c 0 1 ≤ c 0 2 ∧ c 0 2 ≤ 127) ∧ (0 ≤ c 0 3 ∧ c 0 3 ≤ 4095) ∧ (1 ≤ c 0 4 ∧ c 0 4 ≤ 64) ∧ (0 ≤ c 0 5 ∧ c 0 5 ≤ 255) ∧ (0 ≤ c 0 6 ∧ c 0 6 ≤ 400) ∧ (0 ≤ c 0 7 ∧ c 0 7 ≤ 3000)
def wfV (c : Wo) : Prop := (∀ v : Nat, v < 4 → (c (3 + v) 0 = 0 ∨ c (3 + v) 0 = 1) ∧ (0 ≤ c (3 + v) 1 ∧ c (3 + v) 1 ≤ 100) ∧ (-24 ≤ c (3 + v) 2 ∧ c (3 + v) 2 ≤ 24) ∧ (0 ≤ c (3 + v) 3 ∧ c (3 + v) 3 ≤ 3) ∧ (1 ≤ c (3 + v) 4 ∧ c (3 + v) 4 ≤ 3)) ∧ (c 3 0 = 1 ∧ c 3 1 = 0 ∧ c 3 2 = 0 ∧ c 3 3 = 0 ∧ c 3 4 = 1)
def wfF (c : Wo) : Prop := (0 ≤ c 0 8 ∧ c 0 8 ≤ 2525) ∧ ∀ k : Nat, (k : Int) < c 0 8 → (0 ≤ c 8 k ∧ c 8 k ≤ 100) ∧ (-12 ≤ c 9 k ∧ c 9 k ≤ 12)
def wfC (c : Wo) : Prop := wfN c ∧ wfS c ∧ wfV c ∧ wfF c
/-- the class's table holds the configuration -/
def cmN (c I : Wo) : Prop := I 1 2 = c 0 0 ∧ ∀ j : Nat, (j : Int) < c 0 0 → I 2 j = c 1 j ∧ I 3 j = c 2 j
def cmS (c I : Wo) : Prop := (I 5 0 = c 0 1 ∧ I 5 1 = c 0 2 ∧ I 5 2 = c 0 3 ∧ I 5 3 = c 0 4 ∧ I 5 4 = c 0 5) ∧ I 0 7 = c 0 6 ∧ I 0 9 = c 0 7
def cmV (c I : Wo) : Prop := ∀ v : Nat, v < 4 → I (44 + v) 0 = c (3 + v) 0 ∧ I (44 + v) 1 = c (3 + v) 1 ∧ I (44 + v) 2 = c (3 + v) 2 ∧ I (44 + v) 3 = c (3 + v) 3 ∧ I (44 + v) 4 = c (3 + v) 4
def cmF (c I : Wo) : Prop := I 0 10 = c 0 8 ∧ ∀ k : Nat, (k : Int) < c 0 8 → I 43 k = c 8 k * 25 + c 9 k + 12
def cmR (c I : Wo) : Prop := wfC c ∧ cmN c I ∧ cmS c I ∧ cmV c I ∧ cmF c I
/-! the calls: what each answers (an_), what the configuration is behind it (nw_) -/
def an_note (c : Wo) (a b : Int) : Int := if a < -2 ∨ 127 < a ∨ b < 1 ∨ 16 < b then -2 else if c 0 0 = 24 then -4 else c 0 0
def nw_note (c : Wo) (a b : Int) : Wo := if a < -2 ∨ 127 < a ∨ b < 1 ∨ 16 < b then c else if c 0 0 = 24 then c else up2 (up2 (up2 c 1 (c 0 0).toNat a) 2 (c 0 0).toNat b) 0 0 (c 0 0 + 1)
def an_pitch (c : Wo) (k a : Int) : Int := if k < 0 ∨ c 0 0 ≤ k then -1 else if a < -2 ∨ 127 < a then -2 else c 1 k.toNat
def nw_pitch (c : Wo) (k a : Int) : Wo := if k < 0 ∨ c 0 0 ≤ k then c else if a < -2 ∨ 127 < a then c else up2 c 1 k.toNat a
def an_told (c : Wo) (k w : Int) : Int := if k < 0 ∨ c 0 0 ≤ k then -1 else if w = 0 then c 1 k.toNat else if w = 1 then c 2 k.toNat else -2
def an_cut (c : Wo) (n : Int) : Int := if n < 0 ∨ c 0 0 < n then -2 else c 0 0
def nw_cut (c : Wo) (n : Int) : Wo := if n < 0 ∨ c 0 0 < n then c else up2 c 0 0 n
def an_size (c : Wo) : Int := usum (c 2) (c 0 0).toNat
def an_voice (v d i m f : Int) : Int := if v < 1 ∨ 3 < v then -1 else if d < 0 ∨ 100 < d ∨ i < -24 ∨ 24 < i ∨ m < 0 ∨ 3 < m ∨ f < 1 ∨ 3 < f then -2 else 1
def nw_voice (c : Wo) (v d i m f : Int) : Wo := if v < 1 ∨ 3 < v then c else if d < 0 ∨ 100 < d ∨ i < -24 ∨ 24 < i ∨ m < 0 ∨ 3 < m ∨ f < 1 ∨ 3 < f then c else up2 (up2 (up2 (up2 (up2 c (3 + v.toNat) 0 1) (3 + v.toNat) 1 d) (3 + v.toNat) 2 i) (3 + v.toNat) 3 m) (3 + v.toNat) 4 f
def an_off (c : Wo) (v : Int) : Int := if v < 1 ∨ 3 < v then -1 else c (3 + v.toNat) 0
def nw_off (c : Wo) (v : Int) : Wo := if v < 1 ∨ 3 < v then c else up2 c (3 + v.toNat) 0 0
def an_span (a b : Int) : Int := if a < 0 ∨ 127 < b ∨ b < a then -2 else 1
def nw_span (c : Wo) (a b : Int) : Wo := if a < 0 ∨ 127 < b ∨ b < a then c else up2 (up2 c 0 1 a) 0 2 b
def an_scale (c : Wo) (a : Int) : Int := if a < 0 ∨ 4095 < a then -2 else c 0 3
def nw_scale (c : Wo) (a : Int) : Wo := if a < 0 ∨ 4095 < a then c else up2 c 0 3 a
def an_beat (c : Wo) (a : Int) : Int := if a < 1 ∨ 64 < a then -2 else c 0 4
def nw_beat (c : Wo) (a : Int) : Wo := if a < 1 ∨ 64 < a then c else up2 c 0 4 a
def an_rules (c : Wo) (a : Int) : Int := if a < 0 ∨ 255 < a then -2 else c 0 5
def nw_rules (c : Wo) (a : Int) : Wo := if a < 0 ∨ 255 < a then c else up2 c 0 5 a
def an_round (c : Wo) (a : Int) : Int := if a < 0 ∨ 400 < a then -2 else c 0 6
def nw_round (c : Wo) (a : Int) : Wo := if a < 0 ∨ 400 < a then c else up2 c 0 6 a
def an_shift (c : Wo) (k w : Int) : Int := if k < 0 ∨ c 0 8 ≤ k then -1 else if w = 0 then c 8 k.toNat else if w = 1 then c 9 k.toNat else -2
/-- the reference's table holds the configuration -/
def moN (c I : Wo) : Prop := I 0 2 = c 0 0 ∧ ∀ j : Nat, (j : Int) < c 0 0 → I 1 j = c 1 j ∧ I 2 j = c 2 j
def moS (c I : Wo) : Prop := (I 0 8 = c 0 1 ∧ I 0 9 = c 0 2 ∧ I 0 10 = c 0 3 ∧ I 0 11 = c 0 4 ∧ I 0 13 = c 0 5) ∧ I 0 12 = c 0 6 ∧ I 0 14 = c 0 7
def moV (c I : Wo) : Prop := ∀ v : Nat, v < 4 → I 3 v = c (3 + v) 0 ∧ I 4 v = c (3 + v) 1 ∧ I 5 v = c (3 + v) 2 ∧ I 6 v = c (3 + v) 3 ∧ I 7 v = c (3 + v) 4
def moF (c I : Wo) : Prop := I 0 27 = c 0 8 ∧ ∀ k : Nat, (k : Int) < c 0 8 → I 13 k = c 8 k ∧ I 14 k = c 9 k
def moR (c I : Wo) : Prop := wfC c ∧ moN c I ∧ moS c I ∧ moV c I ∧ moF c I
theorem cm_s_scale {c I : Wo} (h : cmR c I) {x : Int} (hx : 0 ≤ x ∧ x ≤ 4095) : cmR (up2 c 0 3 x) (up2 I 5 2 x) := by
  obtain ⟨⟨hN, hS, hV, hF⟩, h1, h2, h3, h4⟩ := h
  exact ⟨⟨by simpa [wfN, up2, up1, q44, q3] using hN, by simp [wfS, up2, up1, q44, q3] at hS ⊢; omega, by simpa [wfV, up2, up1, q44, q3] using hV, by simpa [wfF, up2, up1, q44, q3] using hF⟩, by simpa [cmN, up2, up1, q44, q3] using h1, by simp [cmS, up2, up1, q44, q3] at h2 ⊢; omega, by simpa [cmV, up2, up1, q44, q3] using h3, by simpa [cmF, up2, up1, q44, q3] using h4⟩
theorem cm_s_beat {c I : Wo} (h : cmR c I) {x : Int} (hx : 1 ≤ x ∧ x ≤ 64) : cmR (up2 c 0 4 x) (up2 I 5 3 x) := by
  obtain ⟨⟨hN, hS, hV, hF⟩, h1, h2, h3, h4⟩ := h
  exact ⟨⟨by simpa [wfN, up2, up1, q44, q3] using hN, by simp [wfS, up2, up1, q44, q3] at hS ⊢; omega, by simpa [wfV, up2, up1, q44, q3] using hV, by simpa [wfF, up2, up1, q44, q3] using hF⟩, by simpa [cmN, up2, up1, q44, q3] using h1, by simp [cmS, up2, up1, q44, q3] at h2 ⊢; omega, by simpa [cmV, up2, up1, q44, q3] using h3, by simpa [cmF, up2, up1, q44, q3] using h4⟩
theorem cm_s_rules {c I : Wo} (h : cmR c I) {x : Int} (hx : 0 ≤ x ∧ x ≤ 255) : cmR (up2 c 0 5 x) (up2 I 5 4 x) := by
  obtain ⟨⟨hN, hS, hV, hF⟩, h1, h2, h3, h4⟩ := h
  exact ⟨⟨by simpa [wfN, up2, up1, q44, q3] using hN, by simp [wfS, up2, up1, q44, q3] at hS ⊢; omega, by simpa [wfV, up2, up1, q44, q3] using hV, by simpa [wfF, up2, up1, q44, q3] using hF⟩, by simpa [cmN, up2, up1, q44, q3] using h1, by simp [cmS, up2, up1, q44, q3] at h2 ⊢; omega, by simpa [cmV, up2, up1, q44, q3] using h3, by simpa [cmF, up2, up1, q44, q3] using h4⟩
theorem cm_s_round {c I : Wo} (h : cmR c I) {x : Int} (hx : 0 ≤ x ∧ x ≤ 400) : cmR (up2 c 0 6 x) (up2 I 0 7 x) := by
  obtain ⟨⟨hN, hS, hV, hF⟩, h1, h2, h3, h4⟩ := h
  exact ⟨⟨by simpa [wfN, up2, up1, q44, q3] using hN, by simp [wfS, up2, up1, q44, q3] at hS ⊢; omega, by simpa [wfV, up2, up1, q44, q3] using hV, by simpa [wfF, up2, up1, q44, q3] using hF⟩, by simpa [cmN, up2, up1, q44, q3] using h1, by simp [cmS, up2, up1, q44, q3] at h2 ⊢; omega, by simpa [cmV, up2, up1, q44, q3] using h3, by simpa [cmF, up2, up1, q44, q3] using h4⟩
theorem cm_s_steps {c I : Wo} (h : cmR c I) {x : Int} (hx : 0 ≤ x ∧ x ≤ 3000) : cmR (up2 c 0 7 x) (up2 I 0 9 x) := by
  obtain ⟨⟨hN, hS, hV, hF⟩, h1, h2, h3, h4⟩ := h
  exact ⟨⟨by simpa [wfN, up2, up1, q44, q3] using hN, by simp [wfS, up2, up1, q44, q3] at hS ⊢; omega, by simpa [wfV, up2, up1, q44, q3] using hV, by simpa [wfF, up2, up1, q44, q3] using hF⟩, by simpa [cmN, up2, up1, q44, q3] using h1, by simp [cmS, up2, up1, q44, q3] at h2 ⊢; omega, by simpa [cmV, up2, up1, q44, q3] using h3, by simpa [cmF, up2, up1, q44, q3] using h4⟩
theorem cm_s_span {c I : Wo} (h : cmR c I) {x y : Int} (hx : 0 ≤ x ∧ x ≤ y ∧ y ≤ 127) : cmR (up2 (up2 c 0 1 x) 0 2 y) (up2 (up2 I 5 0 x) 5 1 y) := by
  obtain ⟨⟨hN, hS, hV, hF⟩, h1, h2, h3, h4⟩ := h
  exact ⟨⟨by simpa [wfN, up2, up1, q44, q3] using hN, by simp [wfS, up2, up1, q44, q3] at hS ⊢; omega, by simpa [wfV, up2, up1, q44, q3] using hV, by simpa [wfF, up2, up1, q44, q3] using hF⟩, by simpa [cmN, up2, up1, q44, q3] using h1, by simp [cmS, up2, up1, q44, q3] at h2 ⊢; omega, by simpa [cmV, up2, up1, q44, q3] using h3, by simpa [cmF, up2, up1, q44, q3] using h4⟩
theorem cm_s_cut {c I : Wo} (h : cmR c I) {x : Int} (hx : 0 ≤ x ∧ x ≤ c 0 0) : cmR (up2 c 0 0 x) (up2 I 1 2 x) := by
  obtain ⟨⟨hN, hS, hV, hF⟩, h1, h2, h3, h4⟩ := h
  exact ⟨⟨⟨by have := hN.1; simp [up2, up1, q44, q3]; omega, fun j hj => by
    have := hN.2 j (by simp [up2, up1, q44, q3] at hj; omega)
    simpa [up2, up1, q44, q3] using this⟩, by simpa [wfS, up2, up1, q44, q3] using hS, by simpa [wfV, up2, up1, q44, q3] using hV, by simpa [wfF, up2, up1, q44, q3] using hF⟩, ⟨by simp [up2, up1, q44, q3], fun j hj => by
    have := h1.2 j (by simp [up2, up1, q44, q3] at hj; omega)
    simpa [up2, up1, q44, q3] using this⟩, by simpa [cmS, up2, up1, q44, q3] using h2, by simpa [cmV, up2, up1, q44, q3] using h3, by simpa [cmF, up2, up1, q44, q3] using h4⟩
theorem cm_s_pitch {c I : Wo} (h : cmR c I) {k : Nat} {x : Int} (hk : (k : Int) < c 0 0) (hx : -2 ≤ x ∧ x ≤ 127) : cmR (up2 c 1 k x) (up2 I 2 k x) := by
  obtain ⟨⟨hN, hS, hV, hF⟩, h1, h2, h3, h4⟩ := h
  exact ⟨⟨⟨by simpa [up2, up1, q44, q3] using hN.1, fun j hj => by
    have := hN.2 j (by simpa [up2, up1, q44, q3] using hj)
    by_cases e : j = k
    · subst e; simp [up2, up1, q44, q3]; omega
    · simpa [up2, up1, q44, q3, e] using this⟩, by simpa [wfS, up2, up1, q44, q3] using hS, by simpa [wfV, up2, up1, q44, q3] using hV, by simpa [wfF, up2, up1, q44, q3] using hF⟩, ⟨by simpa [up2, up1, q44, q3] using h1.1, fun j hj => by
    have := h1.2 j (by simpa [up2, up1, q44, q3] using hj)
    by_cases e : j = k
    · subst e; simpa [up2, up1, q44, q3] using this.2
    · simpa [up2, up1, q44, q3, e] using this⟩, by simpa [cmS, up2, up1, q44, q3] using h2, by simpa [cmV, up2, up1, q44, q3] using h3, by simpa [cmF, up2, up1, q44, q3] using h4⟩
theorem cm_s_note {c I : Wo} (h : cmR c I) {k : Nat} {x y : Int} (hk : (k : Int) = c 0 0) (hk2 : k < 24) (hx : -2 ≤ x ∧ x ≤ 127) (hy : 1 ≤ y ∧ y ≤ 16) : cmR (up2 (up2 (up2 c 1 k x) 2 k y) 0 0 (c 0 0 + 1)) (up2 (up2 (up2 I 2 k x) 3 k y) 1 2 (c 0 0 + 1)) := by
  obtain ⟨⟨hN, hS, hV, hF⟩, h1, h2, h3, h4⟩ := h
  exact ⟨⟨⟨by have := hN.1; simp [up2, up1, q44, q3]; omega, fun j hj => by
    by_cases e : j = k
    · subst e; simp [up2, up1, q44, q3]; omega
    · have := hN.2 j (by simp [up2, up1, q44, q3] at hj; omega)
      simpa [up2, up1, q44, q3, e] using this⟩, by simpa [wfS, up2, up1, q44, q3] using hS, by simpa [wfV, up2, up1, q44, q3] using hV, by simpa [wfF, up2, up1, q44, q3] using hF⟩, ⟨by simp [up2, up1, q44, q3], fun j hj => by
    by_cases e : j = k
    · subst e; simp [up2, up1, q44, q3]
    · have := h1.2 j (by simp [up2, up1, q44, q3] at hj; omega)
      simpa [up2, up1, q44, q3, e] using this⟩, by simpa [cmS, up2, up1, q44, q3] using h2, by simpa [cmV, up2, up1, q44, q3] using h3, by simpa [cmF, up2, up1, q44, q3] using h4⟩
theorem cm_s_off {c I : Wo} (h : cmR c I) {v : Nat} (hv : 1 ≤ v ∧ v < 4) : cmR (up2 c (3 + v) 0 0) (up2 I (44 + v) 0 0) := by
  obtain ⟨⟨hN, hS, hV, hF⟩, h1, h2, h3, h4⟩ := h
  exact ⟨⟨by simpa [wfN, up2, up1, q44, q3, show ¬ 0 = 3 + v by omega, show ¬ 1 = 3 + v by omega, show ¬ 2 = 3 + v by omega, show ¬ 8 = 3 + v by omega, show ¬ 9 = 3 + v by omega] using hN, by simpa [wfS, up2, up1, q44, q3, show ¬ 0 = 3 + v by omega, show ¬ 1 = 3 + v by omega, show ¬ 2 = 3 + v by omega, show ¬ 8 = 3 + v by omega, show ¬ 9 = 3 + v by omega] using hS, ⟨fun u hu => by
    have := hV.1 u hu
    by_cases e : u = v
    · subst e; simp [up2, up1, q44, q3]; omega
    · have e1 : ¬ 3 + u = 3 + v := by omega
      simpa [up2, up1, q44, q3, e, e1] using this, by
    have e1 : ¬ 3 = 3 + v := by omega
    simpa [up2, up1, q44, q3, e1, hv.1, show ¬ v = 0 by omega] using hV.2⟩, by simpa [wfF, up2, up1, q44, q3, show ¬ 0 = 3 + v by omega, show ¬ 1 = 3 + v by omega, show ¬ 2 = 3 + v by omega, show ¬ 8 = 3 + v by omega, show ¬ 9 = 3 + v by omega] using hF⟩, by simpa [cmN, up2, up1, q44, q3, show ¬ 0 = 3 + v by omega, show ¬ 1 = 3 + v by omega, show ¬ 2 = 3 + v by omega, show ¬ 8 = 3 + v by omega, show ¬ 9 = 3 + v by omega, show ¬ 0 = 44 + v by omega, show ¬ 1 = 44 + v by omega, show ¬ 2 = 44 + v by omega, show ¬ 3 = 44 + v by omega, show ¬ 5 = 44 + v by omega, show ¬ 43 = 44 + v by omega] using h1, by simpa [cmS, up2, up1, q44, q3, show ¬ 0 = 3 + v by omega, show ¬ 1 = 3 + v by omega, show ¬ 2 = 3 + v by omega, show ¬ 8 = 3 + v by omega, show ¬ 9 = 3 + v by omega, show ¬ 0 = 44 + v by omega, show ¬ 1 = 44 + v by omega, show ¬ 2 = 44 + v by omega, show ¬ 3 = 44 + v by omega, show ¬ 5 = 44 + v by omega, show ¬ 43 = 44 + v by omega] using h2, fun u hu => by
    have := h3 u hu
    by_cases e : u = v
    · subst e; simp [up2, up1, q44, q3]; omega
    · have e1 : ¬ 3 + u = 3 + v := by omega
      have e2 : ¬ 44 + u = 44 + v := by omega
      simpa [up2, up1, q44, q3, e, e1, e2] using this, by simpa [cmF, up2, up1, q44, q3, show ¬ 0 = 3 + v by omega, show ¬ 1 = 3 + v by omega, show ¬ 2 = 3 + v by omega, show ¬ 8 = 3 + v by omega, show ¬ 9 = 3 + v by omega, show ¬ 0 = 44 + v by omega, show ¬ 1 = 44 + v by omega, show ¬ 2 = 44 + v by omega, show ¬ 3 = 44 + v by omega, show ¬ 5 = 44 + v by omega, show ¬ 43 = 44 + v by omega] using h4⟩
theorem cm_s_voice {c I : Wo} (h : cmR c I) {v : Nat} {d i m f : Int} (hv : 1 ≤ v ∧ v < 4) (hd : 0 ≤ d ∧ d ≤ 100) (hi : -24 ≤ i ∧ i ≤ 24) (hm : 0 ≤ m ∧ m ≤ 3) (hf : 1 ≤ f ∧ f ≤ 3) : cmR (up2 (up2 (up2 (up2 (up2 c (3 + v) 0 1) (3 + v) 1 d) (3 + v) 2 i) (3 + v) 3 m) (3 + v) 4 f) (up2 (up2 (up2 (up2 (up2 I (44 + v) 0 1) (44 + v) 1 d) (44 + v) 2 i) (44 + v) 3 m) (44 + v) 4 f) := by
  obtain ⟨⟨hN, hS, hV, hF⟩, h1, h2, h3, h4⟩ := h
  exact ⟨⟨by simpa [wfN, up2, up1, q44, q3, show ¬ 0 = 3 + v by omega, show ¬ 1 = 3 + v by omega, show ¬ 2 = 3 + v by omega, show ¬ 8 = 3 + v by omega, show ¬ 9 = 3 + v by omega] using hN, by simpa [wfS, up2, up1, q44, q3, show ¬ 0 = 3 + v by omega, show ¬ 1 = 3 + v by omega, show ¬ 2 = 3 + v by omega, show ¬ 8 = 3 + v by omega, show ¬ 9 = 3 + v by omega] using hS, ⟨fun u hu => by
    have := hV.1 u hu
    by_cases e : u = v
    · subst e; simp [up2, up1, q44, q3]; omega
    · have e1 : ¬ 3 + u = 3 + v := by omega
      simpa [up2, up1, q44, q3, e, e1] using this, by
    have e1 : ¬ 3 = 3 + v := by omega
    simpa [up2, up1, q44, q3, e1, hv.1, show ¬ v = 0 by omega] using hV.2⟩, by simpa [wfF, up2, up1, q44, q3, show ¬ 0 = 3 + v by omega, show ¬ 1 = 3 + v by omega, show ¬ 2 = 3 + v by omega, show ¬ 8 = 3 + v by omega, show ¬ 9 = 3 + v by omega] using hF⟩, by simpa [cmN, up2, up1, q44, q3, show ¬ 0 = 3 + v by omega, show ¬ 1 = 3 + v by omega, show ¬ 2 = 3 + v by omega, show ¬ 8 = 3 + v by omega, show ¬ 9 = 3 + v by omega, show ¬ 0 = 44 + v by omega, show ¬ 1 = 44 + v by omega, show ¬ 2 = 44 + v by omega, show ¬ 3 = 44 + v by omega, show ¬ 5 = 44 + v by omega, show ¬ 43 = 44 + v by omega] using h1, by simpa [cmS, up2, up1, q44, q3, show ¬ 0 = 3 + v by omega, show ¬ 1 = 3 + v by omega, show ¬ 2 = 3 + v by omega, show ¬ 8 = 3 + v by omega, show ¬ 9 = 3 + v by omega, show ¬ 0 = 44 + v by omega, show ¬ 1 = 44 + v by omega, show ¬ 2 = 44 + v by omega, show ¬ 3 = 44 + v by omega, show ¬ 5 = 44 + v by omega, show ¬ 43 = 44 + v by omega] using h2, fun u hu => by
    have := h3 u hu
    by_cases e : u = v
    · subst e; simp [up2, up1, q44, q3]; try omega
    · have e1 : ¬ 3 + u = 3 + v := by omega
      have e2 : ¬ 44 + u = 44 + v := by omega
      simpa [up2, up1, q44, q3, e, e1, e2] using this, by simpa [cmF, up2, up1, q44, q3, show ¬ 0 = 3 + v by omega, show ¬ 1 = 3 + v by omega, show ¬ 2 = 3 + v by omega, show ¬ 8 = 3 + v by omega, show ¬ 9 = 3 + v by omega, show ¬ 0 = 44 + v by omega, show ¬ 1 = 44 + v by omega, show ¬ 2 = 44 + v by omega, show ¬ 3 = 44 + v by omega, show ¬ 5 = 44 + v by omega, show ¬ 43 = 44 + v by omega] using h4⟩
theorem mo_s_scale {c I : Wo} (h : moR c I) {x : Int} (hx : 0 ≤ x ∧ x ≤ 4095) : moR (up2 c 0 3 x) (up2 I 0 10 x) := by
  obtain ⟨⟨hN, hS, hV, hF⟩, h1, h2, h3, h4⟩ := h
  exact ⟨⟨by simpa [wfN, up2, up1, q44, q3] using hN, by simp [wfS, up2, up1, q44, q3] at hS ⊢; omega, by simpa [wfV, up2, up1, q44, q3] using hV, by simpa [wfF, up2, up1, q44, q3] using hF⟩, by simpa [moN, up2, up1, q44, q3] using h1, by simp [moS, up2, up1, q44, q3] at h2 ⊢; omega, by simpa [moV, up2, up1, q44, q3] using h3, by simpa [moF, up2, up1, q44, q3] using h4⟩
theorem mo_s_beat {c I : Wo} (h : moR c I) {x : Int} (hx : 1 ≤ x ∧ x ≤ 64) : moR (up2 c 0 4 x) (up2 I 0 11 x) := by
  obtain ⟨⟨hN, hS, hV, hF⟩, h1, h2, h3, h4⟩ := h
  exact ⟨⟨by simpa [wfN, up2, up1, q44, q3] using hN, by simp [wfS, up2, up1, q44, q3] at hS ⊢; omega, by simpa [wfV, up2, up1, q44, q3] using hV, by simpa [wfF, up2, up1, q44, q3] using hF⟩, by simpa [moN, up2, up1, q44, q3] using h1, by simp [moS, up2, up1, q44, q3] at h2 ⊢; omega, by simpa [moV, up2, up1, q44, q3] using h3, by simpa [moF, up2, up1, q44, q3] using h4⟩
theorem mo_s_rules {c I : Wo} (h : moR c I) {x : Int} (hx : 0 ≤ x ∧ x ≤ 255) : moR (up2 c 0 5 x) (up2 I 0 13 x) := by
  obtain ⟨⟨hN, hS, hV, hF⟩, h1, h2, h3, h4⟩ := h
  exact ⟨⟨by simpa [wfN, up2, up1, q44, q3] using hN, by simp [wfS, up2, up1, q44, q3] at hS ⊢; omega, by simpa [wfV, up2, up1, q44, q3] using hV, by simpa [wfF, up2, up1, q44, q3] using hF⟩, by simpa [moN, up2, up1, q44, q3] using h1, by simp [moS, up2, up1, q44, q3] at h2 ⊢; omega, by simpa [moV, up2, up1, q44, q3] using h3, by simpa [moF, up2, up1, q44, q3] using h4⟩
theorem mo_s_round {c I : Wo} (h : moR c I) {x : Int} (hx : 0 ≤ x ∧ x ≤ 400) : moR (up2 c 0 6 x) (up2 I 0 12 x) := by
  obtain ⟨⟨hN, hS, hV, hF⟩, h1, h2, h3, h4⟩ := h
  exact ⟨⟨by simpa [wfN, up2, up1, q44, q3] using hN, by simp [wfS, up2, up1, q44, q3] at hS ⊢; omega, by simpa [wfV, up2, up1, q44, q3] using hV, by simpa [wfF, up2, up1, q44, q3] using hF⟩, by simpa [moN, up2, up1, q44, q3] using h1, by simp [moS, up2, up1, q44, q3] at h2 ⊢; omega, by simpa [moV, up2, up1, q44, q3] using h3, by simpa [moF, up2, up1, q44, q3] using h4⟩
theorem mo_s_steps {c I : Wo} (h : moR c I) {x : Int} (hx : 0 ≤ x ∧ x ≤ 3000) : moR (up2 c 0 7 x) (up2 I 0 14 x) := by
  obtain ⟨⟨hN, hS, hV, hF⟩, h1, h2, h3, h4⟩ := h
  exact ⟨⟨by simpa [wfN, up2, up1, q44, q3] using hN, by simp [wfS, up2, up1, q44, q3] at hS ⊢; omega, by simpa [wfV, up2, up1, q44, q3] using hV, by simpa [wfF, up2, up1, q44, q3] using hF⟩, by simpa [moN, up2, up1, q44, q3] using h1, by simp [moS, up2, up1, q44, q3] at h2 ⊢; omega, by simpa [moV, up2, up1, q44, q3] using h3, by simpa [moF, up2, up1, q44, q3] using h4⟩
theorem mo_s_span {c I : Wo} (h : moR c I) {x y : Int} (hx : 0 ≤ x ∧ x ≤ y ∧ y ≤ 127) : moR (up2 (up2 c 0 1 x) 0 2 y) (up2 (up2 I 0 8 x) 0 9 y) := by
  obtain ⟨⟨hN, hS, hV, hF⟩, h1, h2, h3, h4⟩ := h
  exact ⟨⟨by simpa [wfN, up2, up1, q44, q3] using hN, by simp [wfS, up2, up1, q44, q3] at hS ⊢; omega, by simpa [wfV, up2, up1, q44, q3] using hV, by simpa [wfF, up2, up1, q44, q3] using hF⟩, by simpa [moN, up2, up1, q44, q3] using h1, by simp [moS, up2, up1, q44, q3] at h2 ⊢; omega, by simpa [moV, up2, up1, q44, q3] using h3, by simpa [moF, up2, up1, q44, q3] using h4⟩
theorem mo_s_cut {c I : Wo} (h : moR c I) {x : Int} (hx : 0 ≤ x ∧ x ≤ c 0 0) : moR (up2 c 0 0 x) (up2 I 0 2 x) := by
  obtain ⟨⟨hN, hS, hV, hF⟩, h1, h2, h3, h4⟩ := h
  exact ⟨⟨⟨by have := hN.1; simp [up2, up1, q44, q3]; omega, fun j hj => by
    have := hN.2 j (by simp [up2, up1, q44, q3] at hj; omega)
    simpa [up2, up1, q44, q3] using this⟩, by simpa [wfS, up2, up1, q44, q3] using hS, by simpa [wfV, up2, up1, q44, q3] using hV, by simpa [wfF, up2, up1, q44, q3] using hF⟩, ⟨by simp [up2, up1, q44, q3], fun j hj => by
    have := h1.2 j (by simp [up2, up1, q44, q3] at hj; omega)
    simpa [up2, up1, q44, q3] using this⟩, by simpa [moS, up2, up1, q44, q3] using h2, by simpa [moV, up2, up1, q44, q3] using h3, by simpa [moF, up2, up1, q44, q3] using h4⟩
theorem mo_s_pitch {c I : Wo} (h : moR c I) {k : Nat} {x : Int} (hk : (k : Int) < c 0 0) (hx : -2 ≤ x ∧ x ≤ 127) : moR (up2 c 1 k x) (up2 I 1 k x) := by
  obtain ⟨⟨hN, hS, hV, hF⟩, h1, h2, h3, h4⟩ := h
  exact ⟨⟨⟨by simpa [up2, up1, q44, q3] using hN.1, fun j hj => by
    have := hN.2 j (by simpa [up2, up1, q44, q3] using hj)
    by_cases e : j = k
    · subst e; simp [up2, up1, q44, q3]; omega
    · simpa [up2, up1, q44, q3, e] using this⟩, by simpa [wfS, up2, up1, q44, q3] using hS, by simpa [wfV, up2, up1, q44, q3] using hV, by simpa [wfF, up2, up1, q44, q3] using hF⟩, ⟨by simpa [up2, up1, q44, q3] using h1.1, fun j hj => by
    have := h1.2 j (by simpa [up2, up1, q44, q3] using hj)
    by_cases e : j = k
    · subst e; simpa [up2, up1, q44, q3] using this.2
    · simpa [up2, up1, q44, q3, e] using this⟩, by simpa [moS, up2, up1, q44, q3] using h2, by simpa [moV, up2, up1, q44, q3] using h3, by simpa [moF, up2, up1, q44, q3] using h4⟩
theorem mo_s_note {c I : Wo} (h : moR c I) {k : Nat} {x y : Int} (hk : (k : Int) = c 0 0) (hk2 : k < 24) (hx : -2 ≤ x ∧ x ≤ 127) (hy : 1 ≤ y ∧ y ≤ 16) : moR (up2 (up2 (up2 c 1 k x) 2 k y) 0 0 (c 0 0 + 1)) (up2 (up2 (up2 I 1 k x) 2 k y) 0 2 (c 0 0 + 1)) := by
  obtain ⟨⟨hN, hS, hV, hF⟩, h1, h2, h3, h4⟩ := h
  exact ⟨⟨⟨by have := hN.1; simp [up2, up1, q44, q3]; omega, fun j hj => by
    by_cases e : j = k
    · subst e; simp [up2, up1, q44, q3]; omega
    · have := hN.2 j (by simp [up2, up1, q44, q3] at hj; omega)
      simpa [up2, up1, q44, q3, e] using this⟩, by simpa [wfS, up2, up1, q44, q3] using hS, by simpa [wfV, up2, up1, q44, q3] using hV, by simpa [wfF, up2, up1, q44, q3] using hF⟩, ⟨by simp [up2, up1, q44, q3], fun j hj => by
    by_cases e : j = k
    · subst e; simp [up2, up1, q44, q3]
    · have := h1.2 j (by simp [up2, up1, q44, q3] at hj; omega)
      simpa [up2, up1, q44, q3, e] using this⟩, by simpa [moS, up2, up1, q44, q3] using h2, by simpa [moV, up2, up1, q44, q3] using h3, by simpa [moF, up2, up1, q44, q3] using h4⟩
theorem mo_s_off {c I : Wo} (h : moR c I) {v : Nat} (hv : 1 ≤ v ∧ v < 4) : moR (up2 c (3 + v) 0 0) (up2 I 3 v 0) := by
  obtain ⟨⟨hN, hS, hV, hF⟩, h1, h2, h3, h4⟩ := h
  exact ⟨⟨by simpa [wfN, up2, up1, q44, q3, show ¬ 0 = 3 + v by omega, show ¬ 1 = 3 + v by omega, show ¬ 2 = 3 + v by omega, show ¬ 8 = 3 + v by omega, show ¬ 9 = 3 + v by omega] using hN, by simpa [wfS, up2, up1, q44, q3, show ¬ 0 = 3 + v by omega, show ¬ 1 = 3 + v by omega, show ¬ 2 = 3 + v by omega, show ¬ 8 = 3 + v by omega, show ¬ 9 = 3 + v by omega] using hS, ⟨fun u hu => by
    have := hV.1 u hu
    by_cases e : u = v
    · subst e; simp [up2, up1, q44, q3]; omega
    · have e1 : ¬ 3 + u = 3 + v := by omega
      simpa [up2, up1, q44, q3, e, e1] using this, by
    have e1 : ¬ 3 = 3 + v := by omega
    simpa [up2, up1, q44, q3, e1, hv.1, show ¬ v = 0 by omega] using hV.2⟩, by simpa [wfF, up2, up1, q44, q3, show ¬ 0 = 3 + v by omega, show ¬ 1 = 3 + v by omega, show ¬ 2 = 3 + v by omega, show ¬ 8 = 3 + v by omega, show ¬ 9 = 3 + v by omega] using hF⟩, by simpa [moN, up2, up1, q44, q3, show ¬ 0 = 3 + v by omega, show ¬ 1 = 3 + v by omega, show ¬ 2 = 3 + v by omega, show ¬ 8 = 3 + v by omega, show ¬ 9 = 3 + v by omega] using h1, by simpa [moS, up2, up1, q44, q3, show ¬ 0 = 3 + v by omega, show ¬ 1 = 3 + v by omega, show ¬ 2 = 3 + v by omega, show ¬ 8 = 3 + v by omega, show ¬ 9 = 3 + v by omega] using h2, fun u hu => by
    have := h3 u hu
    by_cases e : u = v
    · subst e; simp [up2, up1, q44, q3]; omega
    · have e1 : ¬ 3 + u = 3 + v := by omega
      simpa [up2, up1, q44, q3, e, e1] using this, by simpa [moF, up2, up1, q44, q3, show ¬ 0 = 3 + v by omega, show ¬ 1 = 3 + v by omega, show ¬ 2 = 3 + v by omega, show ¬ 8 = 3 + v by omega, show ¬ 9 = 3 + v by omega] using h4⟩
theorem mo_s_voice {c I : Wo} (h : moR c I) {v : Nat} {d i m f : Int} (hv : 1 ≤ v ∧ v < 4) (hd : 0 ≤ d ∧ d ≤ 100) (hi : -24 ≤ i ∧ i ≤ 24) (hm : 0 ≤ m ∧ m ≤ 3) (hf : 1 ≤ f ∧ f ≤ 3) : moR (up2 (up2 (up2 (up2 (up2 c (3 + v) 0 1) (3 + v) 1 d) (3 + v) 2 i) (3 + v) 3 m) (3 + v) 4 f) (up2 (up2 (up2 (up2 (up2 I 3 v 1) 4 v d) 5 v i) 6 v m) 7 v f) := by
  obtain ⟨⟨hN, hS, hV, hF⟩, h1, h2, h3, h4⟩ := h
  exact ⟨⟨by simpa [wfN, up2, up1, q44, q3, show ¬ 0 = 3 + v by omega, show ¬ 1 = 3 + v by omega, show ¬ 2 = 3 + v by omega, show ¬ 8 = 3 + v by omega, show ¬ 9 = 3 + v by omega] using hN, by simpa [wfS, up2, up1, q44, q3, show ¬ 0 = 3 + v by omega, show ¬ 1 = 3 + v by omega, show ¬ 2 = 3 + v by omega, show ¬ 8 = 3 + v by omega, show ¬ 9 = 3 + v by omega] using hS, ⟨fun u hu => by
    have := hV.1 u hu
    by_cases e : u = v
    · subst e; simp [up2, up1, q44, q3]; omega
    · have e1 : ¬ 3 + u = 3 + v := by omega
      simpa [up2, up1, q44, q3, e, e1] using this, by
    have e1 : ¬ 3 = 3 + v := by omega
    simpa [up2, up1, q44, q3, e1, hv.1, show ¬ v = 0 by omega] using hV.2⟩, by simpa [wfF, up2, up1, q44, q3, show ¬ 0 = 3 + v by omega, show ¬ 1 = 3 + v by omega, show ¬ 2 = 3 + v by omega, show ¬ 8 = 3 + v by omega, show ¬ 9 = 3 + v by omega] using hF⟩, by simpa [moN, up2, up1, q44, q3, show ¬ 0 = 3 + v by omega, show ¬ 1 = 3 + v by omega, show ¬ 2 = 3 + v by omega, show ¬ 8 = 3 + v by omega, show ¬ 9 = 3 + v by omega] using h1, by simpa [moS, up2, up1, q44, q3, show ¬ 0 = 3 + v by omega, show ¬ 1 = 3 + v by omega, show ¬ 2 = 3 + v by omega, show ¬ 8 = 3 + v by omega, show ¬ 9 = 3 + v by omega] using h2, fun u hu => by
    have := h3 u hu
    by_cases e : u = v
    · subst e; simp [up2, up1, q44, q3]; try omega
    · have e1 : ¬ 3 + u = 3 + v := by omega
      simpa [up2, up1, q44, q3, e, e1] using this, by simpa [moF, up2, up1, q44, q3, show ¬ 0 = 3 + v by omega, show ¬ 1 = 3 + v by omega, show ¬ 2 = 3 + v by omega, show ¬ 8 = 3 + v by omega, show ¬ 9 = 3 + v by omega] using h4⟩
