def cm_tys (cs : Nat → ClassId) : List (ClassId × FieldType) := [(cs 0, .int), (cs 1, .boolean), (cs 2, .object "CanonMaker$Voice"), (cs 3, .object "CanonMaker$Line")]
def cm_told (j : Nat) : Int := ([1, 2, 4, 16, 32, 64, 128] : List Int).getD j 0
def cm_zs (zt : Nat) : List mk_Zt := [(("CanonMaker", "TOLD_ORDER", "[I", zt, 7, cm_told), ("CanonMaker$Judge", 60, "CanonMaker", "CanonMaker"))]
abbrev cm_inj (ad : Nat → Nat) : Prop := ∀ i j, i < 48 → j < 48 → ad i = ad j → i = j
def cm_sh (cs : Nat → ClassId) (ad : Nat → Nat) (k : Nat) (f : Nat → Int) : va_E := (([
  .inr (6, [.ref (ad 1), .ref (ad 4), .ref (ad 5), .ref (ad 6), .ref (ad 36), .ref (ad 42), .ref (ad 43), .int (zi (f 7)), .int (zi (f 8)), .int (zi (f 9)), .int (zi (f 10))]),
  .inr (0, [.ref (ad 2), .ref (ad 3), .int (zi (f 2))]),
  .inl (cs 0, 24, .inl (fun j => zi (f j))),
  .inl (cs 0, 24, .inl (fun j => zi (f j))),
  .inl (cs 2, 4, .inr (.inr (.inr (.inr (fun j => some (ad (44 + j))))))),
  .inr (2, [.int (zi (f 0)), .int (zi (f 1)), .int (zi (f 2)), .int (zi (f 3)), .int (zi (f 4))]),
  .inr (4, [.ref (ad 7), .ref (ad 8), .ref (ad 9), .ref (ad 10), .ref (ad 11), .int (zi (f 5))]),
  .inl (cs 3, 4, .inr (.inr (.inr (.inr (fun j => some (ad (12 + 6 * j))))))),
  .inl (cs 0, 96, .inl (fun j => zi (f j))),
  .inl (cs 0, 96, .inl (fun j => zi (f j))),
  .inl (cs 0, 384, .inl (fun j => zi (f j))),
  .inl (cs 0, 96, .inl (fun j => zi (f j))),
  .inr (3, [.ref (ad 13), .ref (ad 14), .ref (ad 15), .ref (ad 16), .ref (ad 17), .int (zi (f 5)), .int (zi (f 6)), .int (zi (f 7)), .int (zi (f 8)), .int (zi (f 9)), .int (zi (f 10)), .int (zi (f 11))]),
  .inl (cs 0, 24, .inl (fun j => zi (f j))),
  .inl (cs 0, 24, .inl (fun j => zi (f j))),
  .inl (cs 0, 24, .inl (fun j => zi (f j))),
  .inl (cs 0, 24, .inl (fun j => zi (f j))),
  .inl (cs 0, 24, .inl (fun j => zi (f j))),
  .inr (3, [.ref (ad 19), .ref (ad 20), .ref (ad 21), .ref (ad 22), .ref (ad 23), .int (zi (f 5)), .int (zi (f 6)), .int (zi (f 7)), .int (zi (f 8)), .int (zi (f 9)), .int (zi (f 10)), .int (zi (f 11))]),
  .inl (cs 0, 24, .inl (fun j => zi (f j))),
  .inl (cs 0, 24, .inl (fun j => zi (f j))),
  .inl (cs 0, 24, .inl (fun j => zi (f j))),
  .inl (cs 0, 24, .inl (fun j => zi (f j))),
  .inl (cs 0, 24, .inl (fun j => zi (f j))),
  .inr (3, [.ref (ad 25), .ref (ad 26), .ref (ad 27), .ref (ad 28), .ref (ad 29), .int (zi (f 5)), .int (zi (f 6)), .int (zi (f 7)), .int (zi (f 8)), .int (zi (f 9)), .int (zi (f 10)), .int (zi (f 11))]),
  .inl (cs 0, 24, .inl (fun j => zi (f j))),
  .inl (cs 0, 24, .inl (fun j => zi (f j))),
  .inl (cs 0, 24, .inl (fun j => zi (f j))),
  .inl (cs 0, 24, .inl (fun j => zi (f j))),
  .inl (cs 0, 24, .inl (fun j => zi (f j))),
  .inr (3, [.ref (ad 31), .ref (ad 32), .ref (ad 33), .ref (ad 34), .ref (ad 35), .int (zi (f 5)), .int (zi (f 6)), .int (zi (f 7)), .int (zi (f 8)), .int (zi (f 9)), .int (zi (f 10)), .int (zi (f 11))]),
  .inl (cs 0, 24, .inl (fun j => zi (f j))),
  .inl (cs 0, 24, .inl (fun j => zi (f j))),
  .inl (cs 0, 24, .inl (fun j => zi (f j))),
  .inl (cs 0, 24, .inl (fun j => zi (f j))),
  .inl (cs 0, 24, .inl (fun j => zi (f j))),
  .inr (5, [.ref (ad 6), .ref (ad 5), .ref (ad 37), .ref (ad 38), .ref (ad 39), .ref (ad 40), .ref (ad 41), .int (zi (f 7)), .int (zi (f 8)), .int (zi (f 9)), .int (zi (f 10)), .int (zi (f 11)), .int (zi (f 12)), .int (zi (f 13)), .int (zi (f 14))]),
  .inl (cs 0, 4, .inl (fun j => zi (f j))),
  .inl (cs 1, 4, .inl (fun j => zi (f j))),
  .inl (cs 0, 4, .inl (fun j => zi (f j))),
  .inl (cs 0, 4, .inl (fun j => zi (f j))),
  .inl (cs 0, 4, .inl (fun j => zi (f j))),
  .inl (cs 0, 24, .inl (fun j => zi (f j))),
  .inl (cs 0, 2525, .inl (fun j => zi (f j))),
  .inr (1, [.int (zi (f 0)), .int (zi (f 1)), .int (zi (f 2)), .int (zi (f 3)), .int (zi (f 4))]),
  .inr (1, [.int (zi (f 0)), .int (zi (f 1)), .int (zi (f 2)), .int (zi (f 3)), .int (zi (f 4))]),
  .inr (1, [.int (zi (f 0)), .int (zi (f 1)), .int (zi (f 2)), .int (zi (f 3)), .int (zi (f 4))]),
  .inr (1, [.int (zi (f 0)), .int (zi (f 1)), .int (zi (f 2)), .int (zi (f 3)), .int (zi (f 4))])] : List va_E)).getD k (.inr (0, []))
theorem sh_CM (cs : Nat → ClassId) (ad : Nat → Nat) (f : Nat → Int) : cm_sh cs ad 0 f = .inr (6, [.ref (ad 1), .ref (ad 4), .ref (ad 5), .ref (ad 6), .ref (ad 36), .ref (ad 42), .ref (ad 43), .int (zi (f 7)), .int (zi (f 8)), .int (zi (f 9)), .int (zi (f 10))]) := rfl
theorem sh_Subject (cs : Nat → ClassId) (ad : Nat → Nat) (f : Nat → Int) : cm_sh cs ad 1 f = .inr (0, [.ref (ad 2), .ref (ad 3), .int (zi (f 2))]) := rfl
theorem sh_Spit (cs : Nat → ClassId) (ad : Nat → Nat) (f : Nat → Int) : cm_sh cs ad 2 f = .inl (cs 0, 24, .inl (fun j => zi (f j))) := rfl
theorem sh_Slen (cs : Nat → ClassId) (ad : Nat → Nat) (f : Nat → Int) : cm_sh cs ad 3 f = .inl (cs 0, 24, .inl (fun j => zi (f j))) := rfl
theorem sh_voices (cs : Nat → ClassId) (ad : Nat → Nat) (f : Nat → Int) : cm_sh cs ad 4 f = .inl (cs 2, 4, .inr (.inr (.inr (.inr (fun j => some (ad (44 + j))))))) := rfl
theorem sh_Bounds (cs : Nat → ClassId) (ad : Nat → Nat) (f : Nat → Int) : cm_sh cs ad 5 f = .inr (2, [.int (zi (f 0)), .int (zi (f 1)), .int (zi (f 2)), .int (zi (f 3)), .int (zi (f 4))]) := rfl
theorem sh_Score (cs : Nat → ClassId) (ad : Nat → Nat) (f : Nat → Int) : cm_sh cs ad 6 f = .inr (4, [.ref (ad 7), .ref (ad 8), .ref (ad 9), .ref (ad 10), .ref (ad 11), .int (zi (f 5))]) := rfl
theorem sh_lines (cs : Nat → ClassId) (ad : Nat → Nat) (f : Nat → Int) : cm_sh cs ad 7 f = .inl (cs 3, 4, .inr (.inr (.inr (.inr (fun j => some (ad (12 + 6 * j))))))) := rfl
theorem sh_moments (cs : Nat → ClassId) (ad : Nat → Nat) (f : Nat → Int) : cm_sh cs ad 8 f = .inl (cs 0, 96, .inl (fun j => zi (f j))) := rfl
theorem sh_touched (cs : Nat → ClassId) (ad : Nat → Nat) (f : Nat → Int) : cm_sh cs ad 9 f = .inl (cs 0, 96, .inl (fun j => zi (f j))) := rfl
theorem sh_places (cs : Nat → ClassId) (ad : Nat → Nat) (f : Nat → Int) : cm_sh cs ad 10 f = .inl (cs 0, 384, .inl (fun j => zi (f j))) := rfl
theorem sh_strikes (cs : Nat → ClassId) (ad : Nat → Nat) (f : Nat → Int) : cm_sh cs ad 11 f = .inl (cs 0, 96, .inl (fun j => zi (f j))) := rfl
theorem sh_Line (cs : Nat → ClassId) (ad : Nat → Nat) {v : Nat} (hv : v < 4) (f : Nat → Int) : cm_sh cs ad (12 + 6 * v) f = .inr (3, [.ref (ad (13 + 6 * v)), .ref (ad (14 + 6 * v)), .ref (ad (15 + 6 * v)), .ref (ad (16 + 6 * v)), .ref (ad (17 + 6 * v)), .int (zi (f 5)), .int (zi (f 6)), .int (zi (f 7)), .int (zi (f 8)), .int (zi (f 9)), .int (zi (f 10)), .int (zi (f 11))]) := by
  rcases (show v = 0 ∨ v = 1 ∨ v = 2 ∨ v = 3 by omega) with rfl | rfl | rfl | rfl <;> rfl
theorem sh_Lnotes (cs : Nat → ClassId) (ad : Nat → Nat) {v : Nat} (hv : v < 4) (f : Nat → Int) : cm_sh cs ad (13 + 6 * v) f = .inl (cs 0, 24, .inl (fun j => zi (f j))) := by
  rcases (show v = 0 ∨ v = 1 ∨ v = 2 ∨ v = 3 by omega) with rfl | rfl | rfl | rfl <;> rfl
theorem sh_Lbegins (cs : Nat → ClassId) (ad : Nat → Nat) {v : Nat} (hv : v < 4) (f : Nat → Int) : cm_sh cs ad (14 + 6 * v) f = .inl (cs 0, 24, .inl (fun j => zi (f j))) := by
  rcases (show v = 0 ∨ v = 1 ∨ v = 2 ∨ v = 3 by omega) with rfl | rfl | rfl | rfl <;> rfl
theorem sh_Lpit (cs : Nat → ClassId) (ad : Nat → Nat) {v : Nat} (hv : v < 4) (f : Nat → Int) : cm_sh cs ad (15 + 6 * v) f = .inl (cs 0, 24, .inl (fun j => zi (f j))) := by
  rcases (show v = 0 ∨ v = 1 ∨ v = 2 ∨ v = 3 by omega) with rfl | rfl | rfl | rfl <;> rfl
theorem sh_Lbefore (cs : Nat → ClassId) (ad : Nat → Nat) {v : Nat} (hv : v < 4) (f : Nat → Int) : cm_sh cs ad (16 + 6 * v) f = .inl (cs 0, 24, .inl (fun j => zi (f j))) := by
  rcases (show v = 0 ∨ v = 1 ∨ v = 2 ∨ v = 3 by omega) with rfl | rfl | rfl | rfl <;> rfl
theorem sh_Lbehind (cs : Nat → ClassId) (ad : Nat → Nat) {v : Nat} (hv : v < 4) (f : Nat → Int) : cm_sh cs ad (17 + 6 * v) f = .inl (cs 0, 24, .inl (fun j => zi (f j))) := by
  rcases (show v = 0 ∨ v = 1 ∨ v = 2 ∨ v = 3 by omega) with rfl | rfl | rfl | rfl <;> rfl
theorem sh_Judge (cs : Nat → ClassId) (ad : Nat → Nat) (f : Nat → Int) : cm_sh cs ad 36 f = .inr (5, [.ref (ad 6), .ref (ad 5), .ref (ad 37), .ref (ad 38), .ref (ad 39), .ref (ad 40), .ref (ad 41), .int (zi (f 7)), .int (zi (f 8)), .int (zi (f 9)), .int (zi (f 10)), .int (zi (f 11)), .int (zi (f 12)), .int (zi (f 13)), .int (zi (f 14))]) := rfl
theorem sh_present (cs : Nat → ClassId) (ad : Nat → Nat) (f : Nat → Int) : cm_sh cs ad 37 f = .inl (cs 0, 4, .inl (fun j => zi (f j))) := rfl
theorem sh_struck (cs : Nat → ClassId) (ad : Nat → Nat) (f : Nat → Int) : cm_sh cs ad 38 f = .inl (cs 1, 4, .inl (fun j => zi (f j))) := rfl
theorem sh_now (cs : Nat → ClassId) (ad : Nat → Nat) (f : Nat → Int) : cm_sh cs ad 39 f = .inl (cs 0, 4, .inl (fun j => zi (f j))) := rfl
theorem sh_old (cs : Nat → ClassId) (ad : Nat → Nat) (f : Nat → Int) : cm_sh cs ad 40 f = .inl (cs 0, 4, .inl (fun j => zi (f j))) := rfl
theorem sh_next (cs : Nat → ClassId) (ad : Nat → Nat) (f : Nat → Int) : cm_sh cs ad 41 f = .inl (cs 0, 4, .inl (fun j => zi (f j))) := rfl
theorem sh_openNotes (cs : Nat → ClassId) (ad : Nat → Nat) (f : Nat → Int) : cm_sh cs ad 42 f = .inl (cs 0, 24, .inl (fun j => zi (f j))) := rfl
theorem sh_shiftsFound (cs : Nat → ClassId) (ad : Nat → Nat) (f : Nat → Int) : cm_sh cs ad 43 f = .inl (cs 0, 2525, .inl (fun j => zi (f j))) := rfl
theorem sh_Voice (cs : Nat → ClassId) (ad : Nat → Nat) {v : Nat} (hv : v < 4) (f : Nat → Int) : cm_sh cs ad (44 + v) f = .inr (1, [.int (zi (f 0)), .int (zi (f 1)), .int (zi (f 2)), .int (zi (f 3)), .int (zi (f 4))]) := by
  rcases (show v = 0 ∨ v = 1 ∨ v = 2 ∨ v = 3 by omega) with rfl | rfl | rfl | rfl <;> rfl
abbrev cm_C (l : Launch) (D : va_G) (cs : Nat → ClassId) (ad : Nat → Nat) (zt : Nat) (y : MethodName) (ws : List Cond) (rm : Room) (As : List Value) (I : Wo) (P : Option Value → Wo → Prop) : Prop := mk_C l y ws rm D cmcl (cm_tys cs) (cm_sh cs ad) 48 48 ad (cm_zs zt) As I P
