set_option maxHeartbeats 4000000 in
set_option maxRecDepth 100000 in
theorem law_0 {p : Program} {l : Launch} {e : Env} {s : State} {m : MethodId} {b L : Nat} {xs : Nat → Int32} {below : List Frame} {meth : Method} {co : Code} {Q : State → Prop} {kc ks : Nat} {D : va_G} {cs : Nat → ClassId} {a1 a2 : Nat → Nat} {zt : Nat} (X : mL_X p m co s b L xs D cs a1 a2 zt) (hkc : kc ≤ room_1.cells ∧ ks ≤ room_1.slots) (hL : L ≤ 3072) {t : Nat} (ht : 6 * t + 6 ≤ L) {c I1 I2 : Wo} (h1 : cmR c I1) (h2 : moR c I2) (hgo : ∀ d J1 J2, cmR d J1 → moR d J2 → mL_A p l e s m b below meth co Q kc ks D cs a1 a2 J1 J2 [(3, .int (zi ((6 * t : Nat) : Int))), (2, .ref (a2 0)), (1, .ref (a1 0)), (0, .ref b)] 658 []) : mL_A p l e s m b below meth co Q kc ks D cs a1 a2 I1 I2 [(3, .int (zi ((6 * t : Nat) : Int))), (2, .ref (a2 0)), (1, .ref (a1 0)), (0, .ref b)] 128 [] := by
  refine mL_aloadn (nx := 129) X 2 d_law_128 rfl rfl ?_
  refine mL_aloadn (nx := 130) X 3 d_law_129 rfl rfl ?_
  refine mL_iloadn (nx := 131) X 0 d_law_130 rfl rfl ?_
  refine mL_iconst (nx := 132) X d_law_131 rfl ?_
  refine mL_iadd (nx := 133) X d_law_132 rfl ?_
  refine mL_sld (nx := 134) (j := 6 * t + 1) X (by omega) (by omega) (by omega) (by omega) d_law_133 rfl ?_
  refine mL_aloadn (nx := 135) X 3 d_law_134 rfl rfl ?_
  refine mL_iloadn (nx := 136) X 0 d_law_135 rfl rfl ?_
  refine mL_iconst (nx := 137) X d_law_136 rfl ?_
  refine mL_iadd (nx := 138) X d_law_137 rfl ?_
  refine mL_sld (nx := 139) (j := 6 * t + 2) X (by omega) (by omega) (by omega) (by omega) d_law_138 rfl ?_
  refine mL_callX (nx := 142) (n := 2) (As := [.int (zi (sx xs (6 * t + 1))), .int (zi (sx xs (6 * t + 2)))]) (rest := []) X (c_CM_note l D cs a1 zt X.i1 c I1 h1 (sx xs (6 * t + 1)) (sx_b _ _) (sx xs (6 * t + 2)) (sx_b _ _)) (g_CM_note wd_321) rfl ⟨rfl, rfl⟩ (by decide +kernel) ⟨Nat.le_of_ble_eq_true rfl, Nat.le_of_ble_eq_true rfl⟩ rfl (Nat.le_of_ble_eq_true rfl) rfl hkc d_law_139 rfl (fun r1 J1 hp1 => ?_)
  refine mL_aloadn (nx := 143) X 1 d_law_142 rfl rfl ?_
  refine mL_aloadn (nx := 144) X 3 d_law_143 rfl rfl ?_
  refine mL_iloadn (nx := 145) X 0 d_law_144 rfl rfl ?_
  refine mL_iconst (nx := 146) X d_law_145 rfl ?_
  refine mL_iadd (nx := 147) X d_law_146 rfl ?_
  refine mL_sld (nx := 148) (j := 6 * t + 1) X (by omega) (by omega) (by omega) (by omega) d_law_147 rfl ?_
  refine mL_aloadn (nx := 149) X 3 d_law_148 rfl rfl ?_
  refine mL_iloadn (nx := 150) X 0 d_law_149 rfl rfl ?_
  refine mL_iconst (nx := 151) X d_law_150 rfl ?_
  refine mL_iadd (nx := 152) X d_law_151 rfl ?_
  refine mL_sld (nx := 153) (j := 6 * t + 2) X (by omega) (by omega) (by omega) (by omega) d_law_152 rfl ?_
  refine mL_callM (nx := 156) (n := 2) (As := [.int (zi (sx xs (6 * t + 1))), .int (zi (sx xs (6 * t + 2)))]) (rest := [.int (zi r1)]) X (c_Mo_note l D cs a2 X.i2 c I2 h2 (sx xs (6 * t + 1)) (sx_b _ _) (sx xs (6 * t + 2)) (sx_b _ _)) (g_Mo_note wd_683) rfl ⟨rfl, rfl⟩ (by decide +kernel) ⟨Nat.le_of_ble_eq_true rfl, Nat.le_of_ble_eq_true rfl⟩ rfl (Nat.le_of_ble_eq_true rfl) rfl hkc d_law_153 rfl (fun r2 J2 hp2 => ?_)
  refine mL_eq (tgt := 658) X d_law_156 (by decide) (hp1.1.trans hp2.1.symm) ?_
  exact hgo _ J1 J2 hp1.2 hp2.2

set_option maxHeartbeats 4000000 in
set_option maxRecDepth 100000 in
theorem law_1 {p : Program} {l : Launch} {e : Env} {s : State} {m : MethodId} {b L : Nat} {xs : Nat → Int32} {below : List Frame} {meth : Method} {co : Code} {Q : State → Prop} {kc ks : Nat} {D : va_G} {cs : Nat → ClassId} {a1 a2 : Nat → Nat} {zt : Nat} (X : mL_X p m co s b L xs D cs a1 a2 zt) (hkc : kc ≤ room_1.cells ∧ ks ≤ room_1.slots) (hL : L ≤ 3072) {t : Nat} (ht : 6 * t + 6 ≤ L) {c I1 I2 : Wo} (h1 : cmR c I1) (h2 : moR c I2) (hgo : ∀ d J1 J2, cmR d J1 → moR d J2 → mL_A p l e s m b below meth co Q kc ks D cs a1 a2 J1 J2 [(3, .int (zi ((6 * t : Nat) : Int))), (2, .ref (a2 0)), (1, .ref (a1 0)), (0, .ref b)] 658 []) : mL_A p l e s m b below meth co Q kc ks D cs a1 a2 I1 I2 [(3, .int (zi ((6 * t : Nat) : Int))), (2, .ref (a2 0)), (1, .ref (a1 0)), (0, .ref b)] 161 [] := by
  refine mL_aloadn (nx := 162) X 2 d_law_161 rfl rfl ?_
  refine mL_aloadn (nx := 163) X 3 d_law_162 rfl rfl ?_
  refine mL_iloadn (nx := 164) X 0 d_law_163 rfl rfl ?_
  refine mL_iconst (nx := 165) X d_law_164 rfl ?_
  refine mL_iadd (nx := 166) X d_law_165 rfl ?_
  refine mL_sld (nx := 167) (j := 6 * t + 1) X (by omega) (by omega) (by omega) (by omega) d_law_166 rfl ?_
  refine mL_aloadn (nx := 168) X 3 d_law_167 rfl rfl ?_
  refine mL_iloadn (nx := 169) X 0 d_law_168 rfl rfl ?_
  refine mL_iconst (nx := 170) X d_law_169 rfl ?_
  refine mL_iadd (nx := 171) X d_law_170 rfl ?_
  refine mL_sld (nx := 172) (j := 6 * t + 2) X (by omega) (by omega) (by omega) (by omega) d_law_171 rfl ?_
  refine mL_callX (nx := 175) (n := 2) (As := [.int (zi (sx xs (6 * t + 1))), .int (zi (sx xs (6 * t + 2)))]) (rest := []) X (c_CM_pitch l D cs a1 zt X.i1 c I1 h1 (sx xs (6 * t + 1)) (sx_b _ _) (sx xs (6 * t + 2)) (sx_b _ _)) (g_CM_pitch wd_328) rfl ⟨rfl, rfl⟩ (by decide +kernel) ⟨Nat.le_of_ble_eq_true rfl, Nat.le_of_ble_eq_true rfl⟩ rfl (Nat.le_of_ble_eq_true rfl) rfl hkc d_law_172 rfl (fun r1 J1 hp1 => ?_)
  refine mL_aloadn (nx := 176) X 1 d_law_175 rfl rfl ?_
  refine mL_aloadn (nx := 177) X 3 d_law_176 rfl rfl ?_
  refine mL_iloadn (nx := 178) X 0 d_law_177 rfl rfl ?_
  refine mL_iconst (nx := 179) X d_law_178 rfl ?_
  refine mL_iadd (nx := 180) X d_law_179 rfl ?_
  refine mL_sld (nx := 181) (j := 6 * t + 1) X (by omega) (by omega) (by omega) (by omega) d_law_180 rfl ?_
  refine mL_aloadn (nx := 182) X 3 d_law_181 rfl rfl ?_
  refine mL_iloadn (nx := 183) X 0 d_law_182 rfl rfl ?_
  refine mL_iconst (nx := 184) X d_law_183 rfl ?_
  refine mL_iadd (nx := 185) X d_law_184 rfl ?_
  refine mL_sld (nx := 186) (j := 6 * t + 2) X (by omega) (by omega) (by omega) (by omega) d_law_185 rfl ?_
  refine mL_callM (nx := 189) (n := 2) (As := [.int (zi (sx xs (6 * t + 1))), .int (zi (sx xs (6 * t + 2)))]) (rest := [.int (zi r1)]) X (c_Mo_pitch l D cs a2 X.i2 c I2 h2 (sx xs (6 * t + 1)) (sx_b _ _) (sx xs (6 * t + 2)) (sx_b _ _)) (g_Mo_pitch wd_687) rfl ⟨rfl, rfl⟩ (by decide +kernel) ⟨Nat.le_of_ble_eq_true rfl, Nat.le_of_ble_eq_true rfl⟩ rfl (Nat.le_of_ble_eq_true rfl) rfl hkc d_law_186 rfl (fun r2 J2 hp2 => ?_)
  refine mL_eq (tgt := 658) X d_law_189 (by decide) (hp1.1.trans hp2.1.symm) ?_
  exact hgo _ J1 J2 hp1.2 hp2.2

set_option maxHeartbeats 4000000 in
set_option maxRecDepth 100000 in
theorem law_2 {p : Program} {l : Launch} {e : Env} {s : State} {m : MethodId} {b L : Nat} {xs : Nat → Int32} {below : List Frame} {meth : Method} {co : Code} {Q : State → Prop} {kc ks : Nat} {D : va_G} {cs : Nat → ClassId} {a1 a2 : Nat → Nat} {zt : Nat} (X : mL_X p m co s b L xs D cs a1 a2 zt) (hkc : kc ≤ room_1.cells ∧ ks ≤ room_1.slots) (hL : L ≤ 3072) {t : Nat} (ht : 6 * t + 6 ≤ L) {c I1 I2 : Wo} (h1 : cmR c I1) (h2 : moR c I2) (hgo : ∀ d J1 J2, cmR d J1 → moR d J2 → mL_A p l e s m b below meth co Q kc ks D cs a1 a2 J1 J2 [(3, .int (zi ((6 * t : Nat) : Int))), (2, .ref (a2 0)), (1, .ref (a1 0)), (0, .ref b)] 658 []) : mL_A p l e s m b below meth co Q kc ks D cs a1 a2 I1 I2 [(3, .int (zi ((6 * t : Nat) : Int))), (2, .ref (a2 0)), (1, .ref (a1 0)), (0, .ref b)] 194 [] := by
  refine mL_aloadn (nx := 195) X 2 d_law_194 rfl rfl ?_
  refine mL_aloadn (nx := 196) X 3 d_law_195 rfl rfl ?_
  refine mL_iloadn (nx := 197) X 0 d_law_196 rfl rfl ?_
  refine mL_iconst (nx := 198) X d_law_197 rfl ?_
  refine mL_iadd (nx := 199) X d_law_198 rfl ?_
  refine mL_sld (nx := 200) (j := 6 * t + 1) X (by omega) (by omega) (by omega) (by omega) d_law_199 rfl ?_
  refine mL_aloadn (nx := 201) X 3 d_law_200 rfl rfl ?_
  refine mL_iloadn (nx := 202) X 0 d_law_201 rfl rfl ?_
  refine mL_iconst (nx := 203) X d_law_202 rfl ?_
  refine mL_iadd (nx := 204) X d_law_203 rfl ?_
  refine mL_sld (nx := 205) (j := 6 * t + 2) X (by omega) (by omega) (by omega) (by omega) d_law_204 rfl ?_
  refine mL_callX (nx := 208) (n := 2) (As := [.int (zi (sx xs (6 * t + 1))), .int (zi (sx xs (6 * t + 2)))]) (rest := []) X (c_CM_told l D cs a1 zt X.i1 c I1 h1 (sx xs (6 * t + 1)) (sx_b _ _) (sx xs (6 * t + 2)) (sx_b _ _)) (g_CM_told wd_336) rfl ⟨rfl, rfl⟩ (by decide +kernel) ⟨Nat.le_of_ble_eq_true rfl, Nat.le_of_ble_eq_true rfl⟩ rfl (Nat.le_of_ble_eq_true rfl) rfl hkc d_law_205 rfl (fun r1 J1 hp1 => ?_)
  refine mL_aloadn (nx := 209) X 1 d_law_208 rfl rfl ?_
  refine mL_aloadn (nx := 210) X 3 d_law_209 rfl rfl ?_
  refine mL_iloadn (nx := 211) X 0 d_law_210 rfl rfl ?_
  refine mL_iconst (nx := 212) X d_law_211 rfl ?_
  refine mL_iadd (nx := 213) X d_law_212 rfl ?_
  refine mL_sld (nx := 214) (j := 6 * t + 1) X (by omega) (by omega) (by omega) (by omega) d_law_213 rfl ?_
  refine mL_aloadn (nx := 215) X 3 d_law_214 rfl rfl ?_
  refine mL_iloadn (nx := 216) X 0 d_law_215 rfl rfl ?_
  refine mL_iconst (nx := 217) X d_law_216 rfl ?_
  refine mL_iadd (nx := 218) X d_law_217 rfl ?_
  refine mL_sld (nx := 219) (j := 6 * t + 2) X (by omega) (by omega) (by omega) (by omega) d_law_218 rfl ?_
  refine mL_callM (nx := 222) (n := 2) (As := [.int (zi (sx xs (6 * t + 1))), .int (zi (sx xs (6 * t + 2)))]) (rest := [.int (zi r1)]) X (c_Mo_told l D cs a2 X.i2 c I2 h2 (sx xs (6 * t + 1)) (sx_b _ _) (sx xs (6 * t + 2)) (sx_b _ _)) (g_Mo_told wd_691) rfl ⟨rfl, rfl⟩ (by decide +kernel) ⟨Nat.le_of_ble_eq_true rfl, Nat.le_of_ble_eq_true rfl⟩ rfl (Nat.le_of_ble_eq_true rfl) rfl hkc d_law_219 rfl (fun r2 J2 hp2 => ?_)
  refine mL_eq (tgt := 658) X d_law_222 (by decide) (hp1.1.trans hp2.1.symm) ?_
  exact hgo _ J1 J2 hp1.2 hp2.2

set_option maxHeartbeats 4000000 in
set_option maxRecDepth 100000 in
theorem law_3 {p : Program} {l : Launch} {e : Env} {s : State} {m : MethodId} {b L : Nat} {xs : Nat → Int32} {below : List Frame} {meth : Method} {co : Code} {Q : State → Prop} {kc ks : Nat} {D : va_G} {cs : Nat → ClassId} {a1 a2 : Nat → Nat} {zt : Nat} (X : mL_X p m co s b L xs D cs a1 a2 zt) (hkc : kc ≤ room_1.cells ∧ ks ≤ room_1.slots) (hL : L ≤ 3072) {t : Nat} (ht : 6 * t + 6 ≤ L) {c I1 I2 : Wo} (h1 : cmR c I1) (h2 : moR c I2) (hgo : ∀ d J1 J2, cmR d J1 → moR d J2 → mL_A p l e s m b below meth co Q kc ks D cs a1 a2 J1 J2 [(3, .int (zi ((6 * t : Nat) : Int))), (2, .ref (a2 0)), (1, .ref (a1 0)), (0, .ref b)] 658 []) : mL_A p l e s m b below meth co Q kc ks D cs a1 a2 I1 I2 [(3, .int (zi ((6 * t : Nat) : Int))), (2, .ref (a2 0)), (1, .ref (a1 0)), (0, .ref b)] 227 [] := by
  refine mL_aloadn (nx := 228) X 2 d_law_227 rfl rfl ?_
  refine mL_aloadn (nx := 229) X 3 d_law_228 rfl rfl ?_
  refine mL_iloadn (nx := 230) X 0 d_law_229 rfl rfl ?_
  refine mL_iconst (nx := 231) X d_law_230 rfl ?_
  refine mL_iadd (nx := 232) X d_law_231 rfl ?_
  refine mL_sld (nx := 233) (j := 6 * t + 1) X (by omega) (by omega) (by omega) (by omega) d_law_232 rfl ?_
  refine mL_callX (nx := 236) (n := 1) (As := [.int (zi (sx xs (6 * t + 1)))]) (rest := []) X (c_CM_cut l D cs a1 zt X.i1 c I1 h1 (sx xs (6 * t + 1)) (sx_b _ _)) (g_CM_cut wd_340) rfl ⟨rfl, rfl⟩ (by decide +kernel) ⟨Nat.le_of_ble_eq_true rfl, Nat.le_of_ble_eq_true rfl⟩ rfl (Nat.le_of_ble_eq_true rfl) rfl hkc d_law_233 rfl (fun r1 J1 hp1 => ?_)
  refine mL_aloadn (nx := 237) X 1 d_law_236 rfl rfl ?_
  refine mL_aloadn (nx := 238) X 3 d_law_237 rfl rfl ?_
  refine mL_iloadn (nx := 239) X 0 d_law_238 rfl rfl ?_
  refine mL_iconst (nx := 240) X d_law_239 rfl ?_
  refine mL_iadd (nx := 241) X d_law_240 rfl ?_
  refine mL_sld (nx := 242) (j := 6 * t + 1) X (by omega) (by omega) (by omega) (by omega) d_law_241 rfl ?_
  refine mL_callM (nx := 245) (n := 1) (As := [.int (zi (sx xs (6 * t + 1)))]) (rest := [.int (zi r1)]) X (c_Mo_cut l D cs a2 X.i2 c I2 h2 (sx xs (6 * t + 1)) (sx_b _ _)) (g_Mo_cut wd_695) rfl ⟨rfl, rfl⟩ (by decide +kernel) ⟨Nat.le_of_ble_eq_true rfl, Nat.le_of_ble_eq_true rfl⟩ rfl (Nat.le_of_ble_eq_true rfl) rfl hkc d_law_242 rfl (fun r2 J2 hp2 => ?_)
  refine mL_eq (tgt := 658) X d_law_245 (by decide) (hp1.1.trans hp2.1.symm) ?_
  exact hgo _ J1 J2 hp1.2 hp2.2

set_option maxHeartbeats 4000000 in
set_option maxRecDepth 100000 in
theorem law_4 {p : Program} {l : Launch} {e : Env} {s : State} {m : MethodId} {b L : Nat} {xs : Nat → Int32} {below : List Frame} {meth : Method} {co : Code} {Q : State → Prop} {kc ks : Nat} {D : va_G} {cs : Nat → ClassId} {a1 a2 : Nat → Nat} {zt : Nat} (X : mL_X p m co s b L xs D cs a1 a2 zt) (hkc : kc ≤ room_1.cells ∧ ks ≤ room_1.slots) (hL : L ≤ 3072) {t : Nat} (ht : 6 * t + 6 ≤ L) {c I1 I2 : Wo} (h1 : cmR c I1) (h2 : moR c I2) (hgo : ∀ d J1 J2, cmR d J1 → moR d J2 → mL_A p l e s m b below meth co Q kc ks D cs a1 a2 J1 J2 [(3, .int (zi ((6 * t : Nat) : Int))), (2, .ref (a2 0)), (1, .ref (a1 0)), (0, .ref b)] 658 []) : mL_A p l e s m b below meth co Q kc ks D cs a1 a2 I1 I2 [(3, .int (zi ((6 * t : Nat) : Int))), (2, .ref (a2 0)), (1, .ref (a1 0)), (0, .ref b)] 250 [] := by
  refine mL_aloadn (nx := 251) X 2 d_law_250 rfl rfl ?_
  refine mL_callX (nx := 254) (n := 0) (As := []) (rest := []) X (c_CM_size l D cs a1 zt X.i1 c I1 h1 ) (g_CM_size wd_344) rfl ⟨rfl, rfl⟩ (by decide +kernel) ⟨Nat.le_of_ble_eq_true rfl, Nat.le_of_ble_eq_true rfl⟩ rfl (Nat.le_of_ble_eq_true rfl) rfl hkc d_law_251 rfl (fun r1 J1 hp1 => ?_)
  refine mL_aloadn (nx := 255) X 1 d_law_254 rfl rfl ?_
  refine mL_callM (nx := 258) (n := 0) (As := []) (rest := [.int (zi r1)]) X (c_Mo_size l D cs a2 X.i2 c I2 h2 ) (g_Mo_size wd_699) rfl ⟨rfl, rfl⟩ (by decide +kernel) ⟨Nat.le_of_ble_eq_true rfl, Nat.le_of_ble_eq_true rfl⟩ rfl (Nat.le_of_ble_eq_true rfl) rfl hkc d_law_255 rfl (fun r2 J2 hp2 => ?_)
  obtain ⟨q1, q2⟩ := hp2
  subst q1
  refine mL_eq (tgt := 658) X d_law_258 (by decide) (hp1.1.trans q2.symm) ?_
  exact hgo c J1 I2 hp1.2 h2

set_option maxHeartbeats 4000000 in
set_option maxRecDepth 100000 in
theorem law_5 {p : Program} {l : Launch} {e : Env} {s : State} {m : MethodId} {b L : Nat} {xs : Nat → Int32} {below : List Frame} {meth : Method} {co : Code} {Q : State → Prop} {kc ks : Nat} {D : va_G} {cs : Nat → ClassId} {a1 a2 : Nat → Nat} {zt : Nat} (X : mL_X p m co s b L xs D cs a1 a2 zt) (hkc : kc ≤ room_1.cells ∧ ks ≤ room_1.slots) (hL : L ≤ 3072) {t : Nat} (ht : 6 * t + 6 ≤ L) {c I1 I2 : Wo} (h1 : cmR c I1) (h2 : moR c I2) (hgo : ∀ d J1 J2, cmR d J1 → moR d J2 → mL_A p l e s m b below meth co Q kc ks D cs a1 a2 J1 J2 [(3, .int (zi ((6 * t : Nat) : Int))), (2, .ref (a2 0)), (1, .ref (a1 0)), (0, .ref b)] 658 []) : mL_A p l e s m b below meth co Q kc ks D cs a1 a2 I1 I2 [(3, .int (zi ((6 * t : Nat) : Int))), (2, .ref (a2 0)), (1, .ref (a1 0)), (0, .ref b)] 263 [] := by
  refine mL_aloadn (nx := 264) X 2 d_law_263 rfl rfl ?_
  refine mL_aloadn (nx := 265) X 3 d_law_264 rfl rfl ?_
  refine mL_iloadn (nx := 266) X 0 d_law_265 rfl rfl ?_
  refine mL_iconst (nx := 267) X d_law_266 rfl ?_
  refine mL_iadd (nx := 268) X d_law_267 rfl ?_
  refine mL_sld (nx := 269) (j := 6 * t + 1) X (by omega) (by omega) (by omega) (by omega) d_law_268 rfl ?_
  refine mL_aloadn (nx := 270) X 3 d_law_269 rfl rfl ?_
  refine mL_iloadn (nx := 271) X 0 d_law_270 rfl rfl ?_
  refine mL_iconst (nx := 272) X d_law_271 rfl ?_
  refine mL_iadd (nx := 273) X d_law_272 rfl ?_
  refine mL_sld (nx := 274) (j := 6 * t + 2) X (by omega) (by omega) (by omega) (by omega) d_law_273 rfl ?_
  refine mL_aloadn (nx := 275) X 3 d_law_274 rfl rfl ?_
  refine mL_iloadn (nx := 276) X 0 d_law_275 rfl rfl ?_
  refine mL_iconst (nx := 277) X d_law_276 rfl ?_
  refine mL_iadd (nx := 278) X d_law_277 rfl ?_
  refine mL_sld (nx := 279) (j := 6 * t + 3) X (by omega) (by omega) (by omega) (by omega) d_law_278 rfl ?_
  refine mL_aloadn (nx := 280) X 3 d_law_279 rfl rfl ?_
  refine mL_iloadn (nx := 281) X 0 d_law_280 rfl rfl ?_
  refine mL_iconst (nx := 282) X d_law_281 rfl ?_
  refine mL_iadd (nx := 283) X d_law_282 rfl ?_
  refine mL_sld (nx := 284) (j := 6 * t + 4) X (by omega) (by omega) (by omega) (by omega) d_law_283 rfl ?_
  refine mL_aloadn (nx := 285) X 3 d_law_284 rfl rfl ?_
  refine mL_iloadn (nx := 286) X 0 d_law_285 rfl rfl ?_
  refine mL_iconst (nx := 287) X d_law_286 rfl ?_
  refine mL_iadd (nx := 288) X d_law_287 rfl ?_
  refine mL_sld (nx := 289) (j := 6 * t + 5) X (by omega) (by omega) (by omega) (by omega) d_law_288 rfl ?_
  refine mL_callX (nx := 292) (n := 5) (As := [.int (zi (sx xs (6 * t + 1))), .int (zi (sx xs (6 * t + 2))), .int (zi (sx xs (6 * t + 3))), .int (zi (sx xs (6 * t + 4))), .int (zi (sx xs (6 * t + 5)))]) (rest := []) X (c_CM_voice l D cs a1 zt X.i1 c I1 h1 (sx xs (6 * t + 1)) (sx_b _ _) (sx xs (6 * t + 2)) (sx_b _ _) (sx xs (6 * t + 3)) (sx_b _ _) (sx xs (6 * t + 4)) (sx_b _ _) (sx xs (6 * t + 5)) (sx_b _ _)) (g_CM_voice wd_352) rfl ⟨rfl, rfl⟩ (by decide +kernel) ⟨Nat.le_of_ble_eq_true rfl, Nat.le_of_ble_eq_true rfl⟩ rfl (Nat.le_of_ble_eq_true rfl) rfl hkc d_law_289 rfl (fun r1 J1 hp1 => ?_)
  refine mL_aloadn (nx := 293) X 1 d_law_292 rfl rfl ?_
  refine mL_aloadn (nx := 294) X 3 d_law_293 rfl rfl ?_
  refine mL_iloadn (nx := 295) X 0 d_law_294 rfl rfl ?_
  refine mL_iconst (nx := 296) X d_law_295 rfl ?_
  refine mL_iadd (nx := 297) X d_law_296 rfl ?_
  refine mL_sld (nx := 298) (j := 6 * t + 1) X (by omega) (by omega) (by omega) (by omega) d_law_297 rfl ?_
  refine mL_aloadn (nx := 299) X 3 d_law_298 rfl rfl ?_
  refine mL_iloadn (nx := 300) X 0 d_law_299 rfl rfl ?_
  refine mL_iconst (nx := 301) X d_law_300 rfl ?_
  refine mL_iadd (nx := 302) X d_law_301 rfl ?_
  refine mL_sld (nx := 303) (j := 6 * t + 2) X (by omega) (by omega) (by omega) (by omega) d_law_302 rfl ?_
  refine mL_aloadn (nx := 304) X 3 d_law_303 rfl rfl ?_
  refine mL_iloadn (nx := 305) X 0 d_law_304 rfl rfl ?_
  refine mL_iconst (nx := 306) X d_law_305 rfl ?_
  refine mL_iadd (nx := 307) X d_law_306 rfl ?_
  refine mL_sld (nx := 308) (j := 6 * t + 3) X (by omega) (by omega) (by omega) (by omega) d_law_307 rfl ?_
  refine mL_aloadn (nx := 309) X 3 d_law_308 rfl rfl ?_
  refine mL_iloadn (nx := 310) X 0 d_law_309 rfl rfl ?_
  refine mL_iconst (nx := 311) X d_law_310 rfl ?_
  refine mL_iadd (nx := 312) X d_law_311 rfl ?_
  refine mL_sld (nx := 313) (j := 6 * t + 4) X (by omega) (by omega) (by omega) (by omega) d_law_312 rfl ?_
  refine mL_aloadn (nx := 314) X 3 d_law_313 rfl rfl ?_
  refine mL_iloadn (nx := 315) X 0 d_law_314 rfl rfl ?_
  refine mL_iconst (nx := 316) X d_law_315 rfl ?_
  refine mL_iadd (nx := 317) X d_law_316 rfl ?_
  refine mL_sld (nx := 318) (j := 6 * t + 5) X (by omega) (by omega) (by omega) (by omega) d_law_317 rfl ?_
  refine mL_callM (nx := 321) (n := 5) (As := [.int (zi (sx xs (6 * t + 1))), .int (zi (sx xs (6 * t + 2))), .int (zi (sx xs (6 * t + 3))), .int (zi (sx xs (6 * t + 4))), .int (zi (sx xs (6 * t + 5)))]) (rest := [.int (zi r1)]) X (c_Mo_voice l D cs a2 X.i2 c I2 h2 (sx xs (6 * t + 1)) (sx_b _ _) (sx xs (6 * t + 2)) (sx_b _ _) (sx xs (6 * t + 3)) (sx_b _ _) (sx xs (6 * t + 4)) (sx_b _ _) (sx xs (6 * t + 5)) (sx_b _ _)) (g_Mo_voice wd_703) rfl ⟨rfl, rfl⟩ (by decide +kernel) ⟨Nat.le_of_ble_eq_true rfl, Nat.le_of_ble_eq_true rfl⟩ rfl (Nat.le_of_ble_eq_true rfl) rfl hkc d_law_318 rfl (fun r2 J2 hp2 => ?_)
  refine mL_eq (tgt := 658) X d_law_321 (by decide) (hp1.1.trans hp2.1.symm) ?_
  exact hgo _ J1 J2 hp1.2 hp2.2

set_option maxHeartbeats 4000000 in
set_option maxRecDepth 100000 in
theorem law_6 {p : Program} {l : Launch} {e : Env} {s : State} {m : MethodId} {b L : Nat} {xs : Nat → Int32} {below : List Frame} {meth : Method} {co : Code} {Q : State → Prop} {kc ks : Nat} {D : va_G} {cs : Nat → ClassId} {a1 a2 : Nat → Nat} {zt : Nat} (X : mL_X p m co s b L xs D cs a1 a2 zt) (hkc : kc ≤ room_1.cells ∧ ks ≤ room_1.slots) (hL : L ≤ 3072) {t : Nat} (ht : 6 * t + 6 ≤ L) {c I1 I2 : Wo} (h1 : cmR c I1) (h2 : moR c I2) (hgo : ∀ d J1 J2, cmR d J1 → moR d J2 → mL_A p l e s m b below meth co Q kc ks D cs a1 a2 J1 J2 [(3, .int (zi ((6 * t : Nat) : Int))), (2, .ref (a2 0)), (1, .ref (a1 0)), (0, .ref b)] 658 []) : mL_A p l e s m b below meth co Q kc ks D cs a1 a2 I1 I2 [(3, .int (zi ((6 * t : Nat) : Int))), (2, .ref (a2 0)), (1, .ref (a1 0)), (0, .ref b)] 326 [] := by
  refine mL_aloadn (nx := 327) X 2 d_law_326 rfl rfl ?_
  refine mL_aloadn (nx := 328) X 3 d_law_327 rfl rfl ?_
  refine mL_iloadn (nx := 329) X 0 d_law_328 rfl rfl ?_
  refine mL_iconst (nx := 330) X d_law_329 rfl ?_
  refine mL_iadd (nx := 331) X d_law_330 rfl ?_
  refine mL_sld (nx := 332) (j := 6 * t + 1) X (by omega) (by omega) (by omega) (by omega) d_law_331 rfl ?_
  refine mL_callX (nx := 335) (n := 1) (As := [.int (zi (sx xs (6 * t + 1)))]) (rest := []) X (c_CM_off l D cs a1 zt X.i1 c I1 h1 (sx xs (6 * t + 1)) (sx_b _ _)) (g_CM_off wd_359) rfl ⟨rfl, rfl⟩ (by decide +kernel) ⟨Nat.le_of_ble_eq_true rfl, Nat.le_of_ble_eq_true rfl⟩ rfl (Nat.le_of_ble_eq_true rfl) rfl hkc d_law_332 rfl (fun r1 J1 hp1 => ?_)
  refine mL_aloadn (nx := 336) X 1 d_law_335 rfl rfl ?_
  refine mL_aloadn (nx := 337) X 3 d_law_336 rfl rfl ?_
  refine mL_iloadn (nx := 338) X 0 d_law_337 rfl rfl ?_
  refine mL_iconst (nx := 339) X d_law_338 rfl ?_
  refine mL_iadd (nx := 340) X d_law_339 rfl ?_
  refine mL_sld (nx := 341) (j := 6 * t + 1) X (by omega) (by omega) (by omega) (by omega) d_law_340 rfl ?_
  refine mL_callM (nx := 344) (n := 1) (As := [.int (zi (sx xs (6 * t + 1)))]) (rest := [.int (zi r1)]) X (c_Mo_off l D cs a2 X.i2 c I2 h2 (sx xs (6 * t + 1)) (sx_b _ _)) (g_Mo_off wd_707) rfl ⟨rfl, rfl⟩ (by decide +kernel) ⟨Nat.le_of_ble_eq_true rfl, Nat.le_of_ble_eq_true rfl⟩ rfl (Nat.le_of_ble_eq_true rfl) rfl hkc d_law_341 rfl (fun r2 J2 hp2 => ?_)
  refine mL_eq (tgt := 658) X d_law_344 (by decide) (hp1.1.trans hp2.1.symm) ?_
  exact hgo _ J1 J2 hp1.2 hp2.2

set_option maxHeartbeats 4000000 in
set_option maxRecDepth 100000 in
theorem law_7 {p : Program} {l : Launch} {e : Env} {s : State} {m : MethodId} {b L : Nat} {xs : Nat → Int32} {below : List Frame} {meth : Method} {co : Code} {Q : State → Prop} {kc ks : Nat} {D : va_G} {cs : Nat → ClassId} {a1 a2 : Nat → Nat} {zt : Nat} (X : mL_X p m co s b L xs D cs a1 a2 zt) (hkc : kc ≤ room_1.cells ∧ ks ≤ room_1.slots) (hL : L ≤ 3072) {t : Nat} (ht : 6 * t + 6 ≤ L) {c I1 I2 : Wo} (h1 : cmR c I1) (h2 : moR c I2) (hgo : ∀ d J1 J2, cmR d J1 → moR d J2 → mL_A p l e s m b below meth co Q kc ks D cs a1 a2 J1 J2 [(3, .int (zi ((6 * t : Nat) : Int))), (2, .ref (a2 0)), (1, .ref (a1 0)), (0, .ref b)] 658 []) : mL_A p l e s m b below meth co Q kc ks D cs a1 a2 I1 I2 [(3, .int (zi ((6 * t : Nat) : Int))), (2, .ref (a2 0)), (1, .ref (a1 0)), (0, .ref b)] 349 [] := by
  refine mL_aloadn (nx := 350) X 2 d_law_349 rfl rfl ?_
  refine mL_aloadn (nx := 351) X 3 d_law_350 rfl rfl ?_
  refine mL_iloadn (nx := 352) X 0 d_law_351 rfl rfl ?_
  refine mL_iconst (nx := 353) X d_law_352 rfl ?_
  refine mL_iadd (nx := 354) X d_law_353 rfl ?_
  refine mL_sld (nx := 355) (j := 6 * t + 1) X (by omega) (by omega) (by omega) (by omega) d_law_354 rfl ?_
  refine mL_aloadn (nx := 356) X 3 d_law_355 rfl rfl ?_
  refine mL_iloadn (nx := 357) X 0 d_law_356 rfl rfl ?_
  refine mL_iconst (nx := 358) X d_law_357 rfl ?_
  refine mL_iadd (nx := 359) X d_law_358 rfl ?_
  refine mL_sld (nx := 360) (j := 6 * t + 2) X (by omega) (by omega) (by omega) (by omega) d_law_359 rfl ?_
  refine mL_callX (nx := 363) (n := 2) (As := [.int (zi (sx xs (6 * t + 1))), .int (zi (sx xs (6 * t + 2)))]) (rest := []) X (c_CM_span l D cs a1 zt X.i1 c I1 h1 (sx xs (6 * t + 1)) (sx_b _ _) (sx xs (6 * t + 2)) (sx_b _ _)) (g_CM_span wd_363) rfl ⟨rfl, rfl⟩ (by decide +kernel) ⟨Nat.le_of_ble_eq_true rfl, Nat.le_of_ble_eq_true rfl⟩ rfl (Nat.le_of_ble_eq_true rfl) rfl hkc d_law_360 rfl (fun r1 J1 hp1 => ?_)
  refine mL_aloadn (nx := 364) X 1 d_law_363 rfl rfl ?_
  refine mL_aloadn (nx := 365) X 3 d_law_364 rfl rfl ?_
  refine mL_iloadn (nx := 366) X 0 d_law_365 rfl rfl ?_
  refine mL_iconst (nx := 367) X d_law_366 rfl ?_
  refine mL_iadd (nx := 368) X d_law_367 rfl ?_
  refine mL_sld (nx := 369) (j := 6 * t + 1) X (by omega) (by omega) (by omega) (by omega) d_law_368 rfl ?_
  refine mL_aloadn (nx := 370) X 3 d_law_369 rfl rfl ?_
  refine mL_iloadn (nx := 371) X 0 d_law_370 rfl rfl ?_
  refine mL_iconst (nx := 372) X d_law_371 rfl ?_
  refine mL_iadd (nx := 373) X d_law_372 rfl ?_
  refine mL_sld (nx := 374) (j := 6 * t + 2) X (by omega) (by omega) (by omega) (by omega) d_law_373 rfl ?_
  refine mL_callM (nx := 377) (n := 2) (As := [.int (zi (sx xs (6 * t + 1))), .int (zi (sx xs (6 * t + 2)))]) (rest := [.int (zi r1)]) X (c_Mo_span l D cs a2 X.i2 c I2 h2 (sx xs (6 * t + 1)) (sx_b _ _) (sx xs (6 * t + 2)) (sx_b _ _)) (g_Mo_span wd_711) rfl ⟨rfl, rfl⟩ (by decide +kernel) ⟨Nat.le_of_ble_eq_true rfl, Nat.le_of_ble_eq_true rfl⟩ rfl (Nat.le_of_ble_eq_true rfl) rfl hkc d_law_374 rfl (fun r2 J2 hp2 => ?_)
  refine mL_eq (tgt := 658) X d_law_377 (by decide) (hp1.1.trans hp2.1.symm) ?_
  exact hgo _ J1 J2 hp1.2 hp2.2

set_option maxHeartbeats 4000000 in
set_option maxRecDepth 100000 in
theorem law_8 {p : Program} {l : Launch} {e : Env} {s : State} {m : MethodId} {b L : Nat} {xs : Nat → Int32} {below : List Frame} {meth : Method} {co : Code} {Q : State → Prop} {kc ks : Nat} {D : va_G} {cs : Nat → ClassId} {a1 a2 : Nat → Nat} {zt : Nat} (X : mL_X p m co s b L xs D cs a1 a2 zt) (hkc : kc ≤ room_1.cells ∧ ks ≤ room_1.slots) (hL : L ≤ 3072) {t : Nat} (ht : 6 * t + 6 ≤ L) {c I1 I2 : Wo} (h1 : cmR c I1) (h2 : moR c I2) (hgo : ∀ d J1 J2, cmR d J1 → moR d J2 → mL_A p l e s m b below meth co Q kc ks D cs a1 a2 J1 J2 [(3, .int (zi ((6 * t : Nat) : Int))), (2, .ref (a2 0)), (1, .ref (a1 0)), (0, .ref b)] 658 []) : mL_A p l e s m b below meth co Q kc ks D cs a1 a2 I1 I2 [(3, .int (zi ((6 * t : Nat) : Int))), (2, .ref (a2 0)), (1, .ref (a1 0)), (0, .ref b)] 382 [] := by
  refine mL_aloadn (nx := 383) X 2 d_law_382 rfl rfl ?_
  refine mL_aloadn (nx := 384) X 3 d_law_383 rfl rfl ?_
  refine mL_iloadn (nx := 385) X 0 d_law_384 rfl rfl ?_
  refine mL_iconst (nx := 386) X d_law_385 rfl ?_
  refine mL_iadd (nx := 387) X d_law_386 rfl ?_
  refine mL_sld (nx := 388) (j := 6 * t + 1) X (by omega) (by omega) (by omega) (by omega) d_law_387 rfl ?_
  refine mL_callX (nx := 391) (n := 1) (As := [.int (zi (sx xs (6 * t + 1)))]) (rest := []) X (c_CM_scale l D cs a1 zt X.i1 c I1 h1 (sx xs (6 * t + 1)) (sx_b _ _)) (g_CM_scale wd_367) rfl ⟨rfl, rfl⟩ (by decide +kernel) ⟨Nat.le_of_ble_eq_true rfl, Nat.le_of_ble_eq_true rfl⟩ rfl (Nat.le_of_ble_eq_true rfl) rfl hkc d_law_388 rfl (fun r1 J1 hp1 => ?_)
  refine mL_aloadn (nx := 392) X 1 d_law_391 rfl rfl ?_
  refine mL_aloadn (nx := 393) X 3 d_law_392 rfl rfl ?_
  refine mL_iloadn (nx := 394) X 0 d_law_393 rfl rfl ?_
  refine mL_iconst (nx := 395) X d_law_394 rfl ?_
  refine mL_iadd (nx := 396) X d_law_395 rfl ?_
  refine mL_sld (nx := 397) (j := 6 * t + 1) X (by omega) (by omega) (by omega) (by omega) d_law_396 rfl ?_
  refine mL_callM (nx := 400) (n := 1) (As := [.int (zi (sx xs (6 * t + 1)))]) (rest := [.int (zi r1)]) X (c_Mo_scale l D cs a2 X.i2 c I2 h2 (sx xs (6 * t + 1)) (sx_b _ _)) (g_Mo_scale wd_715) rfl ⟨rfl, rfl⟩ (by decide +kernel) ⟨Nat.le_of_ble_eq_true rfl, Nat.le_of_ble_eq_true rfl⟩ rfl (Nat.le_of_ble_eq_true rfl) rfl hkc d_law_397 rfl (fun r2 J2 hp2 => ?_)
  refine mL_eq (tgt := 658) X d_law_400 (by decide) (hp1.1.trans hp2.1.symm) ?_
  exact hgo _ J1 J2 hp1.2 hp2.2

set_option maxHeartbeats 4000000 in
set_option maxRecDepth 100000 in
theorem law_9 {p : Program} {l : Launch} {e : Env} {s : State} {m : MethodId} {b L : Nat} {xs : Nat → Int32} {below : List Frame} {meth : Method} {co : Code} {Q : State → Prop} {kc ks : Nat} {D : va_G} {cs : Nat → ClassId} {a1 a2 : Nat → Nat} {zt : Nat} (X : mL_X p m co s b L xs D cs a1 a2 zt) (hkc : kc ≤ room_1.cells ∧ ks ≤ room_1.slots) (hL : L ≤ 3072) {t : Nat} (ht : 6 * t + 6 ≤ L) {c I1 I2 : Wo} (h1 : cmR c I1) (h2 : moR c I2) (hgo : ∀ d J1 J2, cmR d J1 → moR d J2 → mL_A p l e s m b below meth co Q kc ks D cs a1 a2 J1 J2 [(3, .int (zi ((6 * t : Nat) : Int))), (2, .ref (a2 0)), (1, .ref (a1 0)), (0, .ref b)] 658 []) : mL_A p l e s m b below meth co Q kc ks D cs a1 a2 I1 I2 [(3, .int (zi ((6 * t : Nat) : Int))), (2, .ref (a2 0)), (1, .ref (a1 0)), (0, .ref b)] 405 [] := by
  refine mL_aloadn (nx := 406) X 2 d_law_405 rfl rfl ?_
  refine mL_aloadn (nx := 407) X 3 d_law_406 rfl rfl ?_
  refine mL_iloadn (nx := 408) X 0 d_law_407 rfl rfl ?_
  refine mL_iconst (nx := 409) X d_law_408 rfl ?_
  refine mL_iadd (nx := 410) X d_law_409 rfl ?_
  refine mL_sld (nx := 411) (j := 6 * t + 1) X (by omega) (by omega) (by omega) (by omega) d_law_410 rfl ?_
  refine mL_callX (nx := 414) (n := 1) (As := [.int (zi (sx xs (6 * t + 1)))]) (rest := []) X (c_CM_beat l D cs a1 zt X.i1 c I1 h1 (sx xs (6 * t + 1)) (sx_b _ _)) (g_CM_beat wd_371) rfl ⟨rfl, rfl⟩ (by decide +kernel) ⟨Nat.le_of_ble_eq_true rfl, Nat.le_of_ble_eq_true rfl⟩ rfl (Nat.le_of_ble_eq_true rfl) rfl hkc d_law_411 rfl (fun r1 J1 hp1 => ?_)
  refine mL_aloadn (nx := 415) X 1 d_law_414 rfl rfl ?_
  refine mL_aloadn (nx := 416) X 3 d_law_415 rfl rfl ?_
  refine mL_iloadn (nx := 417) X 0 d_law_416 rfl rfl ?_
  refine mL_iconst (nx := 418) X d_law_417 rfl ?_
  refine mL_iadd (nx := 419) X d_law_418 rfl ?_
  refine mL_sld (nx := 420) (j := 6 * t + 1) X (by omega) (by omega) (by omega) (by omega) d_law_419 rfl ?_
  refine mL_callM (nx := 423) (n := 1) (As := [.int (zi (sx xs (6 * t + 1)))]) (rest := [.int (zi r1)]) X (c_Mo_beat l D cs a2 X.i2 c I2 h2 (sx xs (6 * t + 1)) (sx_b _ _)) (g_Mo_beat wd_719) rfl ⟨rfl, rfl⟩ (by decide +kernel) ⟨Nat.le_of_ble_eq_true rfl, Nat.le_of_ble_eq_true rfl⟩ rfl (Nat.le_of_ble_eq_true rfl) rfl hkc d_law_420 rfl (fun r2 J2 hp2 => ?_)
  refine mL_eq (tgt := 658) X d_law_423 (by decide) (hp1.1.trans hp2.1.symm) ?_
  exact hgo _ J1 J2 hp1.2 hp2.2

set_option maxHeartbeats 4000000 in
set_option maxRecDepth 100000 in
theorem law_10 {p : Program} {l : Launch} {e : Env} {s : State} {m : MethodId} {b L : Nat} {xs : Nat → Int32} {below : List Frame} {meth : Method} {co : Code} {Q : State → Prop} {kc ks : Nat} {D : va_G} {cs : Nat → ClassId} {a1 a2 : Nat → Nat} {zt : Nat} (X : mL_X p m co s b L xs D cs a1 a2 zt) (hkc : kc ≤ room_1.cells ∧ ks ≤ room_1.slots) (hL : L ≤ 3072) {t : Nat} (ht : 6 * t + 6 ≤ L) {c I1 I2 : Wo} (h1 : cmR c I1) (h2 : moR c I2) (hgo : ∀ d J1 J2, cmR d J1 → moR d J2 → mL_A p l e s m b below meth co Q kc ks D cs a1 a2 J1 J2 [(3, .int (zi ((6 * t : Nat) : Int))), (2, .ref (a2 0)), (1, .ref (a1 0)), (0, .ref b)] 658 []) : mL_A p l e s m b below meth co Q kc ks D cs a1 a2 I1 I2 [(3, .int (zi ((6 * t : Nat) : Int))), (2, .ref (a2 0)), (1, .ref (a1 0)), (0, .ref b)] 428 [] := by
  refine mL_aloadn (nx := 429) X 2 d_law_428 rfl rfl ?_
  refine mL_aloadn (nx := 430) X 3 d_law_429 rfl rfl ?_
  refine mL_iloadn (nx := 431) X 0 d_law_430 rfl rfl ?_
  refine mL_iconst (nx := 432) X d_law_431 rfl ?_
  refine mL_iadd (nx := 433) X d_law_432 rfl ?_
  refine mL_sld (nx := 434) (j := 6 * t + 1) X (by omega) (by omega) (by omega) (by omega) d_law_433 rfl ?_
  refine mL_callX (nx := 437) (n := 1) (As := [.int (zi (sx xs (6 * t + 1)))]) (rest := []) X (c_CM_round l D cs a1 zt X.i1 c I1 h1 (sx xs (6 * t + 1)) (sx_b _ _)) (g_CM_round wd_375) rfl ⟨rfl, rfl⟩ (by decide +kernel) ⟨Nat.le_of_ble_eq_true rfl, Nat.le_of_ble_eq_true rfl⟩ rfl (Nat.le_of_ble_eq_true rfl) rfl hkc d_law_434 rfl (fun r1 J1 hp1 => ?_)
  refine mL_aloadn (nx := 438) X 1 d_law_437 rfl rfl ?_
  refine mL_aloadn (nx := 439) X 3 d_law_438 rfl rfl ?_
  refine mL_iloadn (nx := 440) X 0 d_law_439 rfl rfl ?_
  refine mL_iconst (nx := 441) X d_law_440 rfl ?_
  refine mL_iadd (nx := 442) X d_law_441 rfl ?_
  refine mL_sld (nx := 443) (j := 6 * t + 1) X (by omega) (by omega) (by omega) (by omega) d_law_442 rfl ?_
  refine mL_callM (nx := 446) (n := 1) (As := [.int (zi (sx xs (6 * t + 1)))]) (rest := [.int (zi r1)]) X (c_Mo_round l D cs a2 X.i2 c I2 h2 (sx xs (6 * t + 1)) (sx_b _ _)) (g_Mo_round wd_723) rfl ⟨rfl, rfl⟩ (by decide +kernel) ⟨Nat.le_of_ble_eq_true rfl, Nat.le_of_ble_eq_true rfl⟩ rfl (Nat.le_of_ble_eq_true rfl) rfl hkc d_law_443 rfl (fun r2 J2 hp2 => ?_)
  refine mL_eq (tgt := 658) X d_law_446 (by decide) (hp1.1.trans hp2.1.symm) ?_
  exact hgo _ J1 J2 hp1.2 hp2.2

set_option maxHeartbeats 4000000 in
set_option maxRecDepth 100000 in
theorem law_11 {p : Program} {l : Launch} {e : Env} {s : State} {m : MethodId} {b L : Nat} {xs : Nat → Int32} {below : List Frame} {meth : Method} {co : Code} {Q : State → Prop} {kc ks : Nat} {D : va_G} {cs : Nat → ClassId} {a1 a2 : Nat → Nat} {zt : Nat} (X : mL_X p m co s b L xs D cs a1 a2 zt) (hkc : kc ≤ room_1.cells ∧ ks ≤ room_1.slots) (hL : L ≤ 3072) {t : Nat} (ht : 6 * t + 6 ≤ L) {c I1 I2 : Wo} (h1 : cmR c I1) (h2 : moR c I2) (hgo : ∀ d J1 J2, cmR d J1 → moR d J2 → mL_A p l e s m b below meth co Q kc ks D cs a1 a2 J1 J2 [(3, .int (zi ((6 * t : Nat) : Int))), (2, .ref (a2 0)), (1, .ref (a1 0)), (0, .ref b)] 658 []) : mL_A p l e s m b below meth co Q kc ks D cs a1 a2 I1 I2 [(3, .int (zi ((6 * t : Nat) : Int))), (2, .ref (a2 0)), (1, .ref (a1 0)), (0, .ref b)] 451 [] := by
  refine mL_aloadn (nx := 452) X 2 d_law_451 rfl rfl ?_
  refine mL_aloadn (nx := 453) X 3 d_law_452 rfl rfl ?_
  refine mL_iloadn (nx := 454) X 0 d_law_453 rfl rfl ?_
  refine mL_iconst (nx := 455) X d_law_454 rfl ?_
  refine mL_iadd (nx := 456) X d_law_455 rfl ?_
  refine mL_sld (nx := 457) (j := 6 * t + 1) X (by omega) (by omega) (by omega) (by omega) d_law_456 rfl ?_
  refine mL_callX (nx := 460) (n := 1) (As := [.int (zi (sx xs (6 * t + 1)))]) (rest := []) X (c_CM_rules l D cs a1 zt X.i1 c I1 h1 (sx xs (6 * t + 1)) (sx_b _ _)) (g_CM_rules wd_379) rfl ⟨rfl, rfl⟩ (by decide +kernel) ⟨Nat.le_of_ble_eq_true rfl, Nat.le_of_ble_eq_true rfl⟩ rfl (Nat.le_of_ble_eq_true rfl) rfl hkc d_law_457 rfl (fun r1 J1 hp1 => ?_)
  refine mL_aloadn (nx := 461) X 1 d_law_460 rfl rfl ?_
  refine mL_aloadn (nx := 462) X 3 d_law_461 rfl rfl ?_
  refine mL_iloadn (nx := 463) X 0 d_law_462 rfl rfl ?_
  refine mL_iconst (nx := 464) X d_law_463 rfl ?_
  refine mL_iadd (nx := 465) X d_law_464 rfl ?_
  refine mL_sld (nx := 466) (j := 6 * t + 1) X (by omega) (by omega) (by omega) (by omega) d_law_465 rfl ?_
  refine mL_callM (nx := 469) (n := 1) (As := [.int (zi (sx xs (6 * t + 1)))]) (rest := [.int (zi r1)]) X (c_Mo_rules l D cs a2 X.i2 c I2 h2 (sx xs (6 * t + 1)) (sx_b _ _)) (g_Mo_rules wd_727) rfl ⟨rfl, rfl⟩ (by decide +kernel) ⟨Nat.le_of_ble_eq_true rfl, Nat.le_of_ble_eq_true rfl⟩ rfl (Nat.le_of_ble_eq_true rfl) rfl hkc d_law_466 rfl (fun r2 J2 hp2 => ?_)
  refine mL_eq (tgt := 658) X d_law_469 (by decide) (hp1.1.trans hp2.1.symm) ?_
  exact hgo _ J1 J2 hp1.2 hp2.2

set_option maxHeartbeats 4000000 in
set_option maxRecDepth 100000 in
theorem law_12 {p : Program} {l : Launch} {e : Env} {s : State} {m : MethodId} {b L : Nat} {xs : Nat → Int32} {below : List Frame} {meth : Method} {co : Code} {Q : State → Prop} {kc ks : Nat} {D : va_G} {cs : Nat → ClassId} {a1 a2 : Nat → Nat} {zt : Nat} (X : mL_X p m co s b L xs D cs a1 a2 zt) (hkc : kc ≤ room_1.cells ∧ ks ≤ room_1.slots) (hL : L ≤ 3072) {t : Nat} (ht : 6 * t + 6 ≤ L) {c I1 I2 : Wo} (h1 : cmR c I1) (h2 : moR c I2) (hgo : ∀ d J1 J2, cmR d J1 → moR d J2 → mL_A p l e s m b below meth co Q kc ks D cs a1 a2 J1 J2 [(3, .int (zi ((6 * t : Nat) : Int))), (2, .ref (a2 0)), (1, .ref (a1 0)), (0, .ref b)] 658 []) : mL_A p l e s m b below meth co Q kc ks D cs a1 a2 I1 I2 [(3, .int (zi ((6 * t : Nat) : Int))), (2, .ref (a2 0)), (1, .ref (a1 0)), (0, .ref b)] 474 [] := by
  refine mL_aloadn (nx := 475) X 2 d_law_474 rfl rfl ?_
  refine mL_callX (nx := 478) (n := 0) (As := []) (rest := []) X (c_CM_end l D cs a1 zt X.i1 c I1 h1 ) (g_CM_end wd_383) rfl ⟨rfl, rfl⟩ (by decide +kernel) ⟨Nat.le_of_ble_eq_true rfl, Nat.le_of_ble_eq_true rfl⟩ rfl (Nat.le_of_ble_eq_true rfl) rfl hkc d_law_475 rfl (fun r1 J1 hp1 => ?_)
  refine mL_aloadn (nx := 479) X 1 d_law_478 rfl rfl ?_
  refine mL_callM (nx := 482) (n := 0) (As := []) (rest := [.int (zi r1)]) X (c_Mo_end l D cs a2 X.i2 c I2 h2 ) (g_Mo_end wd_731) rfl ⟨rfl, rfl⟩ (by decide +kernel) ⟨Nat.le_of_ble_eq_true rfl, Nat.le_of_ble_eq_true rfl⟩ rfl (Nat.le_of_ble_eq_true rfl) rfl hkc d_law_479 rfl (fun r2 J2 hp2 => ?_)
  refine mL_eq (tgt := 658) X d_law_482 (by decide) (hp1.1.trans hp2.1.symm) ?_
  exact hgo _ J1 J2 hp1.2 hp2.2

set_option maxHeartbeats 4000000 in
set_option maxRecDepth 100000 in
theorem law_13 {p : Program} {l : Launch} {e : Env} {s : State} {m : MethodId} {b L : Nat} {xs : Nat → Int32} {below : List Frame} {meth : Method} {co : Code} {Q : State → Prop} {kc ks : Nat} {D : va_G} {cs : Nat → ClassId} {a1 a2 : Nat → Nat} {zt : Nat} (X : mL_X p m co s b L xs D cs a1 a2 zt) (hkc : kc ≤ room_1.cells ∧ ks ≤ room_1.slots) (hL : L ≤ 3072) {t : Nat} (ht : 6 * t + 6 ≤ L) {c I1 I2 : Wo} (h1 : cmR c I1) (h2 : moR c I2) (hgo : ∀ d J1 J2, cmR d J1 → moR d J2 → mL_A p l e s m b below meth co Q kc ks D cs a1 a2 J1 J2 [(3, .int (zi ((6 * t : Nat) : Int))), (2, .ref (a2 0)), (1, .ref (a1 0)), (0, .ref b)] 658 []) : mL_A p l e s m b below meth co Q kc ks D cs a1 a2 I1 I2 [(3, .int (zi ((6 * t : Nat) : Int))), (2, .ref (a2 0)), (1, .ref (a1 0)), (0, .ref b)] 487 [] := by
  refine mL_aloadn (nx := 488) X 2 d_law_487 rfl rfl ?_
  refine mL_aloadn (nx := 489) X 3 d_law_488 rfl rfl ?_
  refine mL_iloadn (nx := 490) X 0 d_law_489 rfl rfl ?_
  refine mL_iconst (nx := 491) X d_law_490 rfl ?_
  refine mL_iadd (nx := 492) X d_law_491 rfl ?_
  refine mL_sld (nx := 493) (j := 6 * t + 1) X (by omega) (by omega) (by omega) (by omega) d_law_492 rfl ?_
  refine mL_aloadn (nx := 494) X 3 d_law_493 rfl rfl ?_
  refine mL_iloadn (nx := 495) X 0 d_law_494 rfl rfl ?_
  refine mL_iconst (nx := 496) X d_law_495 rfl ?_
  refine mL_iadd (nx := 497) X d_law_496 rfl ?_
  refine mL_sld (nx := 498) (j := 6 * t + 2) X (by omega) (by omega) (by omega) (by omega) d_law_497 rfl ?_
  refine mL_callX (nx := 501) (n := 2) (As := [.int (zi (sx xs (6 * t + 1))), .int (zi (sx xs (6 * t + 2)))]) (rest := []) X (c_CM_at l D cs a1 zt X.i1 c I1 h1 (sx xs (6 * t + 1)) (sx_b _ _) (sx xs (6 * t + 2)) (sx_b _ _)) (g_CM_at wd_394) rfl ⟨rfl, rfl⟩ (by decide +kernel) ⟨Nat.le_of_ble_eq_true rfl, Nat.le_of_ble_eq_true rfl⟩ rfl (Nat.le_of_ble_eq_true rfl) rfl hkc d_law_498 rfl (fun r1 J1 hp1 => ?_)
  refine mL_aloadn (nx := 502) X 1 d_law_501 rfl rfl ?_
  refine mL_aloadn (nx := 503) X 3 d_law_502 rfl rfl ?_
  refine mL_iloadn (nx := 504) X 0 d_law_503 rfl rfl ?_
  refine mL_iconst (nx := 505) X d_law_504 rfl ?_
  refine mL_iadd (nx := 506) X d_law_505 rfl ?_
  refine mL_sld (nx := 507) (j := 6 * t + 1) X (by omega) (by omega) (by omega) (by omega) d_law_506 rfl ?_
  refine mL_aloadn (nx := 508) X 3 d_law_507 rfl rfl ?_
  refine mL_iloadn (nx := 509) X 0 d_law_508 rfl rfl ?_
  refine mL_iconst (nx := 510) X d_law_509 rfl ?_
  refine mL_iadd (nx := 511) X d_law_510 rfl ?_
  refine mL_sld (nx := 512) (j := 6 * t + 2) X (by omega) (by omega) (by omega) (by omega) d_law_511 rfl ?_
  refine mL_callM (nx := 515) (n := 2) (As := [.int (zi (sx xs (6 * t + 1))), .int (zi (sx xs (6 * t + 2)))]) (rest := [.int (zi r1)]) X (c_Mo_at l D cs a2 X.i2 c I2 h2 (sx xs (6 * t + 1)) (sx_b _ _) (sx xs (6 * t + 2)) (sx_b _ _)) (g_Mo_at wd_744) rfl ⟨rfl, rfl⟩ (by decide +kernel) ⟨Nat.le_of_ble_eq_true rfl, Nat.le_of_ble_eq_true rfl⟩ rfl (Nat.le_of_ble_eq_true rfl) rfl hkc d_law_512 rfl (fun r2 J2 hp2 => ?_)
  refine mL_eq (tgt := 658) X d_law_515 (by decide) (hp1.1.trans hp2.1.symm) ?_
  exact hgo _ J1 J2 hp1.2 hp2.2

set_option maxHeartbeats 4000000 in
set_option maxRecDepth 100000 in
theorem law_14 {p : Program} {l : Launch} {e : Env} {s : State} {m : MethodId} {b L : Nat} {xs : Nat → Int32} {below : List Frame} {meth : Method} {co : Code} {Q : State → Prop} {kc ks : Nat} {D : va_G} {cs : Nat → ClassId} {a1 a2 : Nat → Nat} {zt : Nat} (X : mL_X p m co s b L xs D cs a1 a2 zt) (hkc : kc ≤ room_1.cells ∧ ks ≤ room_1.slots) (hL : L ≤ 3072) {t : Nat} (ht : 6 * t + 6 ≤ L) {c I1 I2 : Wo} (h1 : cmR c I1) (h2 : moR c I2) (hgo : ∀ d J1 J2, cmR d J1 → moR d J2 → mL_A p l e s m b below meth co Q kc ks D cs a1 a2 J1 J2 [(3, .int (zi ((6 * t : Nat) : Int))), (2, .ref (a2 0)), (1, .ref (a1 0)), (0, .ref b)] 658 []) : mL_A p l e s m b below meth co Q kc ks D cs a1 a2 I1 I2 [(3, .int (zi ((6 * t : Nat) : Int))), (2, .ref (a2 0)), (1, .ref (a1 0)), (0, .ref b)] 520 [] := by
  refine mL_aloadn (nx := 521) X 2 d_law_520 rfl rfl ?_
  refine mL_callX (nx := 524) (n := 0) (As := []) (rest := []) X (c_CM_faults l D cs a1 zt X.i1 c I1 h1 ) (g_CM_faults wd_428) rfl ⟨rfl, rfl⟩ (by decide +kernel) ⟨Nat.le_of_ble_eq_true rfl, Nat.le_of_ble_eq_true rfl⟩ rfl (Nat.le_of_ble_eq_true rfl) rfl hkc d_law_521 rfl (fun r1 J1 hp1 => ?_)
  refine mL_aloadn (nx := 525) X 1 d_law_524 rfl rfl ?_
  refine mL_callM (nx := 528) (n := 0) (As := []) (rest := [.int (zi r1)]) X (c_Mo_faults l D cs a2 X.i2 c I2 h2 ) (g_Mo_faults wd_760) rfl ⟨rfl, rfl⟩ (by decide +kernel) ⟨Nat.le_of_ble_eq_true rfl, Nat.le_of_ble_eq_true rfl⟩ rfl (Nat.le_of_ble_eq_true rfl) rfl hkc d_law_525 rfl (fun r2 J2 hp2 => ?_)
  refine mL_eq (tgt := 658) X d_law_528 (by decide) (fltR_fun hp1.1 hp2.2) ?_
  exact hgo c J1 J2 hp1.2 hp2.1

set_option maxHeartbeats 4000000 in
set_option maxRecDepth 100000 in
theorem law_15 {p : Program} {l : Launch} {e : Env} {s : State} {m : MethodId} {b L : Nat} {xs : Nat → Int32} {below : List Frame} {meth : Method} {co : Code} {Q : State → Prop} {kc ks : Nat} {D : va_G} {cs : Nat → ClassId} {a1 a2 : Nat → Nat} {zt : Nat} (X : mL_X p m co s b L xs D cs a1 a2 zt) (hkc : kc ≤ room_1.cells ∧ ks ≤ room_1.slots) (hL : L ≤ 3072) {t : Nat} (ht : 6 * t + 6 ≤ L) {c I1 I2 : Wo} (h1 : cmR c I1) (h2 : moR c I2) (hgo : ∀ d J1 J2, cmR d J1 → moR d J2 → mL_A p l e s m b below meth co Q kc ks D cs a1 a2 J1 J2 [(3, .int (zi ((6 * t : Nat) : Int))), (2, .ref (a2 0)), (1, .ref (a1 0)), (0, .ref b)] 658 []) : mL_A p l e s m b below meth co Q kc ks D cs a1 a2 I1 I2 [(3, .int (zi ((6 * t : Nat) : Int))), (2, .ref (a2 0)), (1, .ref (a1 0)), (0, .ref b)] 533 [] := by
  refine mL_aloadn (nx := 534) X 2 d_law_533 rfl rfl ?_
  refine mL_aloadn (nx := 535) X 3 d_law_534 rfl rfl ?_
  refine mL_iloadn (nx := 536) X 0 d_law_535 rfl rfl ?_
  refine mL_iconst (nx := 537) X d_law_536 rfl ?_
  refine mL_iadd (nx := 538) X d_law_537 rfl ?_
  refine mL_sld (nx := 539) (j := 6 * t + 1) X (by omega) (by omega) (by omega) (by omega) d_law_538 rfl ?_
  refine mL_aloadn (nx := 540) X 3 d_law_539 rfl rfl ?_
  refine mL_iloadn (nx := 541) X 0 d_law_540 rfl rfl ?_
  refine mL_iconst (nx := 542) X d_law_541 rfl ?_
  refine mL_iadd (nx := 543) X d_law_542 rfl ?_
  refine mL_sld (nx := 544) (j := 6 * t + 2) X (by omega) (by omega) (by omega) (by omega) d_law_543 rfl ?_
  refine mL_callX (nx := 547) (n := 2) (As := [.int (zi (sx xs (6 * t + 1))), .int (zi (sx xs (6 * t + 2)))]) (rest := []) X (c_CM_fault l D cs a1 zt X.i1 c I1 h1 (sx xs (6 * t + 1)) (sx_b _ _) (sx xs (6 * t + 2)) (sx_b _ _)) (g_CM_fault wd_542) rfl ⟨rfl, rfl⟩ (by decide +kernel) ⟨Nat.le_of_ble_eq_true rfl, Nat.le_of_ble_eq_true rfl⟩ rfl (Nat.le_of_ble_eq_true rfl) rfl hkc d_law_544 rfl (fun r1 J1 hp1 => ?_)
  refine mL_aloadn (nx := 548) X 1 d_law_547 rfl rfl ?_
  refine mL_aloadn (nx := 549) X 3 d_law_548 rfl rfl ?_
  refine mL_iloadn (nx := 550) X 0 d_law_549 rfl rfl ?_
  refine mL_iconst (nx := 551) X d_law_550 rfl ?_
  refine mL_iadd (nx := 552) X d_law_551 rfl ?_
  refine mL_sld (nx := 553) (j := 6 * t + 1) X (by omega) (by omega) (by omega) (by omega) d_law_552 rfl ?_
  refine mL_aloadn (nx := 554) X 3 d_law_553 rfl rfl ?_
  refine mL_iloadn (nx := 555) X 0 d_law_554 rfl rfl ?_
  refine mL_iconst (nx := 556) X d_law_555 rfl ?_
  refine mL_iadd (nx := 557) X d_law_556 rfl ?_
  refine mL_sld (nx := 558) (j := 6 * t + 2) X (by omega) (by omega) (by omega) (by omega) d_law_557 rfl ?_
  refine mL_callM (nx := 561) (n := 2) (As := [.int (zi (sx xs (6 * t + 1))), .int (zi (sx xs (6 * t + 2)))]) (rest := [.int (zi r1)]) X (c_Mo_fault l D cs a2 X.i2 c I2 h2 (sx xs (6 * t + 1)) (sx_b _ _) (sx xs (6 * t + 2)) (sx_b _ _)) (g_Mo_fault wd_803) rfl ⟨rfl, rfl⟩ (by decide +kernel) ⟨Nat.le_of_ble_eq_true rfl, Nat.le_of_ble_eq_true rfl⟩ rfl (Nat.le_of_ble_eq_true rfl) rfl hkc d_law_558 rfl (fun r2 J2 hp2 => ?_)
  refine mL_eq (tgt := 658) X d_law_561 (by decide) (ftR_fun hp1.1 hp2.1) ?_
  exact hgo c J1 J2 hp1.2 hp2.2

set_option maxHeartbeats 4000000 in
set_option maxRecDepth 100000 in
theorem law_16 {p : Program} {l : Launch} {e : Env} {s : State} {m : MethodId} {b L : Nat} {xs : Nat → Int32} {below : List Frame} {meth : Method} {co : Code} {Q : State → Prop} {kc ks : Nat} {D : va_G} {cs : Nat → ClassId} {a1 a2 : Nat → Nat} {zt : Nat} (X : mL_X p m co s b L xs D cs a1 a2 zt) (hkc : kc ≤ room_1.cells ∧ ks ≤ room_1.slots) (hL : L ≤ 3072) {t : Nat} (ht : 6 * t + 6 ≤ L) {c I1 I2 : Wo} (h1 : cmR c I1) (h2 : moR c I2) (hgo : ∀ d J1 J2, cmR d J1 → moR d J2 → mL_A p l e s m b below meth co Q kc ks D cs a1 a2 J1 J2 [(3, .int (zi ((6 * t : Nat) : Int))), (2, .ref (a2 0)), (1, .ref (a1 0)), (0, .ref b)] 658 []) : mL_A p l e s m b below meth co Q kc ks D cs a1 a2 I1 I2 [(3, .int (zi ((6 * t : Nat) : Int))), (2, .ref (a2 0)), (1, .ref (a1 0)), (0, .ref b)] 566 [] := by
  refine mL_aloadn (nx := 567) X 2 d_law_566 rfl rfl ?_
  refine mL_aloadn (nx := 568) X 3 d_law_567 rfl rfl ?_
  refine mL_iloadn (nx := 569) X 0 d_law_568 rfl rfl ?_
  refine mL_iconst (nx := 570) X d_law_569 rfl ?_
  refine mL_iadd (nx := 571) X d_law_570 rfl ?_
  refine mL_sld (nx := 572) (j := 6 * t + 1) X (by omega) (by omega) (by omega) (by omega) d_law_571 rfl ?_
  refine mL_callX (nx := 575) (n := 1) (As := [.int (zi (sx xs (6 * t + 1)))]) (rest := []) X (c_CM_solve l D cs a1 zt X.i1 c I1 h1 (sx xs (6 * t + 1)) (sx_b _ _)) (g_CM_solve wd_546) rfl ⟨rfl, rfl⟩ (by decide +kernel) ⟨Nat.le_of_ble_eq_true rfl, Nat.le_of_ble_eq_true rfl⟩ rfl (Nat.le_of_ble_eq_true rfl) rfl hkc d_law_572 rfl (fun r1 J1 hp1 => ?_)
  refine mL_aloadn (nx := 576) X 1 d_law_575 rfl rfl ?_
  refine mL_aloadn (nx := 577) X 3 d_law_576 rfl rfl ?_
  refine mL_iloadn (nx := 578) X 0 d_law_577 rfl rfl ?_
  refine mL_iconst (nx := 579) X d_law_578 rfl ?_
  refine mL_iadd (nx := 580) X d_law_579 rfl ?_
  refine mL_sld (nx := 581) (j := 6 * t + 1) X (by omega) (by omega) (by omega) (by omega) d_law_580 rfl ?_
  refine mL_callM (nx := 584) (n := 1) (As := [.int (zi (sx xs (6 * t + 1)))]) (rest := [.int (zi r1)]) X (c_Mo_solve l D cs a2 X.i2 c I2 h2 (sx xs (6 * t + 1)) (sx_b _ _)) (g_Mo_solve wd_807) rfl ⟨rfl, rfl⟩ (by decide +kernel) ⟨Nat.le_of_ble_eq_true rfl, Nat.le_of_ble_eq_true rfl⟩ rfl (Nat.le_of_ble_eq_true rfl) rfl hkc d_law_581 rfl (fun r2 J2 hp2 => ?_)
  obtain ⟨d1, s1, R1⟩ := hp1
  obtain ⟨d2, s2, R2⟩ := hp2
  obtain ⟨e1, e2⟩ := slvR_fun s1 s2
  subst e2
  refine mL_eq (tgt := 658) X d_law_584 (by decide) (e1) ?_
  exact hgo d1 J1 J2 R1 R2

set_option maxHeartbeats 4000000 in
set_option maxRecDepth 100000 in
theorem law_17 {p : Program} {l : Launch} {e : Env} {s : State} {m : MethodId} {b L : Nat} {xs : Nat → Int32} {below : List Frame} {meth : Method} {co : Code} {Q : State → Prop} {kc ks : Nat} {D : va_G} {cs : Nat → ClassId} {a1 a2 : Nat → Nat} {zt : Nat} (X : mL_X p m co s b L xs D cs a1 a2 zt) (hkc : kc ≤ room_1.cells ∧ ks ≤ room_1.slots) (hL : L ≤ 3072) {t : Nat} (ht : 6 * t + 6 ≤ L) {c I1 I2 : Wo} (h1 : cmR c I1) (h2 : moR c I2) (hgo : ∀ d J1 J2, cmR d J1 → moR d J2 → mL_A p l e s m b below meth co Q kc ks D cs a1 a2 J1 J2 [(3, .int (zi ((6 * t : Nat) : Int))), (2, .ref (a2 0)), (1, .ref (a1 0)), (0, .ref b)] 658 []) : mL_A p l e s m b below meth co Q kc ks D cs a1 a2 I1 I2 [(3, .int (zi ((6 * t : Nat) : Int))), (2, .ref (a2 0)), (1, .ref (a1 0)), (0, .ref b)] 589 [] := by
  refine mL_aloadn (nx := 590) X 2 d_law_589 rfl rfl ?_
  refine mL_callX (nx := 593) (n := 0) (As := []) (rest := []) X (c_CM_steps l D cs a1 zt X.i1 c I1 h1 ) (g_CM_steps wd_562) rfl ⟨rfl, rfl⟩ (by decide +kernel) ⟨Nat.le_of_ble_eq_true rfl, Nat.le_of_ble_eq_true rfl⟩ rfl (Nat.le_of_ble_eq_true rfl) rfl hkc d_law_590 rfl (fun r1 J1 hp1 => ?_)
  refine mL_aloadn (nx := 594) X 1 d_law_593 rfl rfl ?_
  refine mL_callM (nx := 597) (n := 0) (As := []) (rest := [.int (zi r1)]) X (c_Mo_steps l D cs a2 X.i2 c I2 h2 ) (g_Mo_steps wd_815) rfl ⟨rfl, rfl⟩ (by decide +kernel) ⟨Nat.le_of_ble_eq_true rfl, Nat.le_of_ble_eq_true rfl⟩ rfl (Nat.le_of_ble_eq_true rfl) rfl hkc d_law_594 rfl (fun r2 J2 hp2 => ?_)
  refine mL_eq (tgt := 658) X d_law_597 (by decide) (hp1.1.trans hp2.1.symm) ?_
  exact hgo _ J1 J2 hp1.2 hp2.2

set_option maxHeartbeats 4000000 in
set_option maxRecDepth 100000 in
theorem law_18 {p : Program} {l : Launch} {e : Env} {s : State} {m : MethodId} {b L : Nat} {xs : Nat → Int32} {below : List Frame} {meth : Method} {co : Code} {Q : State → Prop} {kc ks : Nat} {D : va_G} {cs : Nat → ClassId} {a1 a2 : Nat → Nat} {zt : Nat} (X : mL_X p m co s b L xs D cs a1 a2 zt) (hkc : kc ≤ room_1.cells ∧ ks ≤ room_1.slots) (hL : L ≤ 3072) {t : Nat} (ht : 6 * t + 6 ≤ L) {c I1 I2 : Wo} (h1 : cmR c I1) (h2 : moR c I2) (hgo : ∀ d J1 J2, cmR d J1 → moR d J2 → mL_A p l e s m b below meth co Q kc ks D cs a1 a2 J1 J2 [(3, .int (zi ((6 * t : Nat) : Int))), (2, .ref (a2 0)), (1, .ref (a1 0)), (0, .ref b)] 658 []) : mL_A p l e s m b below meth co Q kc ks D cs a1 a2 I1 I2 [(3, .int (zi ((6 * t : Nat) : Int))), (2, .ref (a2 0)), (1, .ref (a1 0)), (0, .ref b)] 602 [] := by
  refine mL_aloadn (nx := 603) X 2 d_law_602 rfl rfl ?_
  refine mL_aloadn (nx := 604) X 3 d_law_603 rfl rfl ?_
  refine mL_iloadn (nx := 605) X 0 d_law_604 rfl rfl ?_
  refine mL_iconst (nx := 606) X d_law_605 rfl ?_
  refine mL_iadd (nx := 607) X d_law_606 rfl ?_
  refine mL_sld (nx := 608) (j := 6 * t + 1) X (by omega) (by omega) (by omega) (by omega) d_law_607 rfl ?_
  refine mL_callX (nx := 611) (n := 1) (As := [.int (zi (sx xs (6 * t + 1)))]) (rest := []) X (c_CM_shifts l D cs a1 zt X.i1 c I1 h1 (sx xs (6 * t + 1)) (sx_b _ _)) (g_CM_shifts wd_566) rfl ⟨rfl, rfl⟩ (by decide +kernel) ⟨Nat.le_of_ble_eq_true rfl, Nat.le_of_ble_eq_true rfl⟩ rfl (Nat.le_of_ble_eq_true rfl) rfl hkc d_law_608 rfl (fun r1 J1 hp1 => ?_)
  refine mL_aloadn (nx := 612) X 1 d_law_611 rfl rfl ?_
  refine mL_aloadn (nx := 613) X 3 d_law_612 rfl rfl ?_
  refine mL_iloadn (nx := 614) X 0 d_law_613 rfl rfl ?_
  refine mL_iconst (nx := 615) X d_law_614 rfl ?_
  refine mL_iadd (nx := 616) X d_law_615 rfl ?_
  refine mL_sld (nx := 617) (j := 6 * t + 1) X (by omega) (by omega) (by omega) (by omega) d_law_616 rfl ?_
  refine mL_callM (nx := 620) (n := 1) (As := [.int (zi (sx xs (6 * t + 1)))]) (rest := [.int (zi r1)]) X (c_Mo_shifts l D cs a2 X.i2 c I2 h2 (sx xs (6 * t + 1)) (sx_b _ _)) (g_Mo_shifts wd_819) rfl ⟨rfl, rfl⟩ (by decide +kernel) ⟨Nat.le_of_ble_eq_true rfl, Nat.le_of_ble_eq_true rfl⟩ rfl (Nat.le_of_ble_eq_true rfl) rfl hkc d_law_617 rfl (fun r2 J2 hp2 => ?_)
  obtain ⟨d1, s1, R1⟩ := hp1
  obtain ⟨d2, s2, R2⟩ := hp2
  obtain ⟨e1, e2⟩ := shfR_fun s1 s2
  subst e2
  refine mL_eq (tgt := 658) X d_law_620 (by decide) (e1) ?_
  exact hgo d1 J1 J2 R1 R2

set_option maxHeartbeats 4000000 in
set_option maxRecDepth 100000 in
theorem law_19 {p : Program} {l : Launch} {e : Env} {s : State} {m : MethodId} {b L : Nat} {xs : Nat → Int32} {below : List Frame} {meth : Method} {co : Code} {Q : State → Prop} {kc ks : Nat} {D : va_G} {cs : Nat → ClassId} {a1 a2 : Nat → Nat} {zt : Nat} (X : mL_X p m co s b L xs D cs a1 a2 zt) (hkc : kc ≤ room_1.cells ∧ ks ≤ room_1.slots) (hL : L ≤ 3072) {t : Nat} (ht : 6 * t + 6 ≤ L) {c I1 I2 : Wo} (h1 : cmR c I1) (h2 : moR c I2) (hgo : ∀ d J1 J2, cmR d J1 → moR d J2 → mL_A p l e s m b below meth co Q kc ks D cs a1 a2 J1 J2 [(3, .int (zi ((6 * t : Nat) : Int))), (2, .ref (a2 0)), (1, .ref (a1 0)), (0, .ref b)] 658 []) : mL_A p l e s m b below meth co Q kc ks D cs a1 a2 I1 I2 [(3, .int (zi ((6 * t : Nat) : Int))), (2, .ref (a2 0)), (1, .ref (a1 0)), (0, .ref b)] 625 [] := by
  refine mL_aloadn (nx := 626) X 2 d_law_625 rfl rfl ?_
  refine mL_aloadn (nx := 627) X 3 d_law_626 rfl rfl ?_
  refine mL_iloadn (nx := 628) X 0 d_law_627 rfl rfl ?_
  refine mL_iconst (nx := 629) X d_law_628 rfl ?_
  refine mL_iadd (nx := 630) X d_law_629 rfl ?_
  refine mL_sld (nx := 631) (j := 6 * t + 1) X (by omega) (by omega) (by omega) (by omega) d_law_630 rfl ?_
  refine mL_aloadn (nx := 632) X 3 d_law_631 rfl rfl ?_
  refine mL_iloadn (nx := 633) X 0 d_law_632 rfl rfl ?_
  refine mL_iconst (nx := 634) X d_law_633 rfl ?_
  refine mL_iadd (nx := 635) X d_law_634 rfl ?_
  refine mL_sld (nx := 636) (j := 6 * t + 2) X (by omega) (by omega) (by omega) (by omega) d_law_635 rfl ?_
  refine mL_callX (nx := 639) (n := 2) (As := [.int (zi (sx xs (6 * t + 1))), .int (zi (sx xs (6 * t + 2)))]) (rest := []) X (c_CM_shift l D cs a1 zt X.i1 c I1 h1 (sx xs (6 * t + 1)) (sx_b _ _) (sx xs (6 * t + 2)) (sx_b _ _)) (g_CM_shift wd_585) rfl ⟨rfl, rfl⟩ (by decide +kernel) ⟨Nat.le_of_ble_eq_true rfl, Nat.le_of_ble_eq_true rfl⟩ rfl (Nat.le_of_ble_eq_true rfl) rfl hkc d_law_636 rfl (fun r1 J1 hp1 => ?_)
  refine mL_aloadn (nx := 640) X 1 d_law_639 rfl rfl ?_
  refine mL_aloadn (nx := 641) X 3 d_law_640 rfl rfl ?_
  refine mL_iloadn (nx := 642) X 0 d_law_641 rfl rfl ?_
  refine mL_iconst (nx := 643) X d_law_642 rfl ?_
  refine mL_iadd (nx := 644) X d_law_643 rfl ?_
  refine mL_sld (nx := 645) (j := 6 * t + 1) X (by omega) (by omega) (by omega) (by omega) d_law_644 rfl ?_
  refine mL_aloadn (nx := 646) X 3 d_law_645 rfl rfl ?_
  refine mL_iloadn (nx := 647) X 0 d_law_646 rfl rfl ?_
  refine mL_iconst (nx := 648) X d_law_647 rfl ?_
  refine mL_iadd (nx := 649) X d_law_648 rfl ?_
  refine mL_sld (nx := 650) (j := 6 * t + 2) X (by omega) (by omega) (by omega) (by omega) d_law_649 rfl ?_
  refine mL_callM (nx := 653) (n := 2) (As := [.int (zi (sx xs (6 * t + 1))), .int (zi (sx xs (6 * t + 2)))]) (rest := [.int (zi r1)]) X (c_Mo_shift l D cs a2 X.i2 c I2 h2 (sx xs (6 * t + 1)) (sx_b _ _) (sx xs (6 * t + 2)) (sx_b _ _)) (g_Mo_shift wd_823) rfl ⟨rfl, rfl⟩ (by decide +kernel) ⟨Nat.le_of_ble_eq_true rfl, Nat.le_of_ble_eq_true rfl⟩ rfl (Nat.le_of_ble_eq_true rfl) rfl hkc d_law_650 rfl (fun r2 J2 hp2 => ?_)
  refine mL_eq (tgt := 658) X d_law_653 (by decide) (hp1.1.trans hp2.1.symm) ?_
  exact hgo _ J1 J2 hp1.2 hp2.2

theorem zi31 (x : Int) : 0 ≤ ziand x 31 ∧ ziand x 31 < 2147483648 := by
  refine ⟨?_, (zi_rng _).2⟩
  unfold ziand
  have h : ¬ (zi x &&& zi 31).toInt < 0 := by
    rw [zi_msb, show (zi x &&& zi 31).toBitVec = (zi x).toBitVec &&& (zi 31).toBitVec from rfl, BitVec.msb_and]
    simp [show (zi 31).toBitVec.msb = false from rfl]
  omega
set_option maxHeartbeats 4000000 in
set_option maxRecDepth 100000 in
theorem law_loop {p : Program} {l : Launch} {e : Env} {s : State} {m : MethodId} {b L : Nat} {xs : Nat → Int32} {below : List Frame} {meth : Method} {co : Code} {Q : State → Prop} {kc ks : Nat} {D : va_G} {cs : Nat → ClassId} {a1 a2 : Nat → Nat} {zt : Nat} (X : mL_X p m co s b L xs D cs a1 a2 zt) (hkc : kc ≤ room_1.cells ∧ ks ≤ room_1.slots) (hL : L ≤ 3072) (hend : ∀ (J1 J2 : Wo) (lv : List (Nat × Value)), mL_A p l e s m b below meth co Q kc ks D cs a1 a2 J1 J2 lv 665 [.int (zi 1)]) : ∀ (nf t : Nat) (c I1 I2 : Wo), cmR c I1 → moR c I2 → 6 * t ≤ L + 6 → L + 6 - 6 * t < nf → mL_A p l e s m b below meth co Q kc ks D cs a1 a2 I1 I2 [(3, .int (zi ((6 * t : Nat) : Int))), (2, .ref (a2 0)), (1, .ref (a1 0)), (0, .ref b)] 18 [] := by
  intro nf
  induction nf with
  | zero => intro t c I1 I2 h1 h2 h3 h4; exact absurd h4 (Nat.not_lt_zero _)
  | succ nf ih =>
    intro t c I1 I2 h1 h2 h3 h4
    refine mL_iloadn (nx := 19) X 0 d_law_18 rfl rfl ?_
    refine mL_aloadn (nx := 20) X 3 d_law_19 rfl rfl ?_
    refine mL_slen (nx := 21) X d_law_20 rfl ?_
    refine mL_bipush (nx := 23) X d_law_21 (by decide) rfl ?_
    refine mL_isub (nx := 24) X d_law_23 rfl ?_
    refine mL_gt (tgt := 664) (nx := 27) X d_law_24 (by omega) (by omega) (by decide) rfl (fun q => ?_) (fun q => ?_)
    · refine mL_iconst (nx := 665) X d_law_664 rfl ?_
      exact hend _ _ _
    · have ht : 6 * t + 6 ≤ L := by omega
      have hgo : ∀ d J1 J2, cmR d J1 → moR d J2 → mL_A p l e s m b below meth co Q kc ks D cs a1 a2 J1 J2 [(3, .int (zi ((6 * t : Nat) : Int))), (2, .ref (a2 0)), (1, .ref (a1 0)), (0, .ref b)] 658 [] := by
        intro d J1 J2 g1 g2
        refine mL_iinc (nx := 661) X 0 [(3, .int (zi (((6 * t : Nat) : Int) + 6))), (2, .ref (a2 0)), (1, .ref (a1 0)), (0, .ref b)] d_law_658 rfl (by decide) rfl rfl ?_
        refine mL_goto (tgt := 18) X d_law_661 (by decide) ?_
        have e := ih (t + 1) d J1 J2 g1 g2 (by omega) (by omega)
        rw [show ((6 * (t + 1) : Nat) : Int) = ((6 * t : Nat) : Int) + 6 by omega] at e
        exact e
      refine mL_aloadn (nx := 28) X 3 d_law_27 rfl rfl ?_
      refine mL_iloadn (nx := 29) X 0 d_law_28 rfl rfl ?_
      refine mL_sld (nx := 30) (j := 6 * t) X (by omega) (by omega) (by omega) (by omega) d_law_29 rfl ?_
      refine mL_bipush (nx := 32) X d_law_30 (by decide) rfl ?_
      refine mL_iand (nx := 33) X d_law_32 rfl ?_
      refine mL_nm (fun y hy => ?_)
      have hyb := zi31 (sx xs (6 * t))
      rw [← hy] at hyb
      by_cases c0 : y = 0
      · refine mL_tIn (tgt := 128) (off := 95) X d_law_33 (by omega) (by omega) (by omega) (by rw [c0]; rfl) (by decide) ?_
        exact law_0 X hkc hL ht h1 h2 hgo
      · skip
        by_cases c1 : y = 1
        · refine mL_tIn (tgt := 161) (off := 128) X d_law_33 (by omega) (by omega) (by omega) (by rw [c1]; rfl) (by decide) ?_
          exact law_1 X hkc hL ht h1 h2 hgo
        · skip
          by_cases c2 : y = 2
          · refine mL_tIn (tgt := 194) (off := 161) X d_law_33 (by omega) (by omega) (by omega) (by rw [c2]; rfl) (by decide) ?_
            exact law_2 X hkc hL ht h1 h2 hgo
          · skip
            by_cases c3 : y = 3
            · refine mL_tIn (tgt := 227) (off := 194) X d_law_33 (by omega) (by omega) (by omega) (by rw [c3]; rfl) (by decide) ?_
              exact law_3 X hkc hL ht h1 h2 hgo
            · skip
              by_cases c4 : y = 4
              · refine mL_tIn (tgt := 250) (off := 217) X d_law_33 (by omega) (by omega) (by omega) (by rw [c4]; rfl) (by decide) ?_
                exact law_4 X hkc hL ht h1 h2 hgo
              · skip
                by_cases c5 : y = 5
                · refine mL_tIn (tgt := 263) (off := 230) X d_law_33 (by omega) (by omega) (by omega) (by rw [c5]; rfl) (by decide) ?_
                  exact law_5 X hkc hL ht h1 h2 hgo
                · skip
                  by_cases c6 : y = 6
                  · refine mL_tIn (tgt := 326) (off := 293) X d_law_33 (by omega) (by omega) (by omega) (by rw [c6]; rfl) (by decide) ?_
                    exact law_6 X hkc hL ht h1 h2 hgo
                  · skip
                    by_cases c7 : y = 7
                    · refine mL_tIn (tgt := 349) (off := 316) X d_law_33 (by omega) (by omega) (by omega) (by rw [c7]; rfl) (by decide) ?_
                      exact law_7 X hkc hL ht h1 h2 hgo
                    · skip
                      by_cases c8 : y = 8
                      · refine mL_tIn (tgt := 382) (off := 349) X d_law_33 (by omega) (by omega) (by omega) (by rw [c8]; rfl) (by decide) ?_
                        exact law_8 X hkc hL ht h1 h2 hgo
                      · skip
                        by_cases c9 : y = 9
                        · refine mL_tIn (tgt := 405) (off := 372) X d_law_33 (by omega) (by omega) (by omega) (by rw [c9]; rfl) (by decide) ?_
                          exact law_9 X hkc hL ht h1 h2 hgo
                        · skip
                          by_cases c10 : y = 10
                          · refine mL_tIn (tgt := 428) (off := 395) X d_law_33 (by omega) (by omega) (by omega) (by rw [c10]; rfl) (by decide) ?_
                            exact law_10 X hkc hL ht h1 h2 hgo
                          · skip
                            by_cases c11 : y = 11
                            · refine mL_tIn (tgt := 451) (off := 418) X d_law_33 (by omega) (by omega) (by omega) (by rw [c11]; rfl) (by decide) ?_
                              exact law_11 X hkc hL ht h1 h2 hgo
                            · skip
                              by_cases c12 : y = 12
                              · refine mL_tIn (tgt := 474) (off := 441) X d_law_33 (by omega) (by omega) (by omega) (by rw [c12]; rfl) (by decide) ?_
                                exact law_12 X hkc hL ht h1 h2 hgo
                              · skip
                                by_cases c13 : y = 13
                                · refine mL_tIn (tgt := 487) (off := 454) X d_law_33 (by omega) (by omega) (by omega) (by rw [c13]; rfl) (by decide) ?_
                                  exact law_13 X hkc hL ht h1 h2 hgo
                                · skip
                                  by_cases c14 : y = 14
                                  · refine mL_tIn (tgt := 520) (off := 487) X d_law_33 (by omega) (by omega) (by omega) (by rw [c14]; rfl) (by decide) ?_
                                    exact law_14 X hkc hL ht h1 h2 hgo
                                  · skip
                                    by_cases c15 : y = 15
                                    · refine mL_tIn (tgt := 533) (off := 500) X d_law_33 (by omega) (by omega) (by omega) (by rw [c15]; rfl) (by decide) ?_
                                      exact law_15 X hkc hL ht h1 h2 hgo
                                    · skip
                                      by_cases c16 : y = 16
                                      · refine mL_tIn (tgt := 566) (off := 533) X d_law_33 (by omega) (by omega) (by omega) (by rw [c16]; rfl) (by decide) ?_
                                        exact law_16 X hkc hL ht h1 h2 hgo
                                      · skip
                                        by_cases c17 : y = 17
                                        · refine mL_tIn (tgt := 589) (off := 556) X d_law_33 (by omega) (by omega) (by omega) (by rw [c17]; rfl) (by decide) ?_
                                          exact law_17 X hkc hL ht h1 h2 hgo
                                        · skip
                                          by_cases c18 : y = 18
                                          · refine mL_tIn (tgt := 602) (off := 569) X d_law_33 (by omega) (by omega) (by omega) (by rw [c18]; rfl) (by decide) ?_
                                            exact law_18 X hkc hL ht h1 h2 hgo
                                          · skip
                                            by_cases c19 : y = 19
                                            · refine mL_tIn (tgt := 625) (off := 592) X d_law_33 (by omega) (by omega) (by omega) (by rw [c19]; rfl) (by decide) ?_
                                              exact law_19 X hkc hL ht h1 h2 hgo
                                            · skip
                                              refine mL_tOut (tgt := 658) X d_law_33 (by omega) (by omega) (by decide) ?_
                                              exact hgo c I1 I2 h1 h2
