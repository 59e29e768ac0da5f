/-! THE LAW: its script, its loop -/
def xScr (Γ : xΓ) (Ω : xW) (b L : Nat) (xs : Nat → Int32) : Prop := match Γ with
  | (_, _, _, _, s, _, _, _, _, _) => va_X b L xs s s.heap ∧ b < s.heap.size ∧ ¬ Ω.2.1 ≤ b
theorem xr_sld {Γ : xΓ} {Ω : xW} {cc : ByteArray} {nL : Nat} {own nm : String} {ret : Option FieldType} {rf rl rc rs : Nat} {Q : State → Prop} {pc : Nat} {lv : List (Nat × Value)} {st : List Value} {h : xH} {sz k n : Nat} (X : xX Γ Ω cc nL own nm ret rf rl rc rs) {b L : Nat} {xs : Nat → Int32} (S : xScr Γ Ω b L xs) {i : Int32} {j : Nat} (hi : xI i j L) (d : decode cc pc = .ok (.iaload, 1)) (kk : xG Γ Ω nL Q (pc + 1) lv (.int (xs j) :: st) h sz k n) : xG Γ Ω nL Q pc lv (.int i :: .ref b :: st) h sz k n := by
  obtain ⟨p, l, e, R, s, m, args, below, meth, c⟩ := Γ
  obtain ⟨hx, hb, hml, hown, hts, hK, hO, hV, hbs, hlk, hnm, hrt, hRm⟩ := X
  obtain ⟨s1, s2, s3⟩ := S
  intro H locs ls hz hR hS hl
  obtain rfl := hi.2.1
  exact va_sld hx hb s1 s2 s3 hS hi.in d (kk H locs ls hz hR hS hl)
theorem xr_slen {Γ : xΓ} {Ω : xW} {cc : ByteArray} {nL : Nat} {own nm : String} {ret : Option FieldType} {rf rl rc rs : Nat} {Q : State → Prop} {pc : Nat} {lv : List (Nat × Value)} {st : List Value} {h : xH} {sz k n : Nat} (X : xX Γ Ω cc nL own nm ret rf rl rc rs) {b L : Nat} {xs : Nat → Int32} (S : xScr Γ Ω b L xs) (d : decode cc pc = .ok (.arraylength, 1)) (kk : xG Γ Ω nL Q (pc + 1) lv (.int (nI L) :: st) h sz k n) : xG Γ Ω nL Q pc lv (.ref b :: st) h sz k n := by
  obtain ⟨p, l, e, R, s, m, args, below, meth, c⟩ := Γ
  obtain ⟨hx, hb, hml, hown, hts, hK, hO, hV, hbs, hlk, hnm, hrt, hRm⟩ := X
  obtain ⟨s1, s2, s3⟩ := S
  intro H locs ls hz hR hS hl
  exact va_slen hx hb s1 s2 s3 hS d (kk H locs ls hz hR hS hl)
set_option maxRecDepth 100000 in
theorem l_case_row {Γ : xΓ} {Ω : xW} {h : xH} {sz : Nat} {e w m b L i : Nat} {xs : Nat → Int32} {nm : String} {Q : State → Prop} (X : xX Γ Ω cL_law 4 RL nm ret 12 430 600000 7302250) (S : xScr Γ Ω b L xs) (hw : w = e + 16) (hm : m = e + 37) (hL : L ≤ 384) (hi : 6 * i + 6 ≤ L) (I : INV e w m h sz) (hdom : ∀ (a : Nat) (e : xE), h a = some e → Ω.2.1 ≤ a ∧ a < sz) (KI : ∀ (h : xH) (sz : Nat), INV e w m h sz → xG Γ Ω 4 Q 18 [(3, .int (nI (6 * (i + 1)))), (2, .ref m), (1, .ref e), (0, .ref b)] [] h sz (49 + 7 * (i + 1)) (2983 + 21 * (i + 1))) : xG Γ Ω 4 Q 168 [(3, .int (nI (6 * i))), (2, .ref m), (1, .ref e), (0, .ref b)] [] h sz (49 + 7 * i) (2983 + 21 * i) := by
  refine xr_aload_n X 2 dL_law_168 rfl rfl ?_
  refine xr_aload_n X 3 dL_law_169 rfl rfl ?_
  refine xr_iload_n X 0 dL_law_170 rfl rfl ?_
  refine xr_iconst (v := 1) X dL_law_171 (by decide) ?_
  refine xr_iadd X dL_law_172 ?_
  refine xr_top (y := nI (6 * i + 1)) (nI_add (6 * i) 1) ?_
  refine xr_sld (j := (6 * i + 1)) X S (xI_n (by omega) (by omega)) dL_law_173 ?_
  refine xr_aload_n X 3 dL_law_174 rfl rfl ?_
  refine xr_iload_n X 0 dL_law_175 rfl rfl ?_
  refine xr_iconst (v := 2) X dL_law_176 (by decide) ?_
  refine xr_iadd X dL_law_177 ?_
  refine xr_top (y := nI (6 * i + 2)) (nI_add (6 * i) 2) ?_
  refine xr_sld (j := (6 * i + 2)) X S (xI_n (by omega) (by omega)) dL_law_178 ?_
  refine xr_aload_n X 3 dL_law_179 rfl rfl ?_
  refine xr_iload_n X 0 dL_law_180 rfl rfl ?_
  refine xr_iconst (v := 3) X dL_law_181 (by decide) ?_
  refine xr_iadd X dL_law_182 ?_
  refine xr_top (y := nI (6 * i + 3)) (nI_add (6 * i) 3) ?_
  refine xr_sld (j := (6 * i + 3)) X S (xI_n (by omega) (by omega)) dL_law_183 ?_
  obtain ⟨r9, h1, h2, sz1, f1, f2, q1, C, q2, M, I2⟩ := s_row (l := Γ.2.1) (Ω := Ω) (r := xs (6 * i + 1)) (l2 := xs (6 * i + 2)) (n := xs (6 * i + 3)) I hw hm
  refine xr_callV X q1 rfl kw_214 kw_215 kw_216 cw_X11_row [.int (xs (6 * i + 1)), .int (xs (6 * i + 2)), .int (xs (6 * i + 3))] C rfl rfl rfl rfl rfl (Nat.ble_eq_true_of_le (by omega)) (Nat.ble_eq_true_of_le (by omega)) dL_law_184 ?_
  refine xr_aload_n X 1 dL_law_187 rfl rfl ?_
  refine xr_aload_n X 3 dL_law_188 rfl rfl ?_
  refine xr_iload_n X 0 dL_law_189 rfl rfl ?_
  refine xr_iconst (v := 1) X dL_law_190 (by decide) ?_
  refine xr_iadd X dL_law_191 ?_
  refine xr_top (y := nI (6 * i + 1)) (nI_add (6 * i) 1) ?_
  refine xr_sld (j := (6 * i + 1)) X S (xI_n (by omega) (by omega)) dL_law_192 ?_
  refine xr_aload_n X 3 dL_law_193 rfl rfl ?_
  refine xr_iload_n X 0 dL_law_194 rfl rfl ?_
  refine xr_iconst (v := 2) X dL_law_195 (by decide) ?_
  refine xr_iadd X dL_law_196 ?_
  refine xr_top (y := nI (6 * i + 2)) (nI_add (6 * i) 2) ?_
  refine xr_sld (j := (6 * i + 2)) X S (xI_n (by omega) (by omega)) dL_law_197 ?_
  refine xr_aload_n X 3 dL_law_198 rfl rfl ?_
  refine xr_iload_n X 0 dL_law_199 rfl rfl ?_
  refine xr_iconst (v := 3) X dL_law_200 (by decide) ?_
  refine xr_iadd X dL_law_201 ?_
  refine xr_top (y := nI (6 * i + 3)) (nI_add (6 * i) 3) ?_
  refine xr_sld (j := (6 * i + 3)) X S (xI_n (by omega) (by omega)) dL_law_202 ?_
  refine xr_callV X q2 rfl kw_1019 kw_1020 kw_1021 cw_X12_row [.int (xs (6 * i + 1)), .int (xs (6 * i + 2)), .int (xs (6 * i + 3))] M rfl rfl rfl rfl rfl (Nat.ble_eq_true_of_le (by omega)) (Nat.ble_eq_true_of_le (by omega)) dL_law_203 ?_
  refine xr_icmp_eq (tgt := 1048) X dL_law_206 (by decide) (fun _ => ?_) (fun c_206 => absurd rfl c_206)
  refine xr_iinc (v := nI (6 * (i + 1))) (lv' := [(3, .int (nI (6 * (i + 1)))), (2, .ref m), (1, .ref e), (0, .ref b)]) X 0 dL_law_1048 rfl (by rw [show 6 * (i + 1) = 6 * i + 6 by omega]; exact nI_add (6 * i) 6) rfl rfl ?_
  refine xr_goto (tgt := 18) X dL_law_1051 (by decide) ?_
  refine xr_wid (k2 := 49 + 7 * (i + 1)) (n2 := 2983 + 21 * (i + 1)) (by omega) (by omega) ?_
  exact KI _ _ I2
set_option maxRecDepth 100000 in
theorem l_case_set {Γ : xΓ} {Ω : xW} {h : xH} {sz : Nat} {e w m b L i : Nat} {xs : Nat → Int32} {nm : String} {Q : State → Prop} (X : xX Γ Ω cL_law 4 RL nm ret 12 430 600000 7302250) (S : xScr Γ Ω b L xs) (hw : w = e + 16) (hm : m = e + 37) (hL : L ≤ 384) (hi : 6 * i + 6 ≤ L) (I : INV e w m h sz) (hdom : ∀ (a : Nat) (e : xE), h a = some e → Ω.2.1 ≤ a ∧ a < sz) (KI : ∀ (h : xH) (sz : Nat), INV e w m h sz → xG Γ Ω 4 Q 18 [(3, .int (nI (6 * (i + 1)))), (2, .ref m), (1, .ref e), (0, .ref b)] [] h sz (49 + 7 * (i + 1)) (2983 + 21 * (i + 1))) : xG Γ Ω 4 Q 211 [(3, .int (nI (6 * i))), (2, .ref m), (1, .ref e), (0, .ref b)] [] h sz (49 + 7 * i) (2983 + 21 * i) := by
  refine xr_aload_n X 2 dL_law_211 rfl rfl ?_
  refine xr_aload_n X 3 dL_law_212 rfl rfl ?_
  refine xr_iload_n X 0 dL_law_213 rfl rfl ?_
  refine xr_iconst (v := 1) X dL_law_214 (by decide) ?_
  refine xr_iadd X dL_law_215 ?_
  refine xr_top (y := nI (6 * i + 1)) (nI_add (6 * i) 1) ?_
  refine xr_sld (j := (6 * i + 1)) X S (xI_n (by omega) (by omega)) dL_law_216 ?_
  refine xr_aload_n X 3 dL_law_217 rfl rfl ?_
  refine xr_iload_n X 0 dL_law_218 rfl rfl ?_
  refine xr_iconst (v := 2) X dL_law_219 (by decide) ?_
  refine xr_iadd X dL_law_220 ?_
  refine xr_top (y := nI (6 * i + 2)) (nI_add (6 * i) 2) ?_
  refine xr_sld (j := (6 * i + 2)) X S (xI_n (by omega) (by omega)) dL_law_221 ?_
  refine xr_aload_n X 3 dL_law_222 rfl rfl ?_
  refine xr_iload_n X 0 dL_law_223 rfl rfl ?_
  refine xr_iconst (v := 3) X dL_law_224 (by decide) ?_
  refine xr_iadd X dL_law_225 ?_
  refine xr_top (y := nI (6 * i + 3)) (nI_add (6 * i) 3) ?_
  refine xr_sld (j := (6 * i + 3)) X S (xI_n (by omega) (by omega)) dL_law_226 ?_
  obtain ⟨r9, h1, h2, sz1, f1, f2, q1, C, q2, M, I2⟩ := s_set (l := Γ.2.1) (Ω := Ω) (r := xs (6 * i + 1)) (i := xs (6 * i + 2)) (v := xs (6 * i + 3)) I hw hm
  refine xr_callV X q1 rfl kw_245 kw_246 kw_247 cw_X11_set [.int (xs (6 * i + 1)), .int (xs (6 * i + 2)), .int (xs (6 * i + 3))] C rfl rfl rfl rfl rfl (Nat.ble_eq_true_of_le (by omega)) (Nat.ble_eq_true_of_le (by omega)) dL_law_227 ?_
  refine xr_aload_n X 1 dL_law_230 rfl rfl ?_
  refine xr_aload_n X 3 dL_law_231 rfl rfl ?_
  refine xr_iload_n X 0 dL_law_232 rfl rfl ?_
  refine xr_iconst (v := 1) X dL_law_233 (by decide) ?_
  refine xr_iadd X dL_law_234 ?_
  refine xr_top (y := nI (6 * i + 1)) (nI_add (6 * i) 1) ?_
  refine xr_sld (j := (6 * i + 1)) X S (xI_n (by omega) (by omega)) dL_law_235 ?_
  refine xr_aload_n X 3 dL_law_236 rfl rfl ?_
  refine xr_iload_n X 0 dL_law_237 rfl rfl ?_
  refine xr_iconst (v := 2) X dL_law_238 (by decide) ?_
  refine xr_iadd X dL_law_239 ?_
  refine xr_top (y := nI (6 * i + 2)) (nI_add (6 * i) 2) ?_
  refine xr_sld (j := (6 * i + 2)) X S (xI_n (by omega) (by omega)) dL_law_240 ?_
  refine xr_aload_n X 3 dL_law_241 rfl rfl ?_
  refine xr_iload_n X 0 dL_law_242 rfl rfl ?_
  refine xr_iconst (v := 3) X dL_law_243 (by decide) ?_
  refine xr_iadd X dL_law_244 ?_
  refine xr_top (y := nI (6 * i + 3)) (nI_add (6 * i) 3) ?_
  refine xr_sld (j := (6 * i + 3)) X S (xI_n (by omega) (by omega)) dL_law_245 ?_
  refine xr_callV X q2 rfl kw_1037 kw_1038 kw_1039 cw_X12_set [.int (xs (6 * i + 1)), .int (xs (6 * i + 2)), .int (xs (6 * i + 3))] M rfl rfl rfl rfl rfl (Nat.ble_eq_true_of_le (by omega)) (Nat.ble_eq_true_of_le (by omega)) dL_law_246 ?_
  refine xr_icmp_eq (tgt := 1048) X dL_law_249 (by decide) (fun _ => ?_) (fun c_249 => absurd rfl c_249)
  refine xr_iinc (v := nI (6 * (i + 1))) (lv' := [(3, .int (nI (6 * (i + 1)))), (2, .ref m), (1, .ref e), (0, .ref b)]) X 0 dL_law_1048 rfl (by rw [show 6 * (i + 1) = 6 * i + 6 by omega]; exact nI_add (6 * i) 6) rfl rfl ?_
  refine xr_goto (tgt := 18) X dL_law_1051 (by decide) ?_
  refine xr_wid (k2 := 49 + 7 * (i + 1)) (n2 := 2983 + 21 * (i + 1)) (by omega) (by omega) ?_
  exact KI _ _ I2
set_option maxRecDepth 100000 in
theorem l_case_copy {Γ : xΓ} {Ω : xW} {h : xH} {sz : Nat} {e w m b L i : Nat} {xs : Nat → Int32} {nm : String} {Q : State → Prop} (X : xX Γ Ω cL_law 4 RL nm ret 12 430 600000 7302250) (S : xScr Γ Ω b L xs) (hw : w = e + 16) (hm : m = e + 37) (hL : L ≤ 384) (hi : 6 * i + 6 ≤ L) (I : INV e w m h sz) (hdom : ∀ (a : Nat) (e : xE), h a = some e → Ω.2.1 ≤ a ∧ a < sz) (KI : ∀ (h : xH) (sz : Nat), INV e w m h sz → xG Γ Ω 4 Q 18 [(3, .int (nI (6 * (i + 1)))), (2, .ref m), (1, .ref e), (0, .ref b)] [] h sz (49 + 7 * (i + 1)) (2983 + 21 * (i + 1))) : xG Γ Ω 4 Q 254 [(3, .int (nI (6 * i))), (2, .ref m), (1, .ref e), (0, .ref b)] [] h sz (49 + 7 * i) (2983 + 21 * i) := by
  refine xr_aload_n X 2 dL_law_254 rfl rfl ?_
  refine xr_aload_n X 3 dL_law_255 rfl rfl ?_
  refine xr_iload_n X 0 dL_law_256 rfl rfl ?_
  refine xr_iconst (v := 1) X dL_law_257 (by decide) ?_
  refine xr_iadd X dL_law_258 ?_
  refine xr_top (y := nI (6 * i + 1)) (nI_add (6 * i) 1) ?_
  refine xr_sld (j := (6 * i + 1)) X S (xI_n (by omega) (by omega)) dL_law_259 ?_
  refine xr_aload_n X 3 dL_law_260 rfl rfl ?_
  refine xr_iload_n X 0 dL_law_261 rfl rfl ?_
  refine xr_iconst (v := 2) X dL_law_262 (by decide) ?_
  refine xr_iadd X dL_law_263 ?_
  refine xr_top (y := nI (6 * i + 2)) (nI_add (6 * i) 2) ?_
  refine xr_sld (j := (6 * i + 2)) X S (xI_n (by omega) (by omega)) dL_law_264 ?_
  refine xr_aload_n X 3 dL_law_265 rfl rfl ?_
  refine xr_iload_n X 0 dL_law_266 rfl rfl ?_
  refine xr_iconst (v := 3) X dL_law_267 (by decide) ?_
  refine xr_iadd X dL_law_268 ?_
  refine xr_top (y := nI (6 * i + 3)) (nI_add (6 * i) 3) ?_
  refine xr_sld (j := (6 * i + 3)) X S (xI_n (by omega) (by omega)) dL_law_269 ?_
  refine xr_aload_n X 3 dL_law_270 rfl rfl ?_
  refine xr_iload_n X 0 dL_law_271 rfl rfl ?_
  refine xr_iconst (v := 4) X dL_law_272 (by decide) ?_
  refine xr_iadd X dL_law_273 ?_
  refine xr_top (y := nI (6 * i + 4)) (nI_add (6 * i) 4) ?_
  refine xr_sld (j := (6 * i + 4)) X S (xI_n (by omega) (by omega)) dL_law_274 ?_
  refine xr_aload_n X 3 dL_law_275 rfl rfl ?_
  refine xr_iload_n X 0 dL_law_276 rfl rfl ?_
  refine xr_iconst (v := 5) X dL_law_277 (by decide) ?_
  refine xr_iadd X dL_law_278 ?_
  refine xr_top (y := nI (6 * i + 5)) (nI_add (6 * i) 5) ?_
  refine xr_sld (j := (6 * i + 5)) X S (xI_n (by omega) (by omega)) dL_law_279 ?_
  obtain ⟨r9, h1, h2, sz1, f1, f2, q1, C, q2, M, I2⟩ := s_copy (l := Γ.2.1) (Ω := Ω) (a0 := xs (6 * i + 1)) (i := xs (6 * i + 2)) (b0 := xs (6 * i + 3)) (j := xs (6 * i + 4)) (n := xs (6 * i + 5)) I hw hm
  refine xr_callV X q1 rfl kw_267 kw_268 kw_269 cw_X11_copy [.int (xs (6 * i + 1)), .int (xs (6 * i + 2)), .int (xs (6 * i + 3)), .int (xs (6 * i + 4)), .int (xs (6 * i + 5))] C rfl rfl rfl rfl rfl (Nat.ble_eq_true_of_le (by omega)) (Nat.ble_eq_true_of_le (by omega)) dL_law_280 ?_
  refine xr_aload_n X 1 dL_law_283 rfl rfl ?_
  refine xr_aload_n X 3 dL_law_284 rfl rfl ?_
  refine xr_iload_n X 0 dL_law_285 rfl rfl ?_
  refine xr_iconst (v := 1) X dL_law_286 (by decide) ?_
  refine xr_iadd X dL_law_287 ?_
  refine xr_top (y := nI (6 * i + 1)) (nI_add (6 * i) 1) ?_
  refine xr_sld (j := (6 * i + 1)) X S (xI_n (by omega) (by omega)) dL_law_288 ?_
  refine xr_aload_n X 3 dL_law_289 rfl rfl ?_
  refine xr_iload_n X 0 dL_law_290 rfl rfl ?_
  refine xr_iconst (v := 2) X dL_law_291 (by decide) ?_
  refine xr_iadd X dL_law_292 ?_
  refine xr_top (y := nI (6 * i + 2)) (nI_add (6 * i) 2) ?_
  refine xr_sld (j := (6 * i + 2)) X S (xI_n (by omega) (by omega)) dL_law_293 ?_
  refine xr_aload_n X 3 dL_law_294 rfl rfl ?_
  refine xr_iload_n X 0 dL_law_295 rfl rfl ?_
  refine xr_iconst (v := 3) X dL_law_296 (by decide) ?_
  refine xr_iadd X dL_law_297 ?_
  refine xr_top (y := nI (6 * i + 3)) (nI_add (6 * i) 3) ?_
  refine xr_sld (j := (6 * i + 3)) X S (xI_n (by omega) (by omega)) dL_law_298 ?_
  refine xr_aload_n X 3 dL_law_299 rfl rfl ?_
  refine xr_iload_n X 0 dL_law_300 rfl rfl ?_
  refine xr_iconst (v := 4) X dL_law_301 (by decide) ?_
  refine xr_iadd X dL_law_302 ?_
  refine xr_top (y := nI (6 * i + 4)) (nI_add (6 * i) 4) ?_
  refine xr_sld (j := (6 * i + 4)) X S (xI_n (by omega) (by omega)) dL_law_303 ?_
  refine xr_aload_n X 3 dL_law_304 rfl rfl ?_
  refine xr_iload_n X 0 dL_law_305 rfl rfl ?_
  refine xr_iconst (v := 5) X dL_law_306 (by decide) ?_
  refine xr_iadd X dL_law_307 ?_
  refine xr_top (y := nI (6 * i + 5)) (nI_add (6 * i) 5) ?_
  refine xr_sld (j := (6 * i + 5)) X S (xI_n (by omega) (by omega)) dL_law_308 ?_
  refine xr_callV X q2 rfl kw_1041 kw_1042 kw_1043 cw_X12_copy [.int (xs (6 * i + 1)), .int (xs (6 * i + 2)), .int (xs (6 * i + 3)), .int (xs (6 * i + 4)), .int (xs (6 * i + 5))] M rfl rfl rfl rfl rfl (Nat.ble_eq_true_of_le (by omega)) (Nat.ble_eq_true_of_le (by omega)) dL_law_309 ?_
  refine xr_icmp_eq (tgt := 1048) X dL_law_312 (by decide) (fun _ => ?_) (fun c_312 => absurd rfl c_312)
  refine xr_iinc (v := nI (6 * (i + 1))) (lv' := [(3, .int (nI (6 * (i + 1)))), (2, .ref m), (1, .ref e), (0, .ref b)]) X 0 dL_law_1048 rfl (by rw [show 6 * (i + 1) = 6 * i + 6 by omega]; exact nI_add (6 * i) 6) rfl rfl ?_
  refine xr_goto (tgt := 18) X dL_law_1051 (by decide) ?_
  refine xr_wid (k2 := 49 + 7 * (i + 1)) (n2 := 2983 + 21 * (i + 1)) (by omega) (by omega) ?_
  exact KI _ _ I2
set_option maxRecDepth 100000 in
theorem l_case_drop {Γ : xΓ} {Ω : xW} {h : xH} {sz : Nat} {e w m b L i : Nat} {xs : Nat → Int32} {nm : String} {Q : State → Prop} (X : xX Γ Ω cL_law 4 RL nm ret 12 430 600000 7302250) (S : xScr Γ Ω b L xs) (hw : w = e + 16) (hm : m = e + 37) (hL : L ≤ 384) (hi : 6 * i + 6 ≤ L) (I : INV e w m h sz) (hdom : ∀ (a : Nat) (e : xE), h a = some e → Ω.2.1 ≤ a ∧ a < sz) (KI : ∀ (h : xH) (sz : Nat), INV e w m h sz → xG Γ Ω 4 Q 18 [(3, .int (nI (6 * (i + 1)))), (2, .ref m), (1, .ref e), (0, .ref b)] [] h sz (49 + 7 * (i + 1)) (2983 + 21 * (i + 1))) : xG Γ Ω 4 Q 317 [(3, .int (nI (6 * i))), (2, .ref m), (1, .ref e), (0, .ref b)] [] h sz (49 + 7 * i) (2983 + 21 * i) := by
  refine xr_aload_n X 2 dL_law_317 rfl rfl ?_
  refine xr_aload_n X 3 dL_law_318 rfl rfl ?_
  refine xr_iload_n X 0 dL_law_319 rfl rfl ?_
  refine xr_iconst (v := 1) X dL_law_320 (by decide) ?_
  refine xr_iadd X dL_law_321 ?_
  refine xr_top (y := nI (6 * i + 1)) (nI_add (6 * i) 1) ?_
  refine xr_sld (j := (6 * i + 1)) X S (xI_n (by omega) (by omega)) dL_law_322 ?_
  obtain ⟨r9, h1, h2, sz1, f1, f2, q1, C, q2, M, I2⟩ := s_drop (l := Γ.2.1) (Ω := Ω) (r := xs (6 * i + 1)) I hw hm
  refine xr_callV X q1 rfl kw_282 kw_283 kw_284 cw_X11_drop [.int (xs (6 * i + 1))] C rfl rfl rfl rfl rfl (Nat.ble_eq_true_of_le (by omega)) (Nat.ble_eq_true_of_le (by omega)) dL_law_323 ?_
  refine xr_aload_n X 1 dL_law_326 rfl rfl ?_
  refine xr_aload_n X 3 dL_law_327 rfl rfl ?_
  refine xr_iload_n X 0 dL_law_328 rfl rfl ?_
  refine xr_iconst (v := 1) X dL_law_329 (by decide) ?_
  refine xr_iadd X dL_law_330 ?_
  refine xr_top (y := nI (6 * i + 1)) (nI_add (6 * i) 1) ?_
  refine xr_sld (j := (6 * i + 1)) X S (xI_n (by omega) (by omega)) dL_law_331 ?_
  refine xr_callV X q2 rfl kw_1045 kw_1046 kw_1047 cw_X12_drop [.int (xs (6 * i + 1))] M rfl rfl rfl rfl rfl (Nat.ble_eq_true_of_le (by omega)) (Nat.ble_eq_true_of_le (by omega)) dL_law_332 ?_
  refine xr_icmp_eq (tgt := 1048) X dL_law_335 (by decide) (fun _ => ?_) (fun c_335 => absurd rfl c_335)
  refine xr_iinc (v := nI (6 * (i + 1))) (lv' := [(3, .int (nI (6 * (i + 1)))), (2, .ref m), (1, .ref e), (0, .ref b)]) X 0 dL_law_1048 rfl (by rw [show 6 * (i + 1) = 6 * i + 6 by omega]; exact nI_add (6 * i) 6) rfl rfl ?_
  refine xr_goto (tgt := 18) X dL_law_1051 (by decide) ?_
  refine xr_wid (k2 := 49 + 7 * (i + 1)) (n2 := 2983 + 21 * (i + 1)) (by omega) (by omega) ?_
  exact KI _ _ I2
set_option maxRecDepth 100000 in
theorem l_case_feed {Γ : xΓ} {Ω : xW} {h : xH} {sz : Nat} {e w m b L i : Nat} {xs : Nat → Int32} {nm : String} {Q : State → Prop} (X : xX Γ Ω cL_law 4 RL nm ret 12 430 600000 7302250) (S : xScr Γ Ω b L xs) (hw : w = e + 16) (hm : m = e + 37) (hL : L ≤ 384) (hi : 6 * i + 6 ≤ L) (I : INV e w m h sz) (hdom : ∀ (a : Nat) (e : xE), h a = some e → Ω.2.1 ≤ a ∧ a < sz) (KI : ∀ (h : xH) (sz : Nat), INV e w m h sz → xG Γ Ω 4 Q 18 [(3, .int (nI (6 * (i + 1)))), (2, .ref m), (1, .ref e), (0, .ref b)] [] h sz (49 + 7 * (i + 1)) (2983 + 21 * (i + 1))) : xG Γ Ω 4 Q 340 [(3, .int (nI (6 * i))), (2, .ref m), (1, .ref e), (0, .ref b)] [] h sz (49 + 7 * i) (2983 + 21 * i) := by
  refine xr_aload_n X 2 dL_law_340 rfl rfl ?_
  refine xr_aload_n X 3 dL_law_341 rfl rfl ?_
  refine xr_iload_n X 0 dL_law_342 rfl rfl ?_
  refine xr_iconst (v := 1) X dL_law_343 (by decide) ?_
  refine xr_iadd X dL_law_344 ?_
  refine xr_top (y := nI (6 * i + 1)) (nI_add (6 * i) 1) ?_
  refine xr_sld (j := (6 * i + 1)) X S (xI_n (by omega) (by omega)) dL_law_345 ?_
  refine xr_i2l X dL_law_346 ?_
  refine xr_bipush (v := 32) X dL_law_347 (by decide) ?_
  refine xr_lshl X dL_law_349 ?_
  refine xr_aload_n X 3 dL_law_350 rfl rfl ?_
  refine xr_iload_n X 0 dL_law_351 rfl rfl ?_
  refine xr_iconst (v := 2) X dL_law_352 (by decide) ?_
  refine xr_iadd X dL_law_353 ?_
  refine xr_top (y := nI (6 * i + 2)) (nI_add (6 * i) 2) ?_
  refine xr_sld (j := (6 * i + 2)) X S (xI_n (by omega) (by omega)) dL_law_354 ?_
  refine xr_i2l X dL_law_355 ?_
  refine xr_ldc2 (v := 4294967295) X kw_1307 dL_law_356 ?_
  refine xr_land X dL_law_359 ?_
  refine xr_lor X dL_law_360 ?_
  refine xr_nml (fun w9 e_w9 => ?_)
  refine xr_aload_n X 3 dL_law_361 rfl rfl ?_
  refine xr_iload_n X 0 dL_law_362 rfl rfl ?_
  refine xr_iconst (v := 3) X dL_law_363 (by decide) ?_
  refine xr_iadd X dL_law_364 ?_
  refine xr_top (y := nI (6 * i + 3)) (nI_add (6 * i) 3) ?_
  refine xr_sld (j := (6 * i + 3)) X S (xI_n (by omega) (by omega)) dL_law_365 ?_
  obtain ⟨r9, h1, h2, sz1, f1, f2, q1, C, q2, M, I2⟩ := s_feed (l := Γ.2.1) (Ω := Ω) (v := w9) (n := xs (6 * i + 3)) I hw hm
  refine xr_callV X q1 rfl kw_290 kw_291 kw_292 cw_X11_feed [.long w9, .int (xs (6 * i + 3))] C rfl rfl rfl rfl rfl (Nat.ble_eq_true_of_le (by omega)) (Nat.ble_eq_true_of_le (by omega)) dL_law_366 ?_
  refine xr_aload_n X 1 dL_law_369 rfl rfl ?_
  refine xr_aload_n X 3 dL_law_370 rfl rfl ?_
  refine xr_iload_n X 0 dL_law_371 rfl rfl ?_
  refine xr_iconst (v := 1) X dL_law_372 (by decide) ?_
  refine xr_iadd X dL_law_373 ?_
  refine xr_top (y := nI (6 * i + 1)) (nI_add (6 * i) 1) ?_
  refine xr_sld (j := (6 * i + 1)) X S (xI_n (by omega) (by omega)) dL_law_374 ?_
  refine xr_i2l X dL_law_375 ?_
  refine xr_bipush (v := 32) X dL_law_376 (by decide) ?_
  refine xr_lshl X dL_law_378 ?_
  refine xr_aload_n X 3 dL_law_379 rfl rfl ?_
  refine xr_iload_n X 0 dL_law_380 rfl rfl ?_
  refine xr_iconst (v := 2) X dL_law_381 (by decide) ?_
  refine xr_iadd X dL_law_382 ?_
  refine xr_top (y := nI (6 * i + 2)) (nI_add (6 * i) 2) ?_
  refine xr_sld (j := (6 * i + 2)) X S (xI_n (by omega) (by omega)) dL_law_383 ?_
  refine xr_i2l X dL_law_384 ?_
  refine xr_ldc2 (v := 4294967295) X kw_1307 dL_law_385 ?_
  refine xr_land X dL_law_388 ?_
  refine xr_lor X dL_law_389 ?_
  refine xr_topl (y := w9) e_w9.symm ?_
  refine xr_aload_n X 3 dL_law_390 rfl rfl ?_
  refine xr_iload_n X 0 dL_law_391 rfl rfl ?_
  refine xr_iconst (v := 3) X dL_law_392 (by decide) ?_
  refine xr_iadd X dL_law_393 ?_
  refine xr_top (y := nI (6 * i + 3)) (nI_add (6 * i) 3) ?_
  refine xr_sld (j := (6 * i + 3)) X S (xI_n (by omega) (by omega)) dL_law_394 ?_
  refine xr_callV X q2 rfl kw_1049 kw_1050 kw_1051 cw_X12_feed [.long w9, .int (xs (6 * i + 3))] M rfl rfl rfl rfl rfl (Nat.ble_eq_true_of_le (by omega)) (Nat.ble_eq_true_of_le (by omega)) dL_law_395 ?_
  refine xr_icmp_eq (tgt := 1048) X dL_law_398 (by decide) (fun _ => ?_) (fun c_398 => absurd rfl c_398)
  refine xr_iinc (v := nI (6 * (i + 1))) (lv' := [(3, .int (nI (6 * (i + 1)))), (2, .ref m), (1, .ref e), (0, .ref b)]) X 0 dL_law_1048 rfl (by rw [show 6 * (i + 1) = 6 * i + 6 by omega]; exact nI_add (6 * i) 6) rfl rfl ?_
  refine xr_goto (tgt := 18) X dL_law_1051 (by decide) ?_
  refine xr_wid (k2 := 49 + 7 * (i + 1)) (n2 := 2983 + 21 * (i + 1)) (by omega) (by omega) ?_
  exact KI _ _ I2
set_option maxRecDepth 100000 in
theorem l_case_town {Γ : xΓ} {Ω : xW} {h : xH} {sz : Nat} {e w m b L i : Nat} {xs : Nat → Int32} {nm : String} {Q : State → Prop} (X : xX Γ Ω cL_law 4 RL nm ret 12 430 600000 7302250) (S : xScr Γ Ω b L xs) (hw : w = e + 16) (hm : m = e + 37) (hL : L ≤ 384) (hi : 6 * i + 6 ≤ L) (I : INV e w m h sz) (hdom : ∀ (a : Nat) (e : xE), h a = some e → Ω.2.1 ≤ a ∧ a < sz) (KI : ∀ (h : xH) (sz : Nat), INV e w m h sz → xG Γ Ω 4 Q 18 [(3, .int (nI (6 * (i + 1)))), (2, .ref m), (1, .ref e), (0, .ref b)] [] h sz (49 + 7 * (i + 1)) (2983 + 21 * (i + 1))) : xG Γ Ω 4 Q 403 [(3, .int (nI (6 * i))), (2, .ref m), (1, .ref e), (0, .ref b)] [] h sz (49 + 7 * i) (2983 + 21 * i) := by
  refine xr_aload_n X 2 dL_law_403 rfl rfl ?_
  obtain ⟨r9, h1, h2, sz1, f1, f2, q1, C, q2, M, I2⟩ := s_town (l := Γ.2.1) (Ω := Ω)  I hw hm (fun a9 y9 z9 => (hdom a9 y9 z9).2)
  refine xr_callV X q1 rfl kw_303 kw_304 kw_305 cw_X11_town [] C rfl rfl rfl rfl rfl (Nat.ble_eq_true_of_le (by omega)) (Nat.ble_eq_true_of_le (by omega)) dL_law_404 ?_
  refine xr_aload_n X 1 dL_law_407 rfl rfl ?_
  refine xr_callV X q2 rfl kw_1056 kw_1057 kw_1058 cw_X12_town [] M rfl rfl rfl rfl rfl (Nat.ble_eq_true_of_le (by omega)) (Nat.ble_eq_true_of_le (by omega)) dL_law_408 ?_
  refine xr_icmp_eq (tgt := 1048) X dL_law_411 (by decide) (fun _ => ?_) (fun c_411 => absurd rfl c_411)
  refine xr_iinc (v := nI (6 * (i + 1))) (lv' := [(3, .int (nI (6 * (i + 1)))), (2, .ref m), (1, .ref e), (0, .ref b)]) X 0 dL_law_1048 rfl (by rw [show 6 * (i + 1) = 6 * i + 6 by omega]; exact nI_add (6 * i) 6) rfl rfl ?_
  refine xr_goto (tgt := 18) X dL_law_1051 (by decide) ?_
  refine xr_wid (k2 := 49 + 7 * (i + 1)) (n2 := 2983 + 21 * (i + 1)) (by omega) (by omega) ?_
  exact KI _ _ I2
set_option maxRecDepth 100000 in
theorem l_case_fault {Γ : xΓ} {Ω : xW} {h : xH} {sz : Nat} {e w m b L i : Nat} {xs : Nat → Int32} {nm : String} {Q : State → Prop} (X : xX Γ Ω cL_law 4 RL nm ret 12 430 600000 7302250) (S : xScr Γ Ω b L xs) (hw : w = e + 16) (hm : m = e + 37) (hL : L ≤ 384) (hi : 6 * i + 6 ≤ L) (I : INV e w m h sz) (hdom : ∀ (a : Nat) (e : xE), h a = some e → Ω.2.1 ≤ a ∧ a < sz) (KI : ∀ (h : xH) (sz : Nat), INV e w m h sz → xG Γ Ω 4 Q 18 [(3, .int (nI (6 * (i + 1)))), (2, .ref m), (1, .ref e), (0, .ref b)] [] h sz (49 + 7 * (i + 1)) (2983 + 21 * (i + 1))) : xG Γ Ω 4 Q 416 [(3, .int (nI (6 * i))), (2, .ref m), (1, .ref e), (0, .ref b)] [] h sz (49 + 7 * i) (2983 + 21 * i) := by
  refine xr_aload_n X 2 dL_law_416 rfl rfl ?_
  obtain ⟨r9, h1, h2, sz1, f1, f2, q1, C, q2, M, I2⟩ := s_fault (l := Γ.2.1) (Ω := Ω)  I hw hm
  refine xr_callV X q1 rfl kw_547 kw_548 kw_549 cw_X11_fault [] C rfl rfl rfl rfl rfl (Nat.ble_eq_true_of_le (by omega)) (Nat.ble_eq_true_of_le (by omega)) dL_law_417 ?_
  refine xr_aload_n X 1 dL_law_420 rfl rfl ?_
  refine xr_callV X q2 rfl kw_1113 kw_1114 kw_1115 cw_X12_fault [] M rfl rfl rfl rfl rfl (Nat.ble_eq_true_of_le (by omega)) (Nat.ble_eq_true_of_le (by omega)) dL_law_421 ?_
  refine xr_icmp_eq (tgt := 1048) X dL_law_424 (by decide) (fun _ => ?_) (fun c_424 => absurd rfl c_424)
  refine xr_iinc (v := nI (6 * (i + 1))) (lv' := [(3, .int (nI (6 * (i + 1)))), (2, .ref m), (1, .ref e), (0, .ref b)]) X 0 dL_law_1048 rfl (by rw [show 6 * (i + 1) = 6 * i + 6 by omega]; exact nI_add (6 * i) 6) rfl rfl ?_
  refine xr_goto (tgt := 18) X dL_law_1051 (by decide) ?_
  refine xr_wid (k2 := 49 + 7 * (i + 1)) (n2 := 2983 + 21 * (i + 1)) (by omega) (by omega) ?_
  exact KI _ _ I2
set_option maxRecDepth 100000 in
theorem l_case_post {Γ : xΓ} {Ω : xW} {h : xH} {sz : Nat} {e w m b L i : Nat} {xs : Nat → Int32} {nm : String} {Q : State → Prop} (X : xX Γ Ω cL_law 4 RL nm ret 12 430 600000 7302250) (S : xScr Γ Ω b L xs) (hw : w = e + 16) (hm : m = e + 37) (hL : L ≤ 384) (hi : 6 * i + 6 ≤ L) (I : INV e w m h sz) (hdom : ∀ (a : Nat) (e : xE), h a = some e → Ω.2.1 ≤ a ∧ a < sz) (KI : ∀ (h : xH) (sz : Nat), INV e w m h sz → xG Γ Ω 4 Q 18 [(3, .int (nI (6 * (i + 1)))), (2, .ref m), (1, .ref e), (0, .ref b)] [] h sz (49 + 7 * (i + 1)) (2983 + 21 * (i + 1))) : xG Γ Ω 4 Q 429 [(3, .int (nI (6 * i))), (2, .ref m), (1, .ref e), (0, .ref b)] [] h sz (49 + 7 * i) (2983 + 21 * i) := by
  refine xr_aload_n X 2 dL_law_429 rfl rfl ?_
  refine xr_aload_n X 3 dL_law_430 rfl rfl ?_
  refine xr_iload_n X 0 dL_law_431 rfl rfl ?_
  refine xr_iconst (v := 1) X dL_law_432 (by decide) ?_
  refine xr_iadd X dL_law_433 ?_
  refine xr_top (y := nI (6 * i + 1)) (nI_add (6 * i) 1) ?_
  refine xr_sld (j := (6 * i + 1)) X S (xI_n (by omega) (by omega)) dL_law_434 ?_
  obtain ⟨r9, h1, h2, sz1, f1, f2, q1, C, q2, M, I2⟩ := s_post (l := Γ.2.1) (Ω := Ω) (s := xs (6 * i + 1)) I hw hm
  refine xr_callV X q1 rfl kw_555 kw_556 kw_557 cw_X11_post [.int (xs (6 * i + 1))] C rfl rfl rfl rfl rfl (Nat.ble_eq_true_of_le (by omega)) (Nat.ble_eq_true_of_le (by omega)) dL_law_435 ?_
  refine xr_aload_n X 1 dL_law_438 rfl rfl ?_
  refine xr_aload_n X 3 dL_law_439 rfl rfl ?_
  refine xr_iload_n X 0 dL_law_440 rfl rfl ?_
  refine xr_iconst (v := 1) X dL_law_441 (by decide) ?_
  refine xr_iadd X dL_law_442 ?_
  refine xr_top (y := nI (6 * i + 1)) (nI_add (6 * i) 1) ?_
  refine xr_sld (j := (6 * i + 1)) X S (xI_n (by omega) (by omega)) dL_law_443 ?_
  refine xr_callV X q2 rfl kw_1117 kw_1118 kw_1119 cw_X12_post [.int (xs (6 * i + 1))] M rfl rfl rfl rfl rfl (Nat.ble_eq_true_of_le (by omega)) (Nat.ble_eq_true_of_le (by omega)) dL_law_444 ?_
  refine xr_icmp_eq (tgt := 1048) X dL_law_447 (by decide) (fun _ => ?_) (fun c_447 => absurd rfl c_447)
  refine xr_iinc (v := nI (6 * (i + 1))) (lv' := [(3, .int (nI (6 * (i + 1)))), (2, .ref m), (1, .ref e), (0, .ref b)]) X 0 dL_law_1048 rfl (by rw [show 6 * (i + 1) = 6 * i + 6 by omega]; exact nI_add (6 * i) 6) rfl rfl ?_
  refine xr_goto (tgt := 18) X dL_law_1051 (by decide) ?_
  refine xr_wid (k2 := 49 + 7 * (i + 1)) (n2 := 2983 + 21 * (i + 1)) (by omega) (by omega) ?_
  exact KI _ _ I2
set_option maxRecDepth 100000 in
theorem l_case_posts {Γ : xΓ} {Ω : xW} {h : xH} {sz : Nat} {e w m b L i : Nat} {xs : Nat → Int32} {nm : String} {Q : State → Prop} (X : xX Γ Ω cL_law 4 RL nm ret 12 430 600000 7302250) (S : xScr Γ Ω b L xs) (hw : w = e + 16) (hm : m = e + 37) (hL : L ≤ 384) (hi : 6 * i + 6 ≤ L) (I : INV e w m h sz) (hdom : ∀ (a : Nat) (e : xE), h a = some e → Ω.2.1 ≤ a ∧ a < sz) (KI : ∀ (h : xH) (sz : Nat), INV e w m h sz → xG Γ Ω 4 Q 18 [(3, .int (nI (6 * (i + 1)))), (2, .ref m), (1, .ref e), (0, .ref b)] [] h sz (49 + 7 * (i + 1)) (2983 + 21 * (i + 1))) : xG Γ Ω 4 Q 452 [(3, .int (nI (6 * i))), (2, .ref m), (1, .ref e), (0, .ref b)] [] h sz (49 + 7 * i) (2983 + 21 * i) := by
  refine xr_aload_n X 2 dL_law_452 rfl rfl ?_
  refine xr_aload_n X 3 dL_law_453 rfl rfl ?_
  refine xr_iload_n X 0 dL_law_454 rfl rfl ?_
  refine xr_iconst (v := 1) X dL_law_455 (by decide) ?_
  refine xr_iadd X dL_law_456 ?_
  refine xr_top (y := nI (6 * i + 1)) (nI_add (6 * i) 1) ?_
  refine xr_sld (j := (6 * i + 1)) X S (xI_n (by omega) (by omega)) dL_law_457 ?_
  refine xr_aload_n X 3 dL_law_458 rfl rfl ?_
  refine xr_iload_n X 0 dL_law_459 rfl rfl ?_
  refine xr_iconst (v := 2) X dL_law_460 (by decide) ?_
  refine xr_iadd X dL_law_461 ?_
  refine xr_top (y := nI (6 * i + 2)) (nI_add (6 * i) 2) ?_
  refine xr_sld (j := (6 * i + 2)) X S (xI_n (by omega) (by omega)) dL_law_462 ?_
  refine xr_aload_n X 3 dL_law_463 rfl rfl ?_
  refine xr_iload_n X 0 dL_law_464 rfl rfl ?_
  refine xr_iconst (v := 3) X dL_law_465 (by decide) ?_
  refine xr_iadd X dL_law_466 ?_
  refine xr_top (y := nI (6 * i + 3)) (nI_add (6 * i) 3) ?_
  refine xr_sld (j := (6 * i + 3)) X S (xI_n (by omega) (by omega)) dL_law_467 ?_
  obtain ⟨r9, h1, h2, sz1, f1, f2, q1, C, q2, M, I2⟩ := s_posts (l := Γ.2.1) (Ω := Ω) (r := xs (6 * i + 1)) (i := xs (6 * i + 2)) (n := xs (6 * i + 3)) I hw hm
  refine xr_callV X q1 rfl kw_602 kw_603 kw_604 cw_X11_posts [.int (xs (6 * i + 1)), .int (xs (6 * i + 2)), .int (xs (6 * i + 3))] C rfl rfl rfl rfl rfl (Nat.ble_eq_true_of_le (by omega)) (Nat.ble_eq_true_of_le (by omega)) dL_law_468 ?_
  refine xr_aload_n X 1 dL_law_471 rfl rfl ?_
  refine xr_aload_n X 3 dL_law_472 rfl rfl ?_
  refine xr_iload_n X 0 dL_law_473 rfl rfl ?_
  refine xr_iconst (v := 1) X dL_law_474 (by decide) ?_
  refine xr_iadd X dL_law_475 ?_
  refine xr_top (y := nI (6 * i + 1)) (nI_add (6 * i) 1) ?_
  refine xr_sld (j := (6 * i + 1)) X S (xI_n (by omega) (by omega)) dL_law_476 ?_
  refine xr_aload_n X 3 dL_law_477 rfl rfl ?_
  refine xr_iload_n X 0 dL_law_478 rfl rfl ?_
  refine xr_iconst (v := 2) X dL_law_479 (by decide) ?_
  refine xr_iadd X dL_law_480 ?_
  refine xr_top (y := nI (6 * i + 2)) (nI_add (6 * i) 2) ?_
  refine xr_sld (j := (6 * i + 2)) X S (xI_n (by omega) (by omega)) dL_law_481 ?_
  refine xr_aload_n X 3 dL_law_482 rfl rfl ?_
  refine xr_iload_n X 0 dL_law_483 rfl rfl ?_
  refine xr_iconst (v := 3) X dL_law_484 (by decide) ?_
  refine xr_iadd X dL_law_485 ?_
  refine xr_top (y := nI (6 * i + 3)) (nI_add (6 * i) 3) ?_
  refine xr_sld (j := (6 * i + 3)) X S (xI_n (by omega) (by omega)) dL_law_486 ?_
  refine xr_callV X q2 rfl kw_1161 kw_1162 kw_1163 cw_X12_posts [.int (xs (6 * i + 1)), .int (xs (6 * i + 2)), .int (xs (6 * i + 3))] M rfl rfl rfl rfl rfl (Nat.ble_eq_true_of_le (by omega)) (Nat.ble_eq_true_of_le (by omega)) dL_law_487 ?_
  refine xr_icmp_eq (tgt := 1048) X dL_law_490 (by decide) (fun _ => ?_) (fun c_490 => absurd rfl c_490)
  refine xr_iinc (v := nI (6 * (i + 1))) (lv' := [(3, .int (nI (6 * (i + 1)))), (2, .ref m), (1, .ref e), (0, .ref b)]) X 0 dL_law_1048 rfl (by rw [show 6 * (i + 1) = 6 * i + 6 by omega]; exact nI_add (6 * i) 6) rfl rfl ?_
  refine xr_goto (tgt := 18) X dL_law_1051 (by decide) ?_
  refine xr_wid (k2 := 49 + 7 * (i + 1)) (n2 := 2983 + 21 * (i + 1)) (by omega) (by omega) ?_
  exact KI _ _ I2
set_option maxRecDepth 100000 in
theorem l_case_lots {Γ : xΓ} {Ω : xW} {h : xH} {sz : Nat} {e w m b L i : Nat} {xs : Nat → Int32} {nm : String} {Q : State → Prop} (X : xX Γ Ω cL_law 4 RL nm ret 12 430 600000 7302250) (S : xScr Γ Ω b L xs) (hw : w = e + 16) (hm : m = e + 37) (hL : L ≤ 384) (hi : 6 * i + 6 ≤ L) (I : INV e w m h sz) (hdom : ∀ (a : Nat) (e : xE), h a = some e → Ω.2.1 ≤ a ∧ a < sz) (KI : ∀ (h : xH) (sz : Nat), INV e w m h sz → xG Γ Ω 4 Q 18 [(3, .int (nI (6 * (i + 1)))), (2, .ref m), (1, .ref e), (0, .ref b)] [] h sz (49 + 7 * (i + 1)) (2983 + 21 * (i + 1))) : xG Γ Ω 4 Q 495 [(3, .int (nI (6 * i))), (2, .ref m), (1, .ref e), (0, .ref b)] [] h sz (49 + 7 * i) (2983 + 21 * i) := by
  refine xr_aload_n X 2 dL_law_495 rfl rfl ?_
  refine xr_aload_n X 3 dL_law_496 rfl rfl ?_
  refine xr_iload_n X 0 dL_law_497 rfl rfl ?_
  refine xr_iconst (v := 1) X dL_law_498 (by decide) ?_
  refine xr_iadd X dL_law_499 ?_
  refine xr_top (y := nI (6 * i + 1)) (nI_add (6 * i) 1) ?_
  refine xr_sld (j := (6 * i + 1)) X S (xI_n (by omega) (by omega)) dL_law_500 ?_
  refine xr_aload_n X 3 dL_law_501 rfl rfl ?_
  refine xr_iload_n X 0 dL_law_502 rfl rfl ?_
  refine xr_iconst (v := 2) X dL_law_503 (by decide) ?_
  refine xr_iadd X dL_law_504 ?_
  refine xr_top (y := nI (6 * i + 2)) (nI_add (6 * i) 2) ?_
  refine xr_sld (j := (6 * i + 2)) X S (xI_n (by omega) (by omega)) dL_law_505 ?_
  obtain ⟨r9, h1, h2, sz1, f1, f2, q1, C, q2, M, I2⟩ := s_lots (l := Γ.2.1) (Ω := Ω) (s := xs (6 * i + 1)) (t9 := xs (6 * i + 2)) I hw hm
  refine xr_callV X q1 rfl kw_614 kw_615 kw_616 cw_X11_lots [.int (xs (6 * i + 1)), .int (xs (6 * i + 2))] C rfl rfl rfl rfl rfl (Nat.ble_eq_true_of_le (by omega)) (Nat.ble_eq_true_of_le (by omega)) dL_law_506 ?_
  refine xr_aload_n X 1 dL_law_509 rfl rfl ?_
  refine xr_aload_n X 3 dL_law_510 rfl rfl ?_
  refine xr_iload_n X 0 dL_law_511 rfl rfl ?_
  refine xr_iconst (v := 1) X dL_law_512 (by decide) ?_
  refine xr_iadd X dL_law_513 ?_
  refine xr_top (y := nI (6 * i + 1)) (nI_add (6 * i) 1) ?_
  refine xr_sld (j := (6 * i + 1)) X S (xI_n (by omega) (by omega)) dL_law_514 ?_
  refine xr_aload_n X 3 dL_law_515 rfl rfl ?_
  refine xr_iload_n X 0 dL_law_516 rfl rfl ?_
  refine xr_iconst (v := 2) X dL_law_517 (by decide) ?_
  refine xr_iadd X dL_law_518 ?_
  refine xr_top (y := nI (6 * i + 2)) (nI_add (6 * i) 2) ?_
  refine xr_sld (j := (6 * i + 2)) X S (xI_n (by omega) (by omega)) dL_law_519 ?_
  refine xr_callV X q2 rfl kw_1174 kw_1175 kw_1176 cw_X12_lots [.int (xs (6 * i + 1)), .int (xs (6 * i + 2))] M rfl rfl rfl rfl rfl (Nat.ble_eq_true_of_le (by omega)) (Nat.ble_eq_true_of_le (by omega)) dL_law_520 ?_
  refine xr_icmp_eq (tgt := 1048) X dL_law_523 (by decide) (fun _ => ?_) (fun c_523 => absurd rfl c_523)
  refine xr_iinc (v := nI (6 * (i + 1))) (lv' := [(3, .int (nI (6 * (i + 1)))), (2, .ref m), (1, .ref e), (0, .ref b)]) X 0 dL_law_1048 rfl (by rw [show 6 * (i + 1) = 6 * i + 6 by omega]; exact nI_add (6 * i) 6) rfl rfl ?_
  refine xr_goto (tgt := 18) X dL_law_1051 (by decide) ?_
  refine xr_wid (k2 := 49 + 7 * (i + 1)) (n2 := 2983 + 21 * (i + 1)) (by omega) (by omega) ?_
  exact KI _ _ I2
set_option maxRecDepth 100000 in
theorem l_case_undo {Γ : xΓ} {Ω : xW} {h : xH} {sz : Nat} {e w m b L i : Nat} {xs : Nat → Int32} {nm : String} {Q : State → Prop} (X : xX Γ Ω cL_law 4 RL nm ret 12 430 600000 7302250) (S : xScr Γ Ω b L xs) (hw : w = e + 16) (hm : m = e + 37) (hL : L ≤ 384) (hi : 6 * i + 6 ≤ L) (I : INV e w m h sz) (hdom : ∀ (a : Nat) (e : xE), h a = some e → Ω.2.1 ≤ a ∧ a < sz) (KI : ∀ (h : xH) (sz : Nat), INV e w m h sz → xG Γ Ω 4 Q 18 [(3, .int (nI (6 * (i + 1)))), (2, .ref m), (1, .ref e), (0, .ref b)] [] h sz (49 + 7 * (i + 1)) (2983 + 21 * (i + 1))) : xG Γ Ω 4 Q 528 [(3, .int (nI (6 * i))), (2, .ref m), (1, .ref e), (0, .ref b)] [] h sz (49 + 7 * i) (2983 + 21 * i) := by
  refine xr_aload_n X 2 dL_law_528 rfl rfl ?_
  obtain ⟨r9, h1, h2, sz1, f1, f2, q1, C, q2, M, I2⟩ := s_undo (l := Γ.2.1) (Ω := Ω)  I hw hm
  refine xr_callV X q1 rfl kw_635 kw_636 kw_637 cw_X11_undo [] C rfl rfl rfl rfl rfl (Nat.ble_eq_true_of_le (by omega)) (Nat.ble_eq_true_of_le (by omega)) dL_law_529 ?_
  refine xr_aload_n X 1 dL_law_532 rfl rfl ?_
  refine xr_callV X q2 rfl kw_1182 kw_1183 kw_1184 cw_X12_undo [] M rfl rfl rfl rfl rfl (Nat.ble_eq_true_of_le (by omega)) (Nat.ble_eq_true_of_le (by omega)) dL_law_533 ?_
  refine xr_icmp_eq (tgt := 1048) X dL_law_536 (by decide) (fun _ => ?_) (fun c_536 => absurd rfl c_536)
  refine xr_iinc (v := nI (6 * (i + 1))) (lv' := [(3, .int (nI (6 * (i + 1)))), (2, .ref m), (1, .ref e), (0, .ref b)]) X 0 dL_law_1048 rfl (by rw [show 6 * (i + 1) = 6 * i + 6 by omega]; exact nI_add (6 * i) 6) rfl rfl ?_
  refine xr_goto (tgt := 18) X dL_law_1051 (by decide) ?_
  refine xr_wid (k2 := 49 + 7 * (i + 1)) (n2 := 2983 + 21 * (i + 1)) (by omega) (by omega) ?_
  exact KI _ _ I2
set_option maxRecDepth 100000 in
theorem l_case_person {Γ : xΓ} {Ω : xW} {h : xH} {sz : Nat} {e w m b L i : Nat} {xs : Nat → Int32} {nm : String} {Q : State → Prop} (X : xX Γ Ω cL_law 4 RL nm ret 12 430 600000 7302250) (S : xScr Γ Ω b L xs) (hw : w = e + 16) (hm : m = e + 37) (hL : L ≤ 384) (hi : 6 * i + 6 ≤ L) (I : INV e w m h sz) (hdom : ∀ (a : Nat) (e : xE), h a = some e → Ω.2.1 ≤ a ∧ a < sz) (KI : ∀ (h : xH) (sz : Nat), INV e w m h sz → xG Γ Ω 4 Q 18 [(3, .int (nI (6 * (i + 1)))), (2, .ref m), (1, .ref e), (0, .ref b)] [] h sz (49 + 7 * (i + 1)) (2983 + 21 * (i + 1))) : xG Γ Ω 4 Q 541 [(3, .int (nI (6 * i))), (2, .ref m), (1, .ref e), (0, .ref b)] [] h sz (49 + 7 * i) (2983 + 21 * i) := by
  refine xr_aload_n X 2 dL_law_541 rfl rfl ?_
  refine xr_aload_n X 3 dL_law_542 rfl rfl ?_
  refine xr_iload_n X 0 dL_law_543 rfl rfl ?_
  refine xr_iconst (v := 1) X dL_law_544 (by decide) ?_
  refine xr_iadd X dL_law_545 ?_
  refine xr_top (y := nI (6 * i + 1)) (nI_add (6 * i) 1) ?_
  refine xr_sld (j := (6 * i + 1)) X S (xI_n (by omega) (by omega)) dL_law_546 ?_
  refine xr_aload_n X 3 dL_law_547 rfl rfl ?_
  refine xr_iload_n X 0 dL_law_548 rfl rfl ?_
  refine xr_iconst (v := 2) X dL_law_549 (by decide) ?_
  refine xr_iadd X dL_law_550 ?_
  refine xr_top (y := nI (6 * i + 2)) (nI_add (6 * i) 2) ?_
  refine xr_sld (j := (6 * i + 2)) X S (xI_n (by omega) (by omega)) dL_law_551 ?_
  obtain ⟨r9, h1, h2, sz1, f1, f2, q1, C, q2, M, I2⟩ := s_person (l := Γ.2.1) (Ω := Ω) (p := xs (6 * i + 1)) (v := xs (6 * i + 2)) I hw hm
  refine xr_callV X q1 rfl kw_643 kw_644 kw_645 cw_X11_person [.int (xs (6 * i + 1)), .int (xs (6 * i + 2))] C rfl rfl rfl rfl rfl (Nat.ble_eq_true_of_le (by omega)) (Nat.ble_eq_true_of_le (by omega)) dL_law_552 ?_
  refine xr_aload_n X 1 dL_law_555 rfl rfl ?_
  refine xr_aload_n X 3 dL_law_556 rfl rfl ?_
  refine xr_iload_n X 0 dL_law_557 rfl rfl ?_
  refine xr_iconst (v := 1) X dL_law_558 (by decide) ?_
  refine xr_iadd X dL_law_559 ?_
  refine xr_top (y := nI (6 * i + 1)) (nI_add (6 * i) 1) ?_
  refine xr_sld (j := (6 * i + 1)) X S (xI_n (by omega) (by omega)) dL_law_560 ?_
  refine xr_aload_n X 3 dL_law_561 rfl rfl ?_
  refine xr_iload_n X 0 dL_law_562 rfl rfl ?_
  refine xr_iconst (v := 2) X dL_law_563 (by decide) ?_
  refine xr_iadd X dL_law_564 ?_
  refine xr_top (y := nI (6 * i + 2)) (nI_add (6 * i) 2) ?_
  refine xr_sld (j := (6 * i + 2)) X S (xI_n (by omega) (by omega)) dL_law_565 ?_
  refine xr_callV X q2 rfl kw_1186 kw_1187 kw_1188 cw_X12_person [.int (xs (6 * i + 1)), .int (xs (6 * i + 2))] M rfl rfl rfl rfl rfl (Nat.ble_eq_true_of_le (by omega)) (Nat.ble_eq_true_of_le (by omega)) dL_law_566 ?_
  refine xr_icmp_eq (tgt := 1048) X dL_law_569 (by decide) (fun _ => ?_) (fun c_569 => absurd rfl c_569)
  refine xr_iinc (v := nI (6 * (i + 1))) (lv' := [(3, .int (nI (6 * (i + 1)))), (2, .ref m), (1, .ref e), (0, .ref b)]) X 0 dL_law_1048 rfl (by rw [show 6 * (i + 1) = 6 * i + 6 by omega]; exact nI_add (6 * i) 6) rfl rfl ?_
  refine xr_goto (tgt := 18) X dL_law_1051 (by decide) ?_
  refine xr_wid (k2 := 49 + 7 * (i + 1)) (n2 := 2983 + 21 * (i + 1)) (by omega) (by omega) ?_
  exact KI _ _ I2
set_option maxRecDepth 100000 in
theorem l_case_done {Γ : xΓ} {Ω : xW} {h : xH} {sz : Nat} {e w m b L i : Nat} {xs : Nat → Int32} {nm : String} {Q : State → Prop} (X : xX Γ Ω cL_law 4 RL nm ret 12 430 600000 7302250) (S : xScr Γ Ω b L xs) (hw : w = e + 16) (hm : m = e + 37) (hL : L ≤ 384) (hi : 6 * i + 6 ≤ L) (I : INV e w m h sz) (hdom : ∀ (a : Nat) (e : xE), h a = some e → Ω.2.1 ≤ a ∧ a < sz) (KI : ∀ (h : xH) (sz : Nat), INV e w m h sz → xG Γ Ω 4 Q 18 [(3, .int (nI (6 * (i + 1)))), (2, .ref m), (1, .ref e), (0, .ref b)] [] h sz (49 + 7 * (i + 1)) (2983 + 21 * (i + 1))) : xG Γ Ω 4 Q 574 [(3, .int (nI (6 * i))), (2, .ref m), (1, .ref e), (0, .ref b)] [] h sz (49 + 7 * i) (2983 + 21 * i) := by
  refine xr_aload_n X 2 dL_law_574 rfl rfl ?_
  refine xr_aload_n X 3 dL_law_575 rfl rfl ?_
  refine xr_iload_n X 0 dL_law_576 rfl rfl ?_
  refine xr_iconst (v := 1) X dL_law_577 (by decide) ?_
  refine xr_iadd X dL_law_578 ?_
  refine xr_top (y := nI (6 * i + 1)) (nI_add (6 * i) 1) ?_
  refine xr_sld (j := (6 * i + 1)) X S (xI_n (by omega) (by omega)) dL_law_579 ?_
  obtain ⟨r9, h1, h2, sz1, f1, f2, q1, C, q2, M, I2⟩ := s_done (l := Γ.2.1) (Ω := Ω) (s := xs (6 * i + 1)) I hw hm
  refine xr_callV X q1 rfl kw_649 kw_650 kw_651 cw_X11_done [.int (xs (6 * i + 1))] C rfl rfl rfl rfl rfl (Nat.ble_eq_true_of_le (by omega)) (Nat.ble_eq_true_of_le (by omega)) dL_law_580 ?_
  refine xr_aload_n X 1 dL_law_583 rfl rfl ?_
  refine xr_aload_n X 3 dL_law_584 rfl rfl ?_
  refine xr_iload_n X 0 dL_law_585 rfl rfl ?_
  refine xr_iconst (v := 1) X dL_law_586 (by decide) ?_
  refine xr_iadd X dL_law_587 ?_
  refine xr_top (y := nI (6 * i + 1)) (nI_add (6 * i) 1) ?_
  refine xr_sld (j := (6 * i + 1)) X S (xI_n (by omega) (by omega)) dL_law_588 ?_
  refine xr_callV X q2 rfl kw_1194 kw_1195 kw_1196 cw_X12_done [.int (xs (6 * i + 1))] M rfl rfl rfl rfl rfl (Nat.ble_eq_true_of_le (by omega)) (Nat.ble_eq_true_of_le (by omega)) dL_law_589 ?_
  refine xr_icmp_eq (tgt := 1048) X dL_law_592 (by decide) (fun _ => ?_) (fun c_592 => absurd rfl c_592)
  refine xr_iinc (v := nI (6 * (i + 1))) (lv' := [(3, .int (nI (6 * (i + 1)))), (2, .ref m), (1, .ref e), (0, .ref b)]) X 0 dL_law_1048 rfl (by rw [show 6 * (i + 1) = 6 * i + 6 by omega]; exact nI_add (6 * i) 6) rfl rfl ?_
  refine xr_goto (tgt := 18) X dL_law_1051 (by decide) ?_
  refine xr_wid (k2 := 49 + 7 * (i + 1)) (n2 := 2983 + 21 * (i + 1)) (by omega) (by omega) ?_
  exact KI _ _ I2
set_option maxRecDepth 100000 in
theorem l_case_agreeing {Γ : xΓ} {Ω : xW} {h : xH} {sz : Nat} {e w m b L i : Nat} {xs : Nat → Int32} {nm : String} {Q : State → Prop} (X : xX Γ Ω cL_law 4 RL nm ret 12 430 600000 7302250) (S : xScr Γ Ω b L xs) (hw : w = e + 16) (hm : m = e + 37) (hL : L ≤ 384) (hi : 6 * i + 6 ≤ L) (I : INV e w m h sz) (hdom : ∀ (a : Nat) (e : xE), h a = some e → Ω.2.1 ≤ a ∧ a < sz) (KI : ∀ (h : xH) (sz : Nat), INV e w m h sz → xG Γ Ω 4 Q 18 [(3, .int (nI (6 * (i + 1)))), (2, .ref m), (1, .ref e), (0, .ref b)] [] h sz (49 + 7 * (i + 1)) (2983 + 21 * (i + 1))) : xG Γ Ω 4 Q 597 [(3, .int (nI (6 * i))), (2, .ref m), (1, .ref e), (0, .ref b)] [] h sz (49 + 7 * i) (2983 + 21 * i) := by
  refine xr_aload_n X 2 dL_law_597 rfl rfl ?_
  refine xr_aload_n X 3 dL_law_598 rfl rfl ?_
  refine xr_iload_n X 0 dL_law_599 rfl rfl ?_
  refine xr_iconst (v := 1) X dL_law_600 (by decide) ?_
  refine xr_iadd X dL_law_601 ?_
  refine xr_top (y := nI (6 * i + 1)) (nI_add (6 * i) 1) ?_
  refine xr_sld (j := (6 * i + 1)) X S (xI_n (by omega) (by omega)) dL_law_602 ?_
  obtain ⟨r9, h1, h2, sz1, f1, f2, q1, C, q2, M, I2⟩ := s_agreeing (l := Γ.2.1) (Ω := Ω) (i := xs (6 * i + 1)) I hw hm
  refine xr_callV X q1 rfl kw_654 kw_655 kw_656 cw_X11_agreeing [.int (xs (6 * i + 1))] C rfl rfl rfl rfl rfl (Nat.ble_eq_true_of_le (by omega)) (Nat.ble_eq_true_of_le (by omega)) dL_law_603 ?_
  refine xr_aload_n X 1 dL_law_606 rfl rfl ?_
  refine xr_aload_n X 3 dL_law_607 rfl rfl ?_
  refine xr_iload_n X 0 dL_law_608 rfl rfl ?_
  refine xr_iconst (v := 1) X dL_law_609 (by decide) ?_
  refine xr_iadd X dL_law_610 ?_
  refine xr_top (y := nI (6 * i + 1)) (nI_add (6 * i) 1) ?_
  refine xr_sld (j := (6 * i + 1)) X S (xI_n (by omega) (by omega)) dL_law_611 ?_
  refine xr_callV X q2 rfl kw_1198 kw_1199 kw_1200 cw_X12_agreeing [.int (xs (6 * i + 1))] M rfl rfl rfl rfl rfl (Nat.ble_eq_true_of_le (by omega)) (Nat.ble_eq_true_of_le (by omega)) dL_law_612 ?_
  refine xr_icmp_eq (tgt := 1048) X dL_law_615 (by decide) (fun _ => ?_) (fun c_615 => absurd rfl c_615)
  refine xr_iinc (v := nI (6 * (i + 1))) (lv' := [(3, .int (nI (6 * (i + 1)))), (2, .ref m), (1, .ref e), (0, .ref b)]) X 0 dL_law_1048 rfl (by rw [show 6 * (i + 1) = 6 * i + 6 by omega]; exact nI_add (6 * i) 6) rfl rfl ?_
  refine xr_goto (tgt := 18) X dL_law_1051 (by decide) ?_
  refine xr_wid (k2 := 49 + 7 * (i + 1)) (n2 := 2983 + 21 * (i + 1)) (by omega) (by omega) ?_
  exact KI _ _ I2
set_option maxRecDepth 100000 in
theorem l_case_fullest {Γ : xΓ} {Ω : xW} {h : xH} {sz : Nat} {e w m b L i : Nat} {xs : Nat → Int32} {nm : String} {Q : State → Prop} (X : xX Γ Ω cL_law 4 RL nm ret 12 430 600000 7302250) (S : xScr Γ Ω b L xs) (hw : w = e + 16) (hm : m = e + 37) (hL : L ≤ 384) (hi : 6 * i + 6 ≤ L) (I : INV e w m h sz) (hdom : ∀ (a : Nat) (e : xE), h a = some e → Ω.2.1 ≤ a ∧ a < sz) (KI : ∀ (h : xH) (sz : Nat), INV e w m h sz → xG Γ Ω 4 Q 18 [(3, .int (nI (6 * (i + 1)))), (2, .ref m), (1, .ref e), (0, .ref b)] [] h sz (49 + 7 * (i + 1)) (2983 + 21 * (i + 1))) : xG Γ Ω 4 Q 620 [(3, .int (nI (6 * i))), (2, .ref m), (1, .ref e), (0, .ref b)] [] h sz (49 + 7 * i) (2983 + 21 * i) := by
  refine xr_aload_n X 2 dL_law_620 rfl rfl ?_
  obtain ⟨r9, h1, h2, sz1, f1, f2, q1, C, q2, M, I2⟩ := s_fullest (l := Γ.2.1) (Ω := Ω)  I hw hm
  refine xr_callV X q1 rfl kw_679 kw_680 kw_681 cw_X11_fullest [] C rfl rfl rfl rfl rfl (Nat.ble_eq_true_of_le (by omega)) (Nat.ble_eq_true_of_le (by omega)) dL_law_621 ?_
  refine xr_aload_n X 1 dL_law_624 rfl rfl ?_
  refine xr_callV X q2 rfl kw_1202 kw_1203 kw_1204 cw_X12_fullest [] M rfl rfl rfl rfl rfl (Nat.ble_eq_true_of_le (by omega)) (Nat.ble_eq_true_of_le (by omega)) dL_law_625 ?_
  refine xr_icmp_eq (tgt := 1048) X dL_law_628 (by decide) (fun _ => ?_) (fun c_628 => absurd rfl c_628)
  refine xr_iinc (v := nI (6 * (i + 1))) (lv' := [(3, .int (nI (6 * (i + 1)))), (2, .ref m), (1, .ref e), (0, .ref b)]) X 0 dL_law_1048 rfl (by rw [show 6 * (i + 1) = 6 * i + 6 by omega]; exact nI_add (6 * i) 6) rfl rfl ?_
  refine xr_goto (tgt := 18) X dL_law_1051 (by decide) ?_
  refine xr_wid (k2 := 49 + 7 * (i + 1)) (n2 := 2983 + 21 * (i + 1)) (by omega) (by omega) ?_
  exact KI _ _ I2
set_option maxRecDepth 100000 in
theorem l_case_culprits {Γ : xΓ} {Ω : xW} {h : xH} {sz : Nat} {e w m b L i : Nat} {xs : Nat → Int32} {nm : String} {Q : State → Prop} (X : xX Γ Ω cL_law 4 RL nm ret 12 430 600000 7302250) (S : xScr Γ Ω b L xs) (hw : w = e + 16) (hm : m = e + 37) (hL : L ≤ 384) (hi : 6 * i + 6 ≤ L) (I : INV e w m h sz) (hdom : ∀ (a : Nat) (e : xE), h a = some e → Ω.2.1 ≤ a ∧ a < sz) (KI : ∀ (h : xH) (sz : Nat), INV e w m h sz → xG Γ Ω 4 Q 18 [(3, .int (nI (6 * (i + 1)))), (2, .ref m), (1, .ref e), (0, .ref b)] [] h sz (49 + 7 * (i + 1)) (2983 + 21 * (i + 1))) : xG Γ Ω 4 Q 633 [(3, .int (nI (6 * i))), (2, .ref m), (1, .ref e), (0, .ref b)] [] h sz (49 + 7 * i) (2983 + 21 * i) := by
  refine xr_aload_n X 2 dL_law_633 rfl rfl ?_
  refine xr_aload_n X 3 dL_law_634 rfl rfl ?_
  refine xr_iload_n X 0 dL_law_635 rfl rfl ?_
  refine xr_iconst (v := 1) X dL_law_636 (by decide) ?_
  refine xr_iadd X dL_law_637 ?_
  refine xr_top (y := nI (6 * i + 1)) (nI_add (6 * i) 1) ?_
  refine xr_sld (j := (6 * i + 1)) X S (xI_n (by omega) (by omega)) dL_law_638 ?_
  obtain ⟨r9, h1, h2, sz1, f1, f2, q1, C, q2, M, I2⟩ := s_culprits (l := Γ.2.1) (Ω := Ω) (v := xs (6 * i + 1)) I hw hm
  refine xr_callV X q1 rfl kw_688 kw_689 kw_690 cw_X11_culprits [.int (xs (6 * i + 1))] C rfl rfl rfl rfl rfl (Nat.ble_eq_true_of_le (by omega)) (Nat.ble_eq_true_of_le (by omega)) dL_law_639 ?_
  refine xr_aload_n X 1 dL_law_642 rfl rfl ?_
  refine xr_aload_n X 3 dL_law_643 rfl rfl ?_
  refine xr_iload_n X 0 dL_law_644 rfl rfl ?_
  refine xr_iconst (v := 1) X dL_law_645 (by decide) ?_
  refine xr_iadd X dL_law_646 ?_
  refine xr_top (y := nI (6 * i + 1)) (nI_add (6 * i) 1) ?_
  refine xr_sld (j := (6 * i + 1)) X S (xI_n (by omega) (by omega)) dL_law_647 ?_
  refine xr_callV X q2 rfl kw_1206 kw_1207 kw_1208 cw_X12_culprits [.int (xs (6 * i + 1))] M rfl rfl rfl rfl rfl (Nat.ble_eq_true_of_le (by omega)) (Nat.ble_eq_true_of_le (by omega)) dL_law_648 ?_
  refine xr_icmp_eq (tgt := 1048) X dL_law_651 (by decide) (fun _ => ?_) (fun c_651 => absurd rfl c_651)
  refine xr_iinc (v := nI (6 * (i + 1))) (lv' := [(3, .int (nI (6 * (i + 1)))), (2, .ref m), (1, .ref e), (0, .ref b)]) X 0 dL_law_1048 rfl (by rw [show 6 * (i + 1) = 6 * i + 6 by omega]; exact nI_add (6 * i) 6) rfl rfl ?_
  refine xr_goto (tgt := 18) X dL_law_1051 (by decide) ?_
  refine xr_wid (k2 := 49 + 7 * (i + 1)) (n2 := 2983 + 21 * (i + 1)) (by omega) (by omega) ?_
  exact KI _ _ I2
set_option maxRecDepth 100000 in
theorem l_case_chains {Γ : xΓ} {Ω : xW} {h : xH} {sz : Nat} {e w m b L i : Nat} {xs : Nat → Int32} {nm : String} {Q : State → Prop} (X : xX Γ Ω cL_law 4 RL nm ret 12 430 600000 7302250) (S : xScr Γ Ω b L xs) (hw : w = e + 16) (hm : m = e + 37) (hL : L ≤ 384) (hi : 6 * i + 6 ≤ L) (I : INV e w m h sz) (hdom : ∀ (a : Nat) (e : xE), h a = some e → Ω.2.1 ≤ a ∧ a < sz) (KI : ∀ (h : xH) (sz : Nat), INV e w m h sz → xG Γ Ω 4 Q 18 [(3, .int (nI (6 * (i + 1)))), (2, .ref m), (1, .ref e), (0, .ref b)] [] h sz (49 + 7 * (i + 1)) (2983 + 21 * (i + 1))) : xG Γ Ω 4 Q 656 [(3, .int (nI (6 * i))), (2, .ref m), (1, .ref e), (0, .ref b)] [] h sz (49 + 7 * i) (2983 + 21 * i) := by
  refine xr_aload_n X 2 dL_law_656 rfl rfl ?_
  refine xr_aload_n X 3 dL_law_657 rfl rfl ?_
  refine xr_iload_n X 0 dL_law_658 rfl rfl ?_
  refine xr_iconst (v := 1) X dL_law_659 (by decide) ?_
  refine xr_iadd X dL_law_660 ?_
  refine xr_top (y := nI (6 * i + 1)) (nI_add (6 * i) 1) ?_
  refine xr_sld (j := (6 * i + 1)) X S (xI_n (by omega) (by omega)) dL_law_661 ?_
  refine xr_aload_n X 3 dL_law_662 rfl rfl ?_
  refine xr_iload_n X 0 dL_law_663 rfl rfl ?_
  refine xr_iconst (v := 2) X dL_law_664 (by decide) ?_
  refine xr_iadd X dL_law_665 ?_
  refine xr_top (y := nI (6 * i + 2)) (nI_add (6 * i) 2) ?_
  refine xr_sld (j := (6 * i + 2)) X S (xI_n (by omega) (by omega)) dL_law_666 ?_
  obtain ⟨r9, h1, h2, sz1, f1, f2, q1, C, q2, M, I2⟩ := s_chains (l := Γ.2.1) (Ω := Ω) (n := xs (6 * i + 1)) (k2 := xs (6 * i + 2)) I hw hm
  refine xr_callV X q1 rfl kw_709 kw_710 kw_711 cw_X11_chains [.int (xs (6 * i + 1)), .int (xs (6 * i + 2))] C rfl rfl rfl rfl rfl (Nat.ble_eq_true_of_le (by omega)) (Nat.ble_eq_true_of_le (by omega)) dL_law_667 ?_
  refine xr_aload_n X 1 dL_law_670 rfl rfl ?_
  refine xr_aload_n X 3 dL_law_671 rfl rfl ?_
  refine xr_iload_n X 0 dL_law_672 rfl rfl ?_
  refine xr_iconst (v := 1) X dL_law_673 (by decide) ?_
  refine xr_iadd X dL_law_674 ?_
  refine xr_top (y := nI (6 * i + 1)) (nI_add (6 * i) 1) ?_
  refine xr_sld (j := (6 * i + 1)) X S (xI_n (by omega) (by omega)) dL_law_675 ?_
  refine xr_aload_n X 3 dL_law_676 rfl rfl ?_
  refine xr_iload_n X 0 dL_law_677 rfl rfl ?_
  refine xr_iconst (v := 2) X dL_law_678 (by decide) ?_
  refine xr_iadd X dL_law_679 ?_
  refine xr_top (y := nI (6 * i + 2)) (nI_add (6 * i) 2) ?_
  refine xr_sld (j := (6 * i + 2)) X S (xI_n (by omega) (by omega)) dL_law_680 ?_
  refine xr_callV X q2 rfl kw_1214 kw_1215 kw_1216 cw_X12_chains [.int (xs (6 * i + 1)), .int (xs (6 * i + 2))] M rfl rfl rfl rfl rfl (Nat.ble_eq_true_of_le (by omega)) (Nat.ble_eq_true_of_le (by omega)) dL_law_681 ?_
  refine xr_icmp_eq (tgt := 1048) X dL_law_684 (by decide) (fun _ => ?_) (fun c_684 => absurd rfl c_684)
  refine xr_iinc (v := nI (6 * (i + 1))) (lv' := [(3, .int (nI (6 * (i + 1)))), (2, .ref m), (1, .ref e), (0, .ref b)]) X 0 dL_law_1048 rfl (by rw [show 6 * (i + 1) = 6 * i + 6 by omega]; exact nI_add (6 * i) 6) rfl rfl ?_
  refine xr_goto (tgt := 18) X dL_law_1051 (by decide) ?_
  refine xr_wid (k2 := 49 + 7 * (i + 1)) (n2 := 2983 + 21 * (i + 1)) (by omega) (by omega) ?_
  exact KI _ _ I2
set_option maxRecDepth 100000 in
theorem l_case_breaks {Γ : xΓ} {Ω : xW} {h : xH} {sz : Nat} {e w m b L i : Nat} {xs : Nat → Int32} {nm : String} {Q : State → Prop} (X : xX Γ Ω cL_law 4 RL nm ret 12 430 600000 7302250) (S : xScr Γ Ω b L xs) (hw : w = e + 16) (hm : m = e + 37) (hL : L ≤ 384) (hi : 6 * i + 6 ≤ L) (I : INV e w m h sz) (hdom : ∀ (a : Nat) (e : xE), h a = some e → Ω.2.1 ≤ a ∧ a < sz) (KI : ∀ (h : xH) (sz : Nat), INV e w m h sz → xG Γ Ω 4 Q 18 [(3, .int (nI (6 * (i + 1)))), (2, .ref m), (1, .ref e), (0, .ref b)] [] h sz (49 + 7 * (i + 1)) (2983 + 21 * (i + 1))) : xG Γ Ω 4 Q 689 [(3, .int (nI (6 * i))), (2, .ref m), (1, .ref e), (0, .ref b)] [] h sz (49 + 7 * i) (2983 + 21 * i) := by
  refine xr_aload_n X 2 dL_law_689 rfl rfl ?_
  refine xr_aload_n X 3 dL_law_690 rfl rfl ?_
  refine xr_iload_n X 0 dL_law_691 rfl rfl ?_
  refine xr_iconst (v := 1) X dL_law_692 (by decide) ?_
  refine xr_iadd X dL_law_693 ?_
  refine xr_top (y := nI (6 * i + 1)) (nI_add (6 * i) 1) ?_
  refine xr_sld (j := (6 * i + 1)) X S (xI_n (by omega) (by omega)) dL_law_694 ?_
  refine xr_aload_n X 3 dL_law_695 rfl rfl ?_
  refine xr_iload_n X 0 dL_law_696 rfl rfl ?_
  refine xr_iconst (v := 2) X dL_law_697 (by decide) ?_
  refine xr_iadd X dL_law_698 ?_
  refine xr_top (y := nI (6 * i + 2)) (nI_add (6 * i) 2) ?_
  refine xr_sld (j := (6 * i + 2)) X S (xI_n (by omega) (by omega)) dL_law_699 ?_
  refine xr_aload_n X 3 dL_law_700 rfl rfl ?_
  refine xr_iload_n X 0 dL_law_701 rfl rfl ?_
  refine xr_iconst (v := 3) X dL_law_702 (by decide) ?_
  refine xr_iadd X dL_law_703 ?_
  refine xr_top (y := nI (6 * i + 3)) (nI_add (6 * i) 3) ?_
  refine xr_sld (j := (6 * i + 3)) X S (xI_n (by omega) (by omega)) dL_law_704 ?_
  obtain ⟨r9, h1, h2, sz1, f1, f2, q1, C, q2, M, I2⟩ := s_breaks (l := Γ.2.1) (Ω := Ω) (r := xs (6 * i + 1)) (i := xs (6 * i + 2)) (n := xs (6 * i + 3)) I hw hm
  refine xr_callV X q1 rfl kw_737 kw_738 kw_739 cw_X11_breaks [.int (xs (6 * i + 1)), .int (xs (6 * i + 2)), .int (xs (6 * i + 3))] C rfl rfl rfl rfl rfl (Nat.ble_eq_true_of_le (by omega)) (Nat.ble_eq_true_of_le (by omega)) dL_law_705 ?_
  refine xr_aload_n X 1 dL_law_708 rfl rfl ?_
  refine xr_aload_n X 3 dL_law_709 rfl rfl ?_
  refine xr_iload_n X 0 dL_law_710 rfl rfl ?_
  refine xr_iconst (v := 1) X dL_law_711 (by decide) ?_
  refine xr_iadd X dL_law_712 ?_
  refine xr_top (y := nI (6 * i + 1)) (nI_add (6 * i) 1) ?_
  refine xr_sld (j := (6 * i + 1)) X S (xI_n (by omega) (by omega)) dL_law_713 ?_
  refine xr_aload_n X 3 dL_law_714 rfl rfl ?_
  refine xr_iload_n X 0 dL_law_715 rfl rfl ?_
  refine xr_iconst (v := 2) X dL_law_716 (by decide) ?_
  refine xr_iadd X dL_law_717 ?_
  refine xr_top (y := nI (6 * i + 2)) (nI_add (6 * i) 2) ?_
  refine xr_sld (j := (6 * i + 2)) X S (xI_n (by omega) (by omega)) dL_law_718 ?_
  refine xr_aload_n X 3 dL_law_719 rfl rfl ?_
  refine xr_iload_n X 0 dL_law_720 rfl rfl ?_
  refine xr_iconst (v := 3) X dL_law_721 (by decide) ?_
  refine xr_iadd X dL_law_722 ?_
  refine xr_top (y := nI (6 * i + 3)) (nI_add (6 * i) 3) ?_
  refine xr_sld (j := (6 * i + 3)) X S (xI_n (by omega) (by omega)) dL_law_723 ?_
  refine xr_callV X q2 rfl kw_1223 kw_1224 kw_1225 cw_X12_breaks [.int (xs (6 * i + 1)), .int (xs (6 * i + 2)), .int (xs (6 * i + 3))] M rfl rfl rfl rfl rfl (Nat.ble_eq_true_of_le (by omega)) (Nat.ble_eq_true_of_le (by omega)) dL_law_724 ?_
  refine xr_icmp_eq (tgt := 1048) X dL_law_727 (by decide) (fun _ => ?_) (fun c_727 => absurd rfl c_727)
  refine xr_iinc (v := nI (6 * (i + 1))) (lv' := [(3, .int (nI (6 * (i + 1)))), (2, .ref m), (1, .ref e), (0, .ref b)]) X 0 dL_law_1048 rfl (by rw [show 6 * (i + 1) = 6 * i + 6 by omega]; exact nI_add (6 * i) 6) rfl rfl ?_
  refine xr_goto (tgt := 18) X dL_law_1051 (by decide) ?_
  refine xr_wid (k2 := 49 + 7 * (i + 1)) (n2 := 2983 + 21 * (i + 1)) (by omega) (by omega) ?_
  exact KI _ _ I2
set_option maxRecDepth 100000 in
theorem l_case_comes {Γ : xΓ} {Ω : xW} {h : xH} {sz : Nat} {e w m b L i : Nat} {xs : Nat → Int32} {nm : String} {Q : State → Prop} (X : xX Γ Ω cL_law 4 RL nm ret 12 430 600000 7302250) (S : xScr Γ Ω b L xs) (hw : w = e + 16) (hm : m = e + 37) (hL : L ≤ 384) (hi : 6 * i + 6 ≤ L) (I : INV e w m h sz) (hdom : ∀ (a : Nat) (e : xE), h a = some e → Ω.2.1 ≤ a ∧ a < sz) (KI : ∀ (h : xH) (sz : Nat), INV e w m h sz → xG Γ Ω 4 Q 18 [(3, .int (nI (6 * (i + 1)))), (2, .ref m), (1, .ref e), (0, .ref b)] [] h sz (49 + 7 * (i + 1)) (2983 + 21 * (i + 1))) : xG Γ Ω 4 Q 732 [(3, .int (nI (6 * i))), (2, .ref m), (1, .ref e), (0, .ref b)] [] h sz (49 + 7 * i) (2983 + 21 * i) := by
  refine xr_aload_n X 2 dL_law_732 rfl rfl ?_
  refine xr_aload_n X 3 dL_law_733 rfl rfl ?_
  refine xr_iload_n X 0 dL_law_734 rfl rfl ?_
  refine xr_iconst (v := 1) X dL_law_735 (by decide) ?_
  refine xr_iadd X dL_law_736 ?_
  refine xr_top (y := nI (6 * i + 1)) (nI_add (6 * i) 1) ?_
  refine xr_sld (j := (6 * i + 1)) X S (xI_n (by omega) (by omega)) dL_law_737 ?_
  refine xr_aload_n X 3 dL_law_738 rfl rfl ?_
  refine xr_iload_n X 0 dL_law_739 rfl rfl ?_
  refine xr_iconst (v := 2) X dL_law_740 (by decide) ?_
  refine xr_iadd X dL_law_741 ?_
  refine xr_top (y := nI (6 * i + 2)) (nI_add (6 * i) 2) ?_
  refine xr_sld (j := (6 * i + 2)) X S (xI_n (by omega) (by omega)) dL_law_742 ?_
  refine xr_aload_n X 3 dL_law_743 rfl rfl ?_
  refine xr_iload_n X 0 dL_law_744 rfl rfl ?_
  refine xr_iconst (v := 3) X dL_law_745 (by decide) ?_
  refine xr_iadd X dL_law_746 ?_
  refine xr_top (y := nI (6 * i + 3)) (nI_add (6 * i) 3) ?_
  refine xr_sld (j := (6 * i + 3)) X S (xI_n (by omega) (by omega)) dL_law_747 ?_
  obtain ⟨r9, h1, h2, sz1, f1, f2, q1, C, q2, M, I2⟩ := s_comes (l := Γ.2.1) (Ω := Ω) (l3 := xs (6 * i + 1)) (s := xs (6 * i + 2)) (v := xs (6 * i + 3)) I hw hm
  refine xr_callV X q1 rfl kw_742 kw_743 kw_744 cw_X11_comes [.int (xs (6 * i + 1)), .int (xs (6 * i + 2)), .int (xs (6 * i + 3))] C rfl rfl rfl rfl rfl (Nat.ble_eq_true_of_le (by omega)) (Nat.ble_eq_true_of_le (by omega)) dL_law_748 ?_
  refine xr_aload_n X 1 dL_law_751 rfl rfl ?_
  refine xr_aload_n X 3 dL_law_752 rfl rfl ?_
  refine xr_iload_n X 0 dL_law_753 rfl rfl ?_
  refine xr_iconst (v := 1) X dL_law_754 (by decide) ?_
  refine xr_iadd X dL_law_755 ?_
  refine xr_top (y := nI (6 * i + 1)) (nI_add (6 * i) 1) ?_
  refine xr_sld (j := (6 * i + 1)) X S (xI_n (by omega) (by omega)) dL_law_756 ?_
  refine xr_aload_n X 3 dL_law_757 rfl rfl ?_
  refine xr_iload_n X 0 dL_law_758 rfl rfl ?_
  refine xr_iconst (v := 2) X dL_law_759 (by decide) ?_
  refine xr_iadd X dL_law_760 ?_
  refine xr_top (y := nI (6 * i + 2)) (nI_add (6 * i) 2) ?_
  refine xr_sld (j := (6 * i + 2)) X S (xI_n (by omega) (by omega)) dL_law_761 ?_
  refine xr_aload_n X 3 dL_law_762 rfl rfl ?_
  refine xr_iload_n X 0 dL_law_763 rfl rfl ?_
  refine xr_iconst (v := 3) X dL_law_764 (by decide) ?_
  refine xr_iadd X dL_law_765 ?_
  refine xr_top (y := nI (6 * i + 3)) (nI_add (6 * i) 3) ?_
  refine xr_sld (j := (6 * i + 3)) X S (xI_n (by omega) (by omega)) dL_law_766 ?_
  refine xr_callV X q2 rfl kw_1228 kw_1229 kw_1230 cw_X12_comes [.int (xs (6 * i + 1)), .int (xs (6 * i + 2)), .int (xs (6 * i + 3))] M rfl rfl rfl rfl rfl (Nat.ble_eq_true_of_le (by omega)) (Nat.ble_eq_true_of_le (by omega)) dL_law_767 ?_
  refine xr_icmp_eq (tgt := 1048) X dL_law_770 (by decide) (fun _ => ?_) (fun c_770 => absurd rfl c_770)
  refine xr_iinc (v := nI (6 * (i + 1))) (lv' := [(3, .int (nI (6 * (i + 1)))), (2, .ref m), (1, .ref e), (0, .ref b)]) X 0 dL_law_1048 rfl (by rw [show 6 * (i + 1) = 6 * i + 6 by omega]; exact nI_add (6 * i) 6) rfl rfl ?_
  refine xr_goto (tgt := 18) X dL_law_1051 (by decide) ?_
  refine xr_wid (k2 := 49 + 7 * (i + 1)) (n2 := 2983 + 21 * (i + 1)) (by omega) (by omega) ?_
  exact KI _ _ I2
set_option maxRecDepth 100000 in
theorem l_case_likeliest {Γ : xΓ} {Ω : xW} {h : xH} {sz : Nat} {e w m b L i : Nat} {xs : Nat → Int32} {nm : String} {Q : State → Prop} (X : xX Γ Ω cL_law 4 RL nm ret 12 430 600000 7302250) (S : xScr Γ Ω b L xs) (hw : w = e + 16) (hm : m = e + 37) (hL : L ≤ 384) (hi : 6 * i + 6 ≤ L) (I : INV e w m h sz) (hdom : ∀ (a : Nat) (e : xE), h a = some e → Ω.2.1 ≤ a ∧ a < sz) (KI : ∀ (h : xH) (sz : Nat), INV e w m h sz → xG Γ Ω 4 Q 18 [(3, .int (nI (6 * (i + 1)))), (2, .ref m), (1, .ref e), (0, .ref b)] [] h sz (49 + 7 * (i + 1)) (2983 + 21 * (i + 1))) : xG Γ Ω 4 Q 775 [(3, .int (nI (6 * i))), (2, .ref m), (1, .ref e), (0, .ref b)] [] h sz (49 + 7 * i) (2983 + 21 * i) := by
  refine xr_aload_n X 2 dL_law_775 rfl rfl ?_
  obtain ⟨r9, h1, h2, sz1, f1, f2, q1, C, q2, M, I2⟩ := s_likeliest (l := Γ.2.1) (Ω := Ω)  I hw hm
  refine xr_callV X q1 rfl kw_774 kw_775 kw_776 cw_X11_likeliest [] C rfl rfl rfl rfl rfl (Nat.ble_eq_true_of_le (by omega)) (Nat.ble_eq_true_of_le (by omega)) dL_law_776 ?_
  refine xr_aload_n X 1 dL_law_779 rfl rfl ?_
  refine xr_callV X q2 rfl kw_1240 kw_1241 kw_1242 cw_X12_likeliest [] M rfl rfl rfl rfl rfl (Nat.ble_eq_true_of_le (by omega)) (Nat.ble_eq_true_of_le (by omega)) dL_law_780 ?_
  refine xr_icmp_eq (tgt := 1048) X dL_law_783 (by decide) (fun _ => ?_) (fun c_783 => absurd rfl c_783)
  refine xr_iinc (v := nI (6 * (i + 1))) (lv' := [(3, .int (nI (6 * (i + 1)))), (2, .ref m), (1, .ref e), (0, .ref b)]) X 0 dL_law_1048 rfl (by rw [show 6 * (i + 1) = 6 * i + 6 by omega]; exact nI_add (6 * i) 6) rfl rfl ?_
  refine xr_goto (tgt := 18) X dL_law_1051 (by decide) ?_
  refine xr_wid (k2 := 49 + 7 * (i + 1)) (n2 := 2983 + 21 * (i + 1)) (by omega) (by omega) ?_
  exact KI _ _ I2
set_option maxRecDepth 100000 in
theorem l_case_lost {Γ : xΓ} {Ω : xW} {h : xH} {sz : Nat} {e w m b L i : Nat} {xs : Nat → Int32} {nm : String} {Q : State → Prop} (X : xX Γ Ω cL_law 4 RL nm ret 12 430 600000 7302250) (S : xScr Γ Ω b L xs) (hw : w = e + 16) (hm : m = e + 37) (hL : L ≤ 384) (hi : 6 * i + 6 ≤ L) (I : INV e w m h sz) (hdom : ∀ (a : Nat) (e : xE), h a = some e → Ω.2.1 ≤ a ∧ a < sz) (KI : ∀ (h : xH) (sz : Nat), INV e w m h sz → xG Γ Ω 4 Q 18 [(3, .int (nI (6 * (i + 1)))), (2, .ref m), (1, .ref e), (0, .ref b)] [] h sz (49 + 7 * (i + 1)) (2983 + 21 * (i + 1))) : xG Γ Ω 4 Q 788 [(3, .int (nI (6 * i))), (2, .ref m), (1, .ref e), (0, .ref b)] [] h sz (49 + 7 * i) (2983 + 21 * i) := by
  refine xr_aload_n X 2 dL_law_788 rfl rfl ?_
  refine xr_aload_n X 3 dL_law_789 rfl rfl ?_
  refine xr_iload_n X 0 dL_law_790 rfl rfl ?_
  refine xr_iconst (v := 1) X dL_law_791 (by decide) ?_
  refine xr_iadd X dL_law_792 ?_
  refine xr_top (y := nI (6 * i + 1)) (nI_add (6 * i) 1) ?_
  refine xr_sld (j := (6 * i + 1)) X S (xI_n (by omega) (by omega)) dL_law_793 ?_
  refine xr_aload_n X 3 dL_law_794 rfl rfl ?_
  refine xr_iload_n X 0 dL_law_795 rfl rfl ?_
  refine xr_iconst (v := 2) X dL_law_796 (by decide) ?_
  refine xr_iadd X dL_law_797 ?_
  refine xr_top (y := nI (6 * i + 2)) (nI_add (6 * i) 2) ?_
  refine xr_sld (j := (6 * i + 2)) X S (xI_n (by omega) (by omega)) dL_law_798 ?_
  obtain ⟨r9, h1, h2, sz1, f1, f2, q1, C, q2, M, I2⟩ := s_lost (l := Γ.2.1) (Ω := Ω) (s := xs (6 * i + 1)) (v := xs (6 * i + 2)) I hw hm
  refine xr_callV X q1 rfl kw_783 kw_784 kw_785 cw_X11_lost [.int (xs (6 * i + 1)), .int (xs (6 * i + 2))] C rfl rfl rfl rfl rfl (Nat.ble_eq_true_of_le (by omega)) (Nat.ble_eq_true_of_le (by omega)) dL_law_799 ?_
  refine xr_aload_n X 1 dL_law_802 rfl rfl ?_
  refine xr_aload_n X 3 dL_law_803 rfl rfl ?_
  refine xr_iload_n X 0 dL_law_804 rfl rfl ?_
  refine xr_iconst (v := 1) X dL_law_805 (by decide) ?_
  refine xr_iadd X dL_law_806 ?_
  refine xr_top (y := nI (6 * i + 1)) (nI_add (6 * i) 1) ?_
  refine xr_sld (j := (6 * i + 1)) X S (xI_n (by omega) (by omega)) dL_law_807 ?_
  refine xr_aload_n X 3 dL_law_808 rfl rfl ?_
  refine xr_iload_n X 0 dL_law_809 rfl rfl ?_
  refine xr_iconst (v := 2) X dL_law_810 (by decide) ?_
  refine xr_iadd X dL_law_811 ?_
  refine xr_top (y := nI (6 * i + 2)) (nI_add (6 * i) 2) ?_
  refine xr_sld (j := (6 * i + 2)) X S (xI_n (by omega) (by omega)) dL_law_812 ?_
  refine xr_callV X q2 rfl kw_1244 kw_1245 kw_1246 cw_X12_lost [.int (xs (6 * i + 1)), .int (xs (6 * i + 2))] M rfl rfl rfl rfl rfl (Nat.ble_eq_true_of_le (by omega)) (Nat.ble_eq_true_of_le (by omega)) dL_law_813 ?_
  refine xr_icmp_eq (tgt := 1048) X dL_law_816 (by decide) (fun _ => ?_) (fun c_816 => absurd rfl c_816)
  refine xr_iinc (v := nI (6 * (i + 1))) (lv' := [(3, .int (nI (6 * (i + 1)))), (2, .ref m), (1, .ref e), (0, .ref b)]) X 0 dL_law_1048 rfl (by rw [show 6 * (i + 1) = 6 * i + 6 by omega]; exact nI_add (6 * i) 6) rfl rfl ?_
  refine xr_goto (tgt := 18) X dL_law_1051 (by decide) ?_
  refine xr_wid (k2 := 49 + 7 * (i + 1)) (n2 := 2983 + 21 * (i + 1)) (by omega) (by omega) ?_
  exact KI _ _ I2
set_option maxRecDepth 100000 in
theorem l_case_readBy {Γ : xΓ} {Ω : xW} {h : xH} {sz : Nat} {e w m b L i : Nat} {xs : Nat → Int32} {nm : String} {Q : State → Prop} (X : xX Γ Ω cL_law 4 RL nm ret 12 430 600000 7302250) (S : xScr Γ Ω b L xs) (hw : w = e + 16) (hm : m = e + 37) (hL : L ≤ 384) (hi : 6 * i + 6 ≤ L) (I : INV e w m h sz) (hdom : ∀ (a : Nat) (e : xE), h a = some e → Ω.2.1 ≤ a ∧ a < sz) (KI : ∀ (h : xH) (sz : Nat), INV e w m h sz → xG Γ Ω 4 Q 18 [(3, .int (nI (6 * (i + 1)))), (2, .ref m), (1, .ref e), (0, .ref b)] [] h sz (49 + 7 * (i + 1)) (2983 + 21 * (i + 1))) : xG Γ Ω 4 Q 821 [(3, .int (nI (6 * i))), (2, .ref m), (1, .ref e), (0, .ref b)] [] h sz (49 + 7 * i) (2983 + 21 * i) := by
  refine xr_aload_n X 2 dL_law_821 rfl rfl ?_
  refine xr_aload_n X 3 dL_law_822 rfl rfl ?_
  refine xr_iload_n X 0 dL_law_823 rfl rfl ?_
  refine xr_iconst (v := 1) X dL_law_824 (by decide) ?_
  refine xr_iadd X dL_law_825 ?_
  refine xr_top (y := nI (6 * i + 1)) (nI_add (6 * i) 1) ?_
  refine xr_sld (j := (6 * i + 1)) X S (xI_n (by omega) (by omega)) dL_law_826 ?_
  refine xr_aload_n X 3 dL_law_827 rfl rfl ?_
  refine xr_iload_n X 0 dL_law_828 rfl rfl ?_
  refine xr_iconst (v := 2) X dL_law_829 (by decide) ?_
  refine xr_iadd X dL_law_830 ?_
  refine xr_top (y := nI (6 * i + 2)) (nI_add (6 * i) 2) ?_
  refine xr_sld (j := (6 * i + 2)) X S (xI_n (by omega) (by omega)) dL_law_831 ?_
  obtain ⟨r9, h1, h2, sz1, f1, f2, q1, C, q2, M, I2⟩ := s_readBy (l := Γ.2.1) (Ω := Ω) (s := xs (6 * i + 1)) (v := xs (6 * i + 2)) I hw hm
  refine xr_callV X q1 rfl kw_795 kw_796 kw_797 cw_X11_readBy [.int (xs (6 * i + 1)), .int (xs (6 * i + 2))] C rfl rfl rfl rfl rfl (Nat.ble_eq_true_of_le (by omega)) (Nat.ble_eq_true_of_le (by omega)) dL_law_832 ?_
  refine xr_aload_n X 1 dL_law_835 rfl rfl ?_
  refine xr_aload_n X 3 dL_law_836 rfl rfl ?_
  refine xr_iload_n X 0 dL_law_837 rfl rfl ?_
  refine xr_iconst (v := 1) X dL_law_838 (by decide) ?_
  refine xr_iadd X dL_law_839 ?_
  refine xr_top (y := nI (6 * i + 1)) (nI_add (6 * i) 1) ?_
  refine xr_sld (j := (6 * i + 1)) X S (xI_n (by omega) (by omega)) dL_law_840 ?_
  refine xr_aload_n X 3 dL_law_841 rfl rfl ?_
  refine xr_iload_n X 0 dL_law_842 rfl rfl ?_
  refine xr_iconst (v := 2) X dL_law_843 (by decide) ?_
  refine xr_iadd X dL_law_844 ?_
  refine xr_top (y := nI (6 * i + 2)) (nI_add (6 * i) 2) ?_
  refine xr_sld (j := (6 * i + 2)) X S (xI_n (by omega) (by omega)) dL_law_845 ?_
  refine xr_callV X q2 rfl kw_1248 kw_1249 kw_1250 cw_X12_readBy [.int (xs (6 * i + 1)), .int (xs (6 * i + 2))] M rfl rfl rfl rfl rfl (Nat.ble_eq_true_of_le (by omega)) (Nat.ble_eq_true_of_le (by omega)) dL_law_846 ?_
  refine xr_icmp_eq (tgt := 1048) X dL_law_849 (by decide) (fun _ => ?_) (fun c_849 => absurd rfl c_849)
  refine xr_iinc (v := nI (6 * (i + 1))) (lv' := [(3, .int (nI (6 * (i + 1)))), (2, .ref m), (1, .ref e), (0, .ref b)]) X 0 dL_law_1048 rfl (by rw [show 6 * (i + 1) = 6 * i + 6 by omega]; exact nI_add (6 * i) 6) rfl rfl ?_
  refine xr_goto (tgt := 18) X dL_law_1051 (by decide) ?_
  refine xr_wid (k2 := 49 + 7 * (i + 1)) (n2 := 2983 + 21 * (i + 1)) (by omega) (by omega) ?_
  exact KI _ _ I2
set_option maxRecDepth 100000 in
theorem l_case_image {Γ : xΓ} {Ω : xW} {h : xH} {sz : Nat} {e w m b L i : Nat} {xs : Nat → Int32} {nm : String} {Q : State → Prop} (X : xX Γ Ω cL_law 4 RL nm ret 12 430 600000 7302250) (S : xScr Γ Ω b L xs) (hw : w = e + 16) (hm : m = e + 37) (hL : L ≤ 384) (hi : 6 * i + 6 ≤ L) (I : INV e w m h sz) (hdom : ∀ (a : Nat) (e : xE), h a = some e → Ω.2.1 ≤ a ∧ a < sz) (KI : ∀ (h : xH) (sz : Nat), INV e w m h sz → xG Γ Ω 4 Q 18 [(3, .int (nI (6 * (i + 1)))), (2, .ref m), (1, .ref e), (0, .ref b)] [] h sz (49 + 7 * (i + 1)) (2983 + 21 * (i + 1))) : xG Γ Ω 4 Q 854 [(3, .int (nI (6 * i))), (2, .ref m), (1, .ref e), (0, .ref b)] [] h sz (49 + 7 * i) (2983 + 21 * i) := by
  refine xr_aload_n X 2 dL_law_854 rfl rfl ?_
  refine xr_aload_n X 3 dL_law_855 rfl rfl ?_
  refine xr_iload_n X 0 dL_law_856 rfl rfl ?_
  refine xr_iconst (v := 1) X dL_law_857 (by decide) ?_
  refine xr_iadd X dL_law_858 ?_
  refine xr_top (y := nI (6 * i + 1)) (nI_add (6 * i) 1) ?_
  refine xr_sld (j := (6 * i + 1)) X S (xI_n (by omega) (by omega)) dL_law_859 ?_
  obtain ⟨r9, h1, h2, sz1, f1, f2, q1, C, q2, M, I2⟩ := s_image (l := Γ.2.1) (Ω := Ω) (k2 := xs (6 * i + 1)) I hw hm
  refine xr_callV X q1 rfl kw_804 kw_805 kw_806 cw_X11_image [.int (xs (6 * i + 1))] C rfl rfl rfl rfl rfl (Nat.ble_eq_true_of_le (by omega)) (Nat.ble_eq_true_of_le (by omega)) dL_law_860 ?_
  refine xr_aload_n X 1 dL_law_863 rfl rfl ?_
  refine xr_aload_n X 3 dL_law_864 rfl rfl ?_
  refine xr_iload_n X 0 dL_law_865 rfl rfl ?_
  refine xr_iconst (v := 1) X dL_law_866 (by decide) ?_
  refine xr_iadd X dL_law_867 ?_
  refine xr_top (y := nI (6 * i + 1)) (nI_add (6 * i) 1) ?_
  refine xr_sld (j := (6 * i + 1)) X S (xI_n (by omega) (by omega)) dL_law_868 ?_
  refine xr_callV X q2 rfl kw_1252 kw_1253 kw_1254 cw_X12_image [.int (xs (6 * i + 1))] M rfl rfl rfl rfl rfl (Nat.ble_eq_true_of_le (by omega)) (Nat.ble_eq_true_of_le (by omega)) dL_law_869 ?_
  refine xr_icmp_eq (tgt := 1048) X dL_law_872 (by decide) (fun _ => ?_) (fun c_872 => absurd rfl c_872)
  refine xr_iinc (v := nI (6 * (i + 1))) (lv' := [(3, .int (nI (6 * (i + 1)))), (2, .ref m), (1, .ref e), (0, .ref b)]) X 0 dL_law_1048 rfl (by rw [show 6 * (i + 1) = 6 * i + 6 by omega]; exact nI_add (6 * i) 6) rfl rfl ?_
  refine xr_goto (tgt := 18) X dL_law_1051 (by decide) ?_
  refine xr_wid (k2 := 49 + 7 * (i + 1)) (n2 := 2983 + 21 * (i + 1)) (by omega) (by omega) ?_
  exact KI _ _ I2
set_option maxRecDepth 100000 in
theorem l_case_restore {Γ : xΓ} {Ω : xW} {h : xH} {sz : Nat} {e w m b L i : Nat} {xs : Nat → Int32} {nm : String} {Q : State → Prop} (X : xX Γ Ω cL_law 4 RL nm ret 12 430 600000 7302250) (S : xScr Γ Ω b L xs) (hw : w = e + 16) (hm : m = e + 37) (hL : L ≤ 384) (hi : 6 * i + 6 ≤ L) (I : INV e w m h sz) (hdom : ∀ (a : Nat) (e : xE), h a = some e → Ω.2.1 ≤ a ∧ a < sz) (KI : ∀ (h : xH) (sz : Nat), INV e w m h sz → xG Γ Ω 4 Q 18 [(3, .int (nI (6 * (i + 1)))), (2, .ref m), (1, .ref e), (0, .ref b)] [] h sz (49 + 7 * (i + 1)) (2983 + 21 * (i + 1))) : xG Γ Ω 4 Q 877 [(3, .int (nI (6 * i))), (2, .ref m), (1, .ref e), (0, .ref b)] [] h sz (49 + 7 * i) (2983 + 21 * i) := by
  refine xr_aload_n X 2 dL_law_877 rfl rfl ?_
  refine xr_aload_n X 3 dL_law_878 rfl rfl ?_
  refine xr_iload_n X 0 dL_law_879 rfl rfl ?_
  refine xr_iconst (v := 1) X dL_law_880 (by decide) ?_
  refine xr_iadd X dL_law_881 ?_
  refine xr_top (y := nI (6 * i + 1)) (nI_add (6 * i) 1) ?_
  refine xr_sld (j := (6 * i + 1)) X S (xI_n (by omega) (by omega)) dL_law_882 ?_
  obtain ⟨r9, h1, h2, sz1, f1, f2, q1, C, q2, M, I2⟩ := s_restore (l := Γ.2.1) (Ω := Ω) (k2 := xs (6 * i + 1)) I hw hm
  refine xr_callV X q1 rfl kw_817 kw_818 kw_819 cw_X11_restore [.int (xs (6 * i + 1))] C rfl rfl rfl rfl rfl (Nat.ble_eq_true_of_le (by omega)) (Nat.ble_eq_true_of_le (by omega)) dL_law_883 ?_
  refine xr_aload_n X 1 dL_law_886 rfl rfl ?_
  refine xr_aload_n X 3 dL_law_887 rfl rfl ?_
  refine xr_iload_n X 0 dL_law_888 rfl rfl ?_
  refine xr_iconst (v := 1) X dL_law_889 (by decide) ?_
  refine xr_iadd X dL_law_890 ?_
  refine xr_top (y := nI (6 * i + 1)) (nI_add (6 * i) 1) ?_
  refine xr_sld (j := (6 * i + 1)) X S (xI_n (by omega) (by omega)) dL_law_891 ?_
  refine xr_callV X q2 rfl kw_1256 kw_1257 kw_1258 cw_X12_restore [.int (xs (6 * i + 1))] M rfl rfl rfl rfl rfl (Nat.ble_eq_true_of_le (by omega)) (Nat.ble_eq_true_of_le (by omega)) dL_law_892 ?_
  refine xr_icmp_eq (tgt := 1048) X dL_law_895 (by decide) (fun _ => ?_) (fun c_895 => absurd rfl c_895)
  refine xr_iinc (v := nI (6 * (i + 1))) (lv' := [(3, .int (nI (6 * (i + 1)))), (2, .ref m), (1, .ref e), (0, .ref b)]) X 0 dL_law_1048 rfl (by rw [show 6 * (i + 1) = 6 * i + 6 by omega]; exact nI_add (6 * i) 6) rfl rfl ?_
  refine xr_goto (tgt := 18) X dL_law_1051 (by decide) ?_
  refine xr_wid (k2 := 49 + 7 * (i + 1)) (n2 := 2983 + 21 * (i + 1)) (by omega) (by omega) ?_
  exact KI _ _ I2
set_option maxRecDepth 100000 in
theorem l_case_kind {Γ : xΓ} {Ω : xW} {h : xH} {sz : Nat} {e w m b L i : Nat} {xs : Nat → Int32} {nm : String} {Q : State → Prop} (X : xX Γ Ω cL_law 4 RL nm ret 12 430 600000 7302250) (S : xScr Γ Ω b L xs) (hw : w = e + 16) (hm : m = e + 37) (hL : L ≤ 384) (hi : 6 * i + 6 ≤ L) (I : INV e w m h sz) (hdom : ∀ (a : Nat) (e : xE), h a = some e → Ω.2.1 ≤ a ∧ a < sz) (KI : ∀ (h : xH) (sz : Nat), INV e w m h sz → xG Γ Ω 4 Q 18 [(3, .int (nI (6 * (i + 1)))), (2, .ref m), (1, .ref e), (0, .ref b)] [] h sz (49 + 7 * (i + 1)) (2983 + 21 * (i + 1))) : xG Γ Ω 4 Q 900 [(3, .int (nI (6 * i))), (2, .ref m), (1, .ref e), (0, .ref b)] [] h sz (49 + 7 * i) (2983 + 21 * i) := by
  refine xr_aload_n X 2 dL_law_900 rfl rfl ?_
  refine xr_aload_n X 3 dL_law_901 rfl rfl ?_
  refine xr_iload_n X 0 dL_law_902 rfl rfl ?_
  refine xr_iconst (v := 1) X dL_law_903 (by decide) ?_
  refine xr_iadd X dL_law_904 ?_
  refine xr_top (y := nI (6 * i + 1)) (nI_add (6 * i) 1) ?_
  refine xr_sld (j := (6 * i + 1)) X S (xI_n (by omega) (by omega)) dL_law_905 ?_
  obtain ⟨r9, h1, h2, sz1, f1, f2, q1, C, q2, M, I2⟩ := s_kind (l := Γ.2.1) (Ω := Ω) (p := xs (6 * i + 1)) I hw hm
  refine xr_callV X q1 rfl kw_821 kw_822 kw_823 cw_X11_kind [.int (xs (6 * i + 1))] C rfl rfl rfl rfl rfl (Nat.ble_eq_true_of_le (by omega)) (Nat.ble_eq_true_of_le (by omega)) dL_law_906 ?_
  refine xr_aload_n X 1 dL_law_909 rfl rfl ?_
  refine xr_aload_n X 3 dL_law_910 rfl rfl ?_
  refine xr_iload_n X 0 dL_law_911 rfl rfl ?_
  refine xr_iconst (v := 1) X dL_law_912 (by decide) ?_
  refine xr_iadd X dL_law_913 ?_
  refine xr_top (y := nI (6 * i + 1)) (nI_add (6 * i) 1) ?_
  refine xr_sld (j := (6 * i + 1)) X S (xI_n (by omega) (by omega)) dL_law_914 ?_
  refine xr_callV X q2 rfl kw_1260 kw_1261 kw_1262 cw_X12_kind [.int (xs (6 * i + 1))] M rfl rfl rfl rfl rfl (Nat.ble_eq_true_of_le (by omega)) (Nat.ble_eq_true_of_le (by omega)) dL_law_915 ?_
  refine xr_icmp_eq (tgt := 1048) X dL_law_918 (by decide) (fun _ => ?_) (fun c_918 => absurd rfl c_918)
  refine xr_iinc (v := nI (6 * (i + 1))) (lv' := [(3, .int (nI (6 * (i + 1)))), (2, .ref m), (1, .ref e), (0, .ref b)]) X 0 dL_law_1048 rfl (by rw [show 6 * (i + 1) = 6 * i + 6 by omega]; exact nI_add (6 * i) 6) rfl rfl ?_
  refine xr_goto (tgt := 18) X dL_law_1051 (by decide) ?_
  refine xr_wid (k2 := 49 + 7 * (i + 1)) (n2 := 2983 + 21 * (i + 1)) (by omega) (by omega) ?_
  exact KI _ _ I2
set_option maxRecDepth 100000 in
theorem l_case_as {Γ : xΓ} {Ω : xW} {h : xH} {sz : Nat} {e w m b L i : Nat} {xs : Nat → Int32} {nm : String} {Q : State → Prop} (X : xX Γ Ω cL_law 4 RL nm ret 12 430 600000 7302250) (S : xScr Γ Ω b L xs) (hw : w = e + 16) (hm : m = e + 37) (hL : L ≤ 384) (hi : 6 * i + 6 ≤ L) (I : INV e w m h sz) (hdom : ∀ (a : Nat) (e : xE), h a = some e → Ω.2.1 ≤ a ∧ a < sz) (KI : ∀ (h : xH) (sz : Nat), INV e w m h sz → xG Γ Ω 4 Q 18 [(3, .int (nI (6 * (i + 1)))), (2, .ref m), (1, .ref e), (0, .ref b)] [] h sz (49 + 7 * (i + 1)) (2983 + 21 * (i + 1))) : xG Γ Ω 4 Q 923 [(3, .int (nI (6 * i))), (2, .ref m), (1, .ref e), (0, .ref b)] [] h sz (49 + 7 * i) (2983 + 21 * i) := by
  refine xr_aload_n X 2 dL_law_923 rfl rfl ?_
  refine xr_aload_n X 3 dL_law_924 rfl rfl ?_
  refine xr_iload_n X 0 dL_law_925 rfl rfl ?_
  refine xr_iconst (v := 1) X dL_law_926 (by decide) ?_
  refine xr_iadd X dL_law_927 ?_
  refine xr_top (y := nI (6 * i + 1)) (nI_add (6 * i) 1) ?_
  refine xr_sld (j := (6 * i + 1)) X S (xI_n (by omega) (by omega)) dL_law_928 ?_
  refine xr_aload_n X 3 dL_law_929 rfl rfl ?_
  refine xr_iload_n X 0 dL_law_930 rfl rfl ?_
  refine xr_iconst (v := 2) X dL_law_931 (by decide) ?_
  refine xr_iadd X dL_law_932 ?_
  refine xr_top (y := nI (6 * i + 2)) (nI_add (6 * i) 2) ?_
  refine xr_sld (j := (6 * i + 2)) X S (xI_n (by omega) (by omega)) dL_law_933 ?_
  obtain ⟨r9, h1, h2, sz1, f1, f2, q1, C, q2, M, I2⟩ := s_as (l := Γ.2.1) (Ω := Ω) (p := xs (6 * i + 1)) (v := xs (6 * i + 2)) I hw hm
  refine xr_callV X q1 rfl kw_843 kw_844 kw_845 cw_X11_as [.int (xs (6 * i + 1)), .int (xs (6 * i + 2))] C rfl rfl rfl rfl rfl (Nat.ble_eq_true_of_le (by omega)) (Nat.ble_eq_true_of_le (by omega)) dL_law_934 ?_
  refine xr_aload_n X 1 dL_law_937 rfl rfl ?_
  refine xr_aload_n X 3 dL_law_938 rfl rfl ?_
  refine xr_iload_n X 0 dL_law_939 rfl rfl ?_
  refine xr_iconst (v := 1) X dL_law_940 (by decide) ?_
  refine xr_iadd X dL_law_941 ?_
  refine xr_top (y := nI (6 * i + 1)) (nI_add (6 * i) 1) ?_
  refine xr_sld (j := (6 * i + 1)) X S (xI_n (by omega) (by omega)) dL_law_942 ?_
  refine xr_aload_n X 3 dL_law_943 rfl rfl ?_
  refine xr_iload_n X 0 dL_law_944 rfl rfl ?_
  refine xr_iconst (v := 2) X dL_law_945 (by decide) ?_
  refine xr_iadd X dL_law_946 ?_
  refine xr_top (y := nI (6 * i + 2)) (nI_add (6 * i) 2) ?_
  refine xr_sld (j := (6 * i + 2)) X S (xI_n (by omega) (by omega)) dL_law_947 ?_
  refine xr_callV X q2 rfl kw_1264 kw_1265 kw_1266 cw_X12_as [.int (xs (6 * i + 1)), .int (xs (6 * i + 2))] M rfl rfl rfl rfl rfl (Nat.ble_eq_true_of_le (by omega)) (Nat.ble_eq_true_of_le (by omega)) dL_law_948 ?_
  refine xr_icmp_eq (tgt := 1048) X dL_law_951 (by decide) (fun _ => ?_) (fun c_951 => absurd rfl c_951)
  refine xr_iinc (v := nI (6 * (i + 1))) (lv' := [(3, .int (nI (6 * (i + 1)))), (2, .ref m), (1, .ref e), (0, .ref b)]) X 0 dL_law_1048 rfl (by rw [show 6 * (i + 1) = 6 * i + 6 by omega]; exact nI_add (6 * i) 6) rfl rfl ?_
  refine xr_goto (tgt := 18) X dL_law_1051 (by decide) ?_
  refine xr_wid (k2 := 49 + 7 * (i + 1)) (n2 := 2983 + 21 * (i + 1)) (by omega) (by omega) ?_
  exact KI _ _ I2
set_option maxRecDepth 100000 in
theorem l_case_ask {Γ : xΓ} {Ω : xW} {h : xH} {sz : Nat} {e w m b L i : Nat} {xs : Nat → Int32} {nm : String} {Q : State → Prop} (X : xX Γ Ω cL_law 4 RL nm ret 12 430 600000 7302250) (S : xScr Γ Ω b L xs) (hw : w = e + 16) (hm : m = e + 37) (hL : L ≤ 384) (hi : 6 * i + 6 ≤ L) (I : INV e w m h sz) (hdom : ∀ (a : Nat) (e : xE), h a = some e → Ω.2.1 ≤ a ∧ a < sz) (KI : ∀ (h : xH) (sz : Nat), INV e w m h sz → xG Γ Ω 4 Q 18 [(3, .int (nI (6 * (i + 1)))), (2, .ref m), (1, .ref e), (0, .ref b)] [] h sz (49 + 7 * (i + 1)) (2983 + 21 * (i + 1))) : xG Γ Ω 4 Q 956 [(3, .int (nI (6 * i))), (2, .ref m), (1, .ref e), (0, .ref b)] [] h sz (49 + 7 * i) (2983 + 21 * i) := by
  refine xr_aload_n X 2 dL_law_956 rfl rfl ?_
  refine xr_aload_n X 3 dL_law_957 rfl rfl ?_
  refine xr_iload_n X 0 dL_law_958 rfl rfl ?_
  refine xr_iconst (v := 1) X dL_law_959 (by decide) ?_
  refine xr_iadd X dL_law_960 ?_
  refine xr_top (y := nI (6 * i + 1)) (nI_add (6 * i) 1) ?_
  refine xr_sld (j := (6 * i + 1)) X S (xI_n (by omega) (by omega)) dL_law_961 ?_
  refine xr_aload_n X 3 dL_law_962 rfl rfl ?_
  refine xr_iload_n X 0 dL_law_963 rfl rfl ?_
  refine xr_iconst (v := 2) X dL_law_964 (by decide) ?_
  refine xr_iadd X dL_law_965 ?_
  refine xr_top (y := nI (6 * i + 2)) (nI_add (6 * i) 2) ?_
  refine xr_sld (j := (6 * i + 2)) X S (xI_n (by omega) (by omega)) dL_law_966 ?_
  obtain ⟨r9, h1, h2, sz1, f1, f2, q1, C, q2, M, I2⟩ := s_ask (l := Γ.2.1) (Ω := Ω) (p := xs (6 * i + 1)) (v := xs (6 * i + 2)) I hw hm
  refine xr_callV X q1 rfl kw_855 kw_856 kw_857 cw_X11_ask [.int (xs (6 * i + 1)), .int (xs (6 * i + 2))] C rfl rfl rfl rfl rfl (Nat.ble_eq_true_of_le (by omega)) (Nat.ble_eq_true_of_le (by omega)) dL_law_967 ?_
  refine xr_aload_n X 1 dL_law_970 rfl rfl ?_
  refine xr_aload_n X 3 dL_law_971 rfl rfl ?_
  refine xr_iload_n X 0 dL_law_972 rfl rfl ?_
  refine xr_iconst (v := 1) X dL_law_973 (by decide) ?_
  refine xr_iadd X dL_law_974 ?_
  refine xr_top (y := nI (6 * i + 1)) (nI_add (6 * i) 1) ?_
  refine xr_sld (j := (6 * i + 1)) X S (xI_n (by omega) (by omega)) dL_law_975 ?_
  refine xr_aload_n X 3 dL_law_976 rfl rfl ?_
  refine xr_iload_n X 0 dL_law_977 rfl rfl ?_
  refine xr_iconst (v := 2) X dL_law_978 (by decide) ?_
  refine xr_iadd X dL_law_979 ?_
  refine xr_top (y := nI (6 * i + 2)) (nI_add (6 * i) 2) ?_
  refine xr_sld (j := (6 * i + 2)) X S (xI_n (by omega) (by omega)) dL_law_980 ?_
  refine xr_callV X q2 rfl kw_1271 kw_1272 kw_1273 cw_X12_ask [.int (xs (6 * i + 1)), .int (xs (6 * i + 2))] M rfl rfl rfl rfl rfl (Nat.ble_eq_true_of_le (by omega)) (Nat.ble_eq_true_of_le (by omega)) dL_law_981 ?_
  refine xr_icmp_eq (tgt := 1048) X dL_law_984 (by decide) (fun _ => ?_) (fun c_984 => absurd rfl c_984)
  refine xr_iinc (v := nI (6 * (i + 1))) (lv' := [(3, .int (nI (6 * (i + 1)))), (2, .ref m), (1, .ref e), (0, .ref b)]) X 0 dL_law_1048 rfl (by rw [show 6 * (i + 1) = 6 * i + 6 by omega]; exact nI_add (6 * i) 6) rfl rfl ?_
  refine xr_goto (tgt := 18) X dL_law_1051 (by decide) ?_
  refine xr_wid (k2 := 49 + 7 * (i + 1)) (n2 := 2983 + 21 * (i + 1)) (by omega) (by omega) ?_
  exact KI _ _ I2
set_option maxRecDepth 100000 in
theorem l_case_trace {Γ : xΓ} {Ω : xW} {h : xH} {sz : Nat} {e w m b L i : Nat} {xs : Nat → Int32} {nm : String} {Q : State → Prop} (X : xX Γ Ω cL_law 4 RL nm ret 12 430 600000 7302250) (S : xScr Γ Ω b L xs) (hw : w = e + 16) (hm : m = e + 37) (hL : L ≤ 384) (hi : 6 * i + 6 ≤ L) (I : INV e w m h sz) (hdom : ∀ (a : Nat) (e : xE), h a = some e → Ω.2.1 ≤ a ∧ a < sz) (KI : ∀ (h : xH) (sz : Nat), INV e w m h sz → xG Γ Ω 4 Q 18 [(3, .int (nI (6 * (i + 1)))), (2, .ref m), (1, .ref e), (0, .ref b)] [] h sz (49 + 7 * (i + 1)) (2983 + 21 * (i + 1))) : xG Γ Ω 4 Q 989 [(3, .int (nI (6 * i))), (2, .ref m), (1, .ref e), (0, .ref b)] [] h sz (49 + 7 * i) (2983 + 21 * i) := by
  refine xr_aload_n X 2 dL_law_989 rfl rfl ?_
  refine xr_aload_n X 3 dL_law_990 rfl rfl ?_
  refine xr_iload_n X 0 dL_law_991 rfl rfl ?_
  refine xr_iconst (v := 1) X dL_law_992 (by decide) ?_
  refine xr_iadd X dL_law_993 ?_
  refine xr_top (y := nI (6 * i + 1)) (nI_add (6 * i) 1) ?_
  refine xr_sld (j := (6 * i + 1)) X S (xI_n (by omega) (by omega)) dL_law_994 ?_
  obtain ⟨r9, h1, h2, sz1, f1, f2, q1, C, q2, M, I2⟩ := s_trace (l := Γ.2.1) (Ω := Ω) (i := xs (6 * i + 1)) I hw hm
  refine xr_callV X q1 rfl kw_914 kw_915 kw_916 cw_X11_trace [.int (xs (6 * i + 1))] C rfl rfl rfl rfl rfl (Nat.ble_eq_true_of_le (by omega)) (Nat.ble_eq_true_of_le (by omega)) dL_law_995 ?_
  refine xr_aload_n X 1 dL_law_998 rfl rfl ?_
  refine xr_aload_n X 3 dL_law_999 rfl rfl ?_
  refine xr_iload_n X 0 dL_law_1000 rfl rfl ?_
  refine xr_iconst (v := 1) X dL_law_1001 (by decide) ?_
  refine xr_iadd X dL_law_1002 ?_
  refine xr_top (y := nI (6 * i + 1)) (nI_add (6 * i) 1) ?_
  refine xr_sld (j := (6 * i + 1)) X S (xI_n (by omega) (by omega)) dL_law_1003 ?_
  refine xr_callV X q2 rfl kw_1295 kw_1296 kw_1297 cw_X12_trace [.int (xs (6 * i + 1))] M rfl rfl rfl rfl rfl (Nat.ble_eq_true_of_le (by omega)) (Nat.ble_eq_true_of_le (by omega)) dL_law_1004 ?_
  refine xr_icmp_eq (tgt := 1048) X dL_law_1007 (by decide) (fun _ => ?_) (fun c_1007 => absurd rfl c_1007)
  refine xr_iinc (v := nI (6 * (i + 1))) (lv' := [(3, .int (nI (6 * (i + 1)))), (2, .ref m), (1, .ref e), (0, .ref b)]) X 0 dL_law_1048 rfl (by rw [show 6 * (i + 1) = 6 * i + 6 by omega]; exact nI_add (6 * i) 6) rfl rfl ?_
  refine xr_goto (tgt := 18) X dL_law_1051 (by decide) ?_
  refine xr_wid (k2 := 49 + 7 * (i + 1)) (n2 := 2983 + 21 * (i + 1)) (by omega) (by omega) ?_
  exact KI _ _ I2
set_option maxRecDepth 100000 in
theorem l_case_count {Γ : xΓ} {Ω : xW} {h : xH} {sz : Nat} {e w m b L i : Nat} {xs : Nat → Int32} {nm : String} {Q : State → Prop} (X : xX Γ Ω cL_law 4 RL nm ret 12 430 600000 7302250) (S : xScr Γ Ω b L xs) (hw : w = e + 16) (hm : m = e + 37) (hL : L ≤ 384) (hi : 6 * i + 6 ≤ L) (I : INV e w m h sz) (hdom : ∀ (a : Nat) (e : xE), h a = some e → Ω.2.1 ≤ a ∧ a < sz) (KI : ∀ (h : xH) (sz : Nat), INV e w m h sz → xG Γ Ω 4 Q 18 [(3, .int (nI (6 * (i + 1)))), (2, .ref m), (1, .ref e), (0, .ref b)] [] h sz (49 + 7 * (i + 1)) (2983 + 21 * (i + 1))) : xG Γ Ω 4 Q 1012 [(3, .int (nI (6 * i))), (2, .ref m), (1, .ref e), (0, .ref b)] [] h sz (49 + 7 * i) (2983 + 21 * i) := by
  refine xr_aload_n X 2 dL_law_1012 rfl rfl ?_
  refine xr_aload_n X 3 dL_law_1013 rfl rfl ?_
  refine xr_iload_n X 0 dL_law_1014 rfl rfl ?_
  refine xr_iconst (v := 1) X dL_law_1015 (by decide) ?_
  refine xr_iadd X dL_law_1016 ?_
  refine xr_top (y := nI (6 * i + 1)) (nI_add (6 * i) 1) ?_
  refine xr_sld (j := (6 * i + 1)) X S (xI_n (by omega) (by omega)) dL_law_1017 ?_
  obtain ⟨r9, h1, h2, sz1, f1, f2, q1, C, q2, M, I2⟩ := s_count (l := Γ.2.1) (Ω := Ω) (v := xs (6 * i + 1)) I hw hm
  refine xr_callV X q1 rfl kw_923 kw_924 kw_925 cw_X11_count [.int (xs (6 * i + 1))] C rfl rfl rfl rfl rfl (Nat.ble_eq_true_of_le (by omega)) (Nat.ble_eq_true_of_le (by omega)) dL_law_1018 ?_
  refine xr_aload_n X 1 dL_law_1021 rfl rfl ?_
  refine xr_aload_n X 3 dL_law_1022 rfl rfl ?_
  refine xr_iload_n X 0 dL_law_1023 rfl rfl ?_
  refine xr_iconst (v := 1) X dL_law_1024 (by decide) ?_
  refine xr_iadd X dL_law_1025 ?_
  refine xr_top (y := nI (6 * i + 1)) (nI_add (6 * i) 1) ?_
  refine xr_sld (j := (6 * i + 1)) X S (xI_n (by omega) (by omega)) dL_law_1026 ?_
  refine xr_callV X q2 rfl kw_1299 kw_1300 kw_1301 cw_X12_count [.int (xs (6 * i + 1))] M rfl rfl rfl rfl rfl (Nat.ble_eq_true_of_le (by omega)) (Nat.ble_eq_true_of_le (by omega)) dL_law_1027 ?_
  refine xr_icmp_eq (tgt := 1048) X dL_law_1030 (by decide) (fun _ => ?_) (fun c_1030 => absurd rfl c_1030)
  refine xr_iinc (v := nI (6 * (i + 1))) (lv' := [(3, .int (nI (6 * (i + 1)))), (2, .ref m), (1, .ref e), (0, .ref b)]) X 0 dL_law_1048 rfl (by rw [show 6 * (i + 1) = 6 * i + 6 by omega]; exact nI_add (6 * i) 6) rfl rfl ?_
  refine xr_goto (tgt := 18) X dL_law_1051 (by decide) ?_
  refine xr_wid (k2 := 49 + 7 * (i + 1)) (n2 := 2983 + 21 * (i + 1)) (by omega) (by omega) ?_
  exact KI _ _ I2
set_option maxRecDepth 100000 in
theorem l_case_status {Γ : xΓ} {Ω : xW} {h : xH} {sz : Nat} {e w m b L i : Nat} {xs : Nat → Int32} {nm : String} {Q : State → Prop} (X : xX Γ Ω cL_law 4 RL nm ret 12 430 600000 7302250) (S : xScr Γ Ω b L xs) (hw : w = e + 16) (hm : m = e + 37) (hL : L ≤ 384) (hi : 6 * i + 6 ≤ L) (I : INV e w m h sz) (hdom : ∀ (a : Nat) (e : xE), h a = some e → Ω.2.1 ≤ a ∧ a < sz) (KI : ∀ (h : xH) (sz : Nat), INV e w m h sz → xG Γ Ω 4 Q 18 [(3, .int (nI (6 * (i + 1)))), (2, .ref m), (1, .ref e), (0, .ref b)] [] h sz (49 + 7 * (i + 1)) (2983 + 21 * (i + 1))) : xG Γ Ω 4 Q 1035 [(3, .int (nI (6 * i))), (2, .ref m), (1, .ref e), (0, .ref b)] [] h sz (49 + 7 * i) (2983 + 21 * i) := by
  refine xr_aload_n X 2 dL_law_1035 rfl rfl ?_
  obtain ⟨r9, h1, h2, sz1, f1, f2, q1, C, q2, M, I2⟩ := s_status (l := Γ.2.1) (Ω := Ω)  I hw hm
  refine xr_callV X q1 rfl kw_935 kw_936 kw_937 cw_X11_status [] C rfl rfl rfl rfl rfl (Nat.ble_eq_true_of_le (by omega)) (Nat.ble_eq_true_of_le (by omega)) dL_law_1036 ?_
  refine xr_aload_n X 1 dL_law_1039 rfl rfl ?_
  refine xr_callV X q2 rfl kw_1303 kw_1304 kw_1305 cw_X12_status [] M rfl rfl rfl rfl rfl (Nat.ble_eq_true_of_le (by omega)) (Nat.ble_eq_true_of_le (by omega)) dL_law_1040 ?_
  refine xr_icmp_eq (tgt := 1048) X dL_law_1043 (by decide) (fun _ => ?_) (fun c_1043 => absurd rfl c_1043)
  refine xr_iinc (v := nI (6 * (i + 1))) (lv' := [(3, .int (nI (6 * (i + 1)))), (2, .ref m), (1, .ref e), (0, .ref b)]) X 0 dL_law_1048 rfl (by rw [show 6 * (i + 1) = 6 * i + 6 by omega]; exact nI_add (6 * i) 6) rfl rfl ?_
  refine xr_goto (tgt := 18) X dL_law_1051 (by decide) ?_
  refine xr_wid (k2 := 49 + 7 * (i + 1)) (n2 := 2983 + 21 * (i + 1)) (by omega) (by omega) ?_
  exact KI _ _ I2
