set_option maxHeartbeats 4000000 in
set_option maxRecDepth 100000 in
theorem lw_case_0 {p : Program} {e : Env} {s : State} {m : MethodId} {below : List Frame} {meth : Method} {c : Code} {D : va_G} {A : Nat → Prop} {Ω τ : Type} {Qr : Ω → State → Prop} {K : τ → Ω} {t : τ} {nm : String} {cI cZ cO : ClassId} (l : Launch) {b N i n r : Nat} {xs : Nat → Int32} {q g : Nat → Nat} {x : Sy} {u : St} (C : XC RL cL_law 4 ret nm (T3 cI cZ cO) D A p s m #[Value.ref b] meth c) (hX : va_X b N xs s s.heap) (hb : b < s.heap.size) (hA : ¬ A b) (hN : N < 2 ^ 31) (hi : i + 3 < N) (h : RT (n + 1000) x u) (hn : n + 1000 < 2 ^ 31) (hl : LB (4000 + r) u) (k : ∀ (x' : Sy) (u' : St), RT n x' u' → LB r u' → XI p l e room_1 s m #[Value.ref b] below meth c D A 4 46 883 Qr K t 634 [(3, .int (nI i)), (2, .ref (g 0)), (1, .ref (q 0)), (0, .ref b)] [] (wLG cI cZ cO q x' ++ wX7 cI cZ cO g u')) : XI p l e room_1 s m #[Value.ref b] below meth c D A 4 46 883 Qr K t 160 [(3, .int (nI i)), (2, .ref (g 0)), (1, .ref (q 0)), (0, .ref b)] [] (wLG cI cZ cO q x ++ wX7 cI cZ cO g u) := by
  have ck := CK_handle (n := n) (r := r) (RT_lo h (by omega)) (LB_lo hl (by omega)) (xs (i + 1))
  refine x_aload_n C dL_law_160 2 rfl ?_
  refine x_aload_n C dL_law_161 3 rfl ?_
  refine x_iload_n C dL_law_162 0 rfl ?_
  refine x_iconst C (nI 1) dL_law_163 (by decide) ?_
  refine x_iadd C dL_law_164 ?_
  refine x_top (nI (i + 1)) (nI_add i 1) ?_
  refine x_sld C hX hb hA (i + 1) rfl (by omega) hN dL_law_165 ?_
  refine x_callC (As := [.int (xs (i + 1))]) (x' := (f_X6_handle x (xs (i + 1))).2) C mw_541 mw_461 mw_462 mw_37 mw_244 hd_X6_handle rfl rfl ⟨Nat.le_of_ble_eq_true rfl, Nat.le_of_ble_eq_true rfl⟩ rfl (c_X6_handle l D cI cZ cO q x (xs (i + 1))) rfl rfl (Nat.le_of_ble_eq_true rfl) (Nat.le_of_ble_eq_true rfl) (Nat.le_of_ble_eq_true rfl) dL_law_166 ?_
  refine x_pop C dL_law_169 rfl ?_
  refine x_aload_n C dL_law_170 1 rfl ?_
  refine x_aload_n C dL_law_171 3 rfl ?_
  refine x_iload_n C dL_law_172 0 rfl ?_
  refine x_iconst C (nI 1) dL_law_173 (by decide) ?_
  refine x_iadd C dL_law_174 ?_
  refine x_top (nI (i + 1)) (nI_add i 1) ?_
  refine x_sld C hX hb hA (i + 1) rfl (by omega) hN dL_law_175 ?_
  refine x_callM (As := [.int (xs (i + 1))]) (u' := (f_X7_handle u (xs (i + 1))).2) C mw_542 mw_463 mw_464 mw_337 mw_364 hd_X7_handle rfl rfl ⟨Nat.le_of_ble_eq_true rfl, Nat.le_of_ble_eq_true rfl⟩ rfl (c_X7_handle l D cI cZ cO g u (xs (i + 1))) rfl rfl (Nat.le_of_ble_eq_true rfl) (Nat.le_of_ble_eq_true rfl) (Nat.le_of_ble_eq_true rfl) dL_law_176 ?_
  refine x_pop C dL_law_179 rfl ?_
  refine x_goto C 634 dL_law_180 (by decide) ?_
  exact k _ _ ck.2.1 ck.2.2
set_option maxHeartbeats 4000000 in
set_option maxRecDepth 100000 in
theorem lw_case_1 {p : Program} {e : Env} {s : State} {m : MethodId} {below : List Frame} {meth : Method} {c : Code} {D : va_G} {A : Nat → Prop} {Ω τ : Type} {Qr : Ω → State → Prop} {K : τ → Ω} {t : τ} {nm : String} {cI cZ cO : ClassId} (l : Launch) {b N i n r : Nat} {xs : Nat → Int32} {q g : Nat → Nat} {x : Sy} {u : St} (C : XC RL cL_law 4 ret nm (T3 cI cZ cO) D A p s m #[Value.ref b] meth c) (hX : va_X b N xs s s.heap) (hb : b < s.heap.size) (hA : ¬ A b) (hN : N < 2 ^ 31) (hi : i + 3 < N) (h : RT (n + 1000) x u) (hn : n + 1000 < 2 ^ 31) (hl : LB (4000 + r) u) (k : ∀ (x' : Sy) (u' : St), RT n x' u' → LB r u' → XI p l e room_1 s m #[Value.ref b] below meth c D A 4 46 883 Qr K t 634 [(3, .int (nI i)), (2, .ref (g 0)), (1, .ref (q 0)), (0, .ref b)] [] (wLG cI cZ cO q x' ++ wX7 cI cZ cO g u')) : XI p l e room_1 s m #[Value.ref b] below meth c D A 4 46 883 Qr K t 183 [(3, .int (nI i)), (2, .ref (g 0)), (1, .ref (q 0)), (0, .ref b)] [] (wLG cI cZ cO q x ++ wX7 cI cZ cO g u) := by
  have ck := CK_ground (n := n) (r := r) (RT_lo h (by omega)) (LB_lo hl (by omega)) (xs (i + 1))
  refine x_aload_n C dL_law_183 2 rfl ?_
  refine x_aload_n C dL_law_184 3 rfl ?_
  refine x_iload_n C dL_law_185 0 rfl ?_
  refine x_iconst C (nI 1) dL_law_186 (by decide) ?_
  refine x_iadd C dL_law_187 ?_
  refine x_top (nI (i + 1)) (nI_add i 1) ?_
  refine x_sld C hX hb hA (i + 1) rfl (by omega) hN dL_law_188 ?_
  refine x_callC (As := [.int (xs (i + 1))]) (x' := (f_X6_ground x (xs (i + 1))).2) C mw_543 mw_465 mw_466 mw_37 mw_249 hd_X6_ground rfl rfl ⟨Nat.le_of_ble_eq_true rfl, Nat.le_of_ble_eq_true rfl⟩ rfl (c_X6_ground l D cI cZ cO q x (xs (i + 1))) rfl rfl (Nat.le_of_ble_eq_true rfl) (Nat.le_of_ble_eq_true rfl) (Nat.le_of_ble_eq_true rfl) dL_law_189 ?_
  refine x_pop C dL_law_192 rfl ?_
  refine x_aload_n C dL_law_193 1 rfl ?_
  refine x_aload_n C dL_law_194 3 rfl ?_
  refine x_iload_n C dL_law_195 0 rfl ?_
  refine x_iconst C (nI 1) dL_law_196 (by decide) ?_
  refine x_iadd C dL_law_197 ?_
  refine x_top (nI (i + 1)) (nI_add i 1) ?_
  refine x_sld C hX hb hA (i + 1) rfl (by omega) hN dL_law_198 ?_
  refine x_callM (As := [.int (xs (i + 1))]) (u' := (f_X7_ground u (xs (i + 1))).2) C mw_544 mw_467 mw_468 mw_337 mw_369 hd_X7_ground rfl rfl ⟨Nat.le_of_ble_eq_true rfl, Nat.le_of_ble_eq_true rfl⟩ rfl (c_X7_ground l D cI cZ cO g u (xs (i + 1))) rfl rfl (Nat.le_of_ble_eq_true rfl) (Nat.le_of_ble_eq_true rfl) (Nat.le_of_ble_eq_true rfl) dL_law_199 ?_
  refine x_pop C dL_law_202 rfl ?_
  refine x_goto C 634 dL_law_203 (by decide) ?_
  exact k _ _ ck.2.1 ck.2.2
set_option maxHeartbeats 4000000 in
set_option maxRecDepth 100000 in
theorem lw_case_2 {p : Program} {e : Env} {s : State} {m : MethodId} {below : List Frame} {meth : Method} {c : Code} {D : va_G} {A : Nat → Prop} {Ω τ : Type} {Qr : Ω → State → Prop} {K : τ → Ω} {t : τ} {nm : String} {cI cZ cO : ClassId} (l : Launch) {b N i n r : Nat} {xs : Nat → Int32} {q g : Nat → Nat} {x : Sy} {u : St} (C : XC RL cL_law 4 ret nm (T3 cI cZ cO) D A p s m #[Value.ref b] meth c) (hX : va_X b N xs s s.heap) (hb : b < s.heap.size) (hA : ¬ A b) (hN : N < 2 ^ 31) (hi : i + 3 < N) (h : RT (n + 1000) x u) (hn : n + 1000 < 2 ^ 31) (hl : LB (4000 + r) u) (k : ∀ (x' : Sy) (u' : St), RT n x' u' → LB r u' → XI p l e room_1 s m #[Value.ref b] below meth c D A 4 46 883 Qr K t 634 [(3, .int (nI i)), (2, .ref (g 0)), (1, .ref (q 0)), (0, .ref b)] [] (wLG cI cZ cO q x' ++ wX7 cI cZ cO g u')) : XI p l e room_1 s m #[Value.ref b] below meth c D A 4 46 883 Qr K t 206 [(3, .int (nI i)), (2, .ref (g 0)), (1, .ref (q 0)), (0, .ref b)] [] (wLG cI cZ cO q x ++ wX7 cI cZ cO g u) := by
  have ck := CK_channel (n := n) (r := r) (RT_lo h (by omega)) (LB_lo hl (by omega)) (xs (i + 1)) (xs (i + 2)) (xs (i + 3))
  refine x_aload_n C dL_law_206 2 rfl ?_
  refine x_aload_n C dL_law_207 3 rfl ?_
  refine x_iload_n C dL_law_208 0 rfl ?_
  refine x_iconst C (nI 1) dL_law_209 (by decide) ?_
  refine x_iadd C dL_law_210 ?_
  refine x_top (nI (i + 1)) (nI_add i 1) ?_
  refine x_sld C hX hb hA (i + 1) rfl (by omega) hN dL_law_211 ?_
  refine x_aload_n C dL_law_212 3 rfl ?_
  refine x_iload_n C dL_law_213 0 rfl ?_
  refine x_iconst C (nI 2) dL_law_214 (by decide) ?_
  refine x_iadd C dL_law_215 ?_
  refine x_top (nI (i + 2)) (nI_add i 2) ?_
  refine x_sld C hX hb hA (i + 2) rfl (by omega) hN dL_law_216 ?_
  refine x_aload_n C dL_law_217 3 rfl ?_
  refine x_iload_n C dL_law_218 0 rfl ?_
  refine x_iconst C (nI 3) dL_law_219 (by decide) ?_
  refine x_iadd C dL_law_220 ?_
  refine x_top (nI (i + 3)) (nI_add i 3) ?_
  refine x_sld C hX hb hA (i + 3) rfl (by omega) hN dL_law_221 ?_
  refine x_callC (As := [.int (xs (i + 1)), .int (xs (i + 2)), .int (xs (i + 3))]) (x' := (f_X6_channel x (xs (i + 1)) (xs (i + 2)) (xs (i + 3))).2) C mw_545 mw_469 mw_470 mw_37 mw_252 hd_X6_channel rfl rfl ⟨Nat.le_of_ble_eq_true rfl, Nat.le_of_ble_eq_true rfl⟩ rfl (c_X6_channel l D cI cZ cO q x (xs (i + 1)) (xs (i + 2)) (xs (i + 3))) rfl rfl (Nat.le_of_ble_eq_true rfl) (Nat.le_of_ble_eq_true rfl) (Nat.le_of_ble_eq_true rfl) dL_law_222 ?_
  refine x_pop C dL_law_225 rfl ?_
  refine x_aload_n C dL_law_226 1 rfl ?_
  refine x_aload_n C dL_law_227 3 rfl ?_
  refine x_iload_n C dL_law_228 0 rfl ?_
  refine x_iconst C (nI 1) dL_law_229 (by decide) ?_
  refine x_iadd C dL_law_230 ?_
  refine x_top (nI (i + 1)) (nI_add i 1) ?_
  refine x_sld C hX hb hA (i + 1) rfl (by omega) hN dL_law_231 ?_
  refine x_aload_n C dL_law_232 3 rfl ?_
  refine x_iload_n C dL_law_233 0 rfl ?_
  refine x_iconst C (nI 2) dL_law_234 (by decide) ?_
  refine x_iadd C dL_law_235 ?_
  refine x_top (nI (i + 2)) (nI_add i 2) ?_
  refine x_sld C hX hb hA (i + 2) rfl (by omega) hN dL_law_236 ?_
  refine x_aload_n C dL_law_237 3 rfl ?_
  refine x_iload_n C dL_law_238 0 rfl ?_
  refine x_iconst C (nI 3) dL_law_239 (by decide) ?_
  refine x_iadd C dL_law_240 ?_
  refine x_top (nI (i + 3)) (nI_add i 3) ?_
  refine x_sld C hX hb hA (i + 3) rfl (by omega) hN dL_law_241 ?_
  refine x_callM (As := [.int (xs (i + 1)), .int (xs (i + 2)), .int (xs (i + 3))]) (u' := (f_X7_channel u (xs (i + 1)) (xs (i + 2)) (xs (i + 3))).2) C mw_546 mw_471 mw_472 mw_337 mw_370 hd_X7_channel rfl rfl ⟨Nat.le_of_ble_eq_true rfl, Nat.le_of_ble_eq_true rfl⟩ rfl (c_X7_channel l D cI cZ cO g u (xs (i + 1)) (xs (i + 2)) (xs (i + 3))) rfl rfl (Nat.le_of_ble_eq_true rfl) (Nat.le_of_ble_eq_true rfl) (Nat.le_of_ble_eq_true rfl) dL_law_242 ?_
  refine x_pop C dL_law_245 rfl ?_
  refine x_goto C 634 dL_law_246 (by decide) ?_
  exact k _ _ ck.2.1 ck.2.2
set_option maxHeartbeats 4000000 in
set_option maxRecDepth 100000 in
theorem lw_case_3 {p : Program} {e : Env} {s : State} {m : MethodId} {below : List Frame} {meth : Method} {c : Code} {D : va_G} {A : Nat → Prop} {Ω τ : Type} {Qr : Ω → State → Prop} {K : τ → Ω} {t : τ} {nm : String} {cI cZ cO : ClassId} (l : Launch) {b N i n r : Nat} {xs : Nat → Int32} {q g : Nat → Nat} {x : Sy} {u : St} (C : XC RL cL_law 4 ret nm (T3 cI cZ cO) D A p s m #[Value.ref b] meth c) (hX : va_X b N xs s s.heap) (hb : b < s.heap.size) (hA : ¬ A b) (hN : N < 2 ^ 31) (hi : i + 3 < N) (h : RT (n + 1000) x u) (hn : n + 1000 < 2 ^ 31) (hl : LB (4000 + r) u) (k : ∀ (x' : Sy) (u' : St), RT n x' u' → LB r u' → XI p l e room_1 s m #[Value.ref b] below meth c D A 4 46 883 Qr K t 634 [(3, .int (nI i)), (2, .ref (g 0)), (1, .ref (q 0)), (0, .ref b)] [] (wLG cI cZ cO q x' ++ wX7 cI cZ cO g u')) : XI p l e room_1 s m #[Value.ref b] below meth c D A 4 46 883 Qr K t 249 [(3, .int (nI i)), (2, .ref (g 0)), (1, .ref (q 0)), (0, .ref b)] [] (wLG cI cZ cO q x ++ wX7 cI cZ cO g u) := by
  have ck := CK_cylinder (n := n) (r := r) (RT_lo h (by omega)) (LB_lo hl (by omega)) (xs (i + 1)) (xs (i + 2))
  refine x_aload_n C dL_law_249 2 rfl ?_
  refine x_aload_n C dL_law_250 3 rfl ?_
  refine x_iload_n C dL_law_251 0 rfl ?_
  refine x_iconst C (nI 1) dL_law_252 (by decide) ?_
  refine x_iadd C dL_law_253 ?_
  refine x_top (nI (i + 1)) (nI_add i 1) ?_
  refine x_sld C hX hb hA (i + 1) rfl (by omega) hN dL_law_254 ?_
  refine x_aload_n C dL_law_255 3 rfl ?_
  refine x_iload_n C dL_law_256 0 rfl ?_
  refine x_iconst C (nI 2) dL_law_257 (by decide) ?_
  refine x_iadd C dL_law_258 ?_
  refine x_top (nI (i + 2)) (nI_add i 2) ?_
  refine x_sld C hX hb hA (i + 2) rfl (by omega) hN dL_law_259 ?_
  refine x_callC (As := [.int (xs (i + 1)), .int (xs (i + 2))]) (x' := (f_X6_cylinder x (xs (i + 1)) (xs (i + 2))).2) C mw_547 mw_473 mw_474 mw_37 mw_256 hd_X6_cylinder rfl rfl ⟨Nat.le_of_ble_eq_true rfl, Nat.le_of_ble_eq_true rfl⟩ rfl (c_X6_cylinder l D cI cZ cO q x (xs (i + 1)) (xs (i + 2))) rfl rfl (Nat.le_of_ble_eq_true rfl) (Nat.le_of_ble_eq_true rfl) (Nat.le_of_ble_eq_true rfl) dL_law_260 ?_
  refine x_pop C dL_law_263 rfl ?_
  refine x_aload_n C dL_law_264 1 rfl ?_
  refine x_aload_n C dL_law_265 3 rfl ?_
  refine x_iload_n C dL_law_266 0 rfl ?_
  refine x_iconst C (nI 1) dL_law_267 (by decide) ?_
  refine x_iadd C dL_law_268 ?_
  refine x_top (nI (i + 1)) (nI_add i 1) ?_
  refine x_sld C hX hb hA (i + 1) rfl (by omega) hN dL_law_269 ?_
  refine x_aload_n C dL_law_270 3 rfl ?_
  refine x_iload_n C dL_law_271 0 rfl ?_
  refine x_iconst C (nI 2) dL_law_272 (by decide) ?_
  refine x_iadd C dL_law_273 ?_
  refine x_top (nI (i + 2)) (nI_add i 2) ?_
  refine x_sld C hX hb hA (i + 2) rfl (by omega) hN dL_law_274 ?_
  refine x_callM (As := [.int (xs (i + 1)), .int (xs (i + 2))]) (u' := (f_X7_cylinder u (xs (i + 1)) (xs (i + 2))).2) C mw_548 mw_475 mw_476 mw_337 mw_371 hd_X7_cylinder rfl rfl ⟨Nat.le_of_ble_eq_true rfl, Nat.le_of_ble_eq_true rfl⟩ rfl (c_X7_cylinder l D cI cZ cO g u (xs (i + 1)) (xs (i + 2))) rfl rfl (Nat.le_of_ble_eq_true rfl) (Nat.le_of_ble_eq_true rfl) (Nat.le_of_ble_eq_true rfl) dL_law_275 ?_
  refine x_pop C dL_law_278 rfl ?_
  refine x_goto C 634 dL_law_279 (by decide) ?_
  exact k _ _ ck.2.1 ck.2.2
set_option maxHeartbeats 4000000 in
set_option maxRecDepth 100000 in
theorem lw_case_4 {p : Program} {e : Env} {s : State} {m : MethodId} {below : List Frame} {meth : Method} {c : Code} {D : va_G} {A : Nat → Prop} {Ω τ : Type} {Qr : Ω → State → Prop} {K : τ → Ω} {t : τ} {nm : String} {cI cZ cO : ClassId} (l : Launch) {b N i n r : Nat} {xs : Nat → Int32} {q g : Nat → Nat} {x : Sy} {u : St} (C : XC RL cL_law 4 ret nm (T3 cI cZ cO) D A p s m #[Value.ref b] meth c) (hX : va_X b N xs s s.heap) (hb : b < s.heap.size) (hA : ¬ A b) (hN : N < 2 ^ 31) (hi : i + 3 < N) (h : RT (n + 1000) x u) (hn : n + 1000 < 2 ^ 31) (hl : LB (4000 + r) u) (k : ∀ (x' : Sy) (u' : St), RT n x' u' → LB r u' → XI p l e room_1 s m #[Value.ref b] below meth c D A 4 46 883 Qr K t 634 [(3, .int (nI i)), (2, .ref (g 0)), (1, .ref (q 0)), (0, .ref b)] [] (wLG cI cZ cO q x' ++ wX7 cI cZ cO g u')) : XI p l e room_1 s m #[Value.ref b] below meth c D A 4 46 883 Qr K t 282 [(3, .int (nI i)), (2, .ref (g 0)), (1, .ref (q 0)), (0, .ref b)] [] (wLG cI cZ cO q x ++ wX7 cI cZ cO g u) := by
  have ck := CK_valve (n := n) (r := r) (RT_lo h (by omega)) (LB_lo hl (by omega)) (xs (i + 1)) (xs (i + 2))
  refine x_aload_n C dL_law_282 2 rfl ?_
  refine x_aload_n C dL_law_283 3 rfl ?_
  refine x_iload_n C dL_law_284 0 rfl ?_
  refine x_iconst C (nI 1) dL_law_285 (by decide) ?_
  refine x_iadd C dL_law_286 ?_
  refine x_top (nI (i + 1)) (nI_add i 1) ?_
  refine x_sld C hX hb hA (i + 1) rfl (by omega) hN dL_law_287 ?_
  refine x_aload_n C dL_law_288 3 rfl ?_
  refine x_iload_n C dL_law_289 0 rfl ?_
  refine x_iconst C (nI 2) dL_law_290 (by decide) ?_
  refine x_iadd C dL_law_291 ?_
  refine x_top (nI (i + 2)) (nI_add i 2) ?_
  refine x_sld C hX hb hA (i + 2) rfl (by omega) hN dL_law_292 ?_
  refine x_callC (As := [.int (xs (i + 1)), .int (xs (i + 2))]) (x' := (f_X6_valve x (xs (i + 1)) (xs (i + 2))).2) C mw_549 mw_477 mw_478 mw_37 mw_258 hd_X6_valve rfl rfl ⟨Nat.le_of_ble_eq_true rfl, Nat.le_of_ble_eq_true rfl⟩ rfl (c_X6_valve l D cI cZ cO q x (xs (i + 1)) (xs (i + 2))) rfl rfl (Nat.le_of_ble_eq_true rfl) (Nat.le_of_ble_eq_true rfl) (Nat.le_of_ble_eq_true rfl) dL_law_293 ?_
  refine x_pop C dL_law_296 rfl ?_
  refine x_aload_n C dL_law_297 1 rfl ?_
  refine x_aload_n C dL_law_298 3 rfl ?_
  refine x_iload_n C dL_law_299 0 rfl ?_
  refine x_iconst C (nI 1) dL_law_300 (by decide) ?_
  refine x_iadd C dL_law_301 ?_
  refine x_top (nI (i + 1)) (nI_add i 1) ?_
  refine x_sld C hX hb hA (i + 1) rfl (by omega) hN dL_law_302 ?_
  refine x_aload_n C dL_law_303 3 rfl ?_
  refine x_iload_n C dL_law_304 0 rfl ?_
  refine x_iconst C (nI 2) dL_law_305 (by decide) ?_
  refine x_iadd C dL_law_306 ?_
  refine x_top (nI (i + 2)) (nI_add i 2) ?_
  refine x_sld C hX hb hA (i + 2) rfl (by omega) hN dL_law_307 ?_
  refine x_callM (As := [.int (xs (i + 1)), .int (xs (i + 2))]) (u' := (f_X7_valve u (xs (i + 1)) (xs (i + 2))).2) C mw_550 mw_479 mw_480 mw_337 mw_372 hd_X7_valve rfl rfl ⟨Nat.le_of_ble_eq_true rfl, Nat.le_of_ble_eq_true rfl⟩ rfl (c_X7_valve l D cI cZ cO g u (xs (i + 1)) (xs (i + 2))) rfl rfl (Nat.le_of_ble_eq_true rfl) (Nat.le_of_ble_eq_true rfl) (Nat.le_of_ble_eq_true rfl) dL_law_308 ?_
  refine x_pop C dL_law_311 rfl ?_
  refine x_goto C 634 dL_law_312 (by decide) ?_
  exact k _ _ ck.2.1 ck.2.2
set_option maxHeartbeats 4000000 in
set_option maxRecDepth 100000 in
theorem lw_case_5 {p : Program} {e : Env} {s : State} {m : MethodId} {below : List Frame} {meth : Method} {c : Code} {D : va_G} {A : Nat → Prop} {Ω τ : Type} {Qr : Ω → State → Prop} {K : τ → Ω} {t : τ} {nm : String} {cI cZ cO : ClassId} (l : Launch) {b N i n r : Nat} {xs : Nat → Int32} {q g : Nat → Nat} {x : Sy} {u : St} (C : XC RL cL_law 4 ret nm (T3 cI cZ cO) D A p s m #[Value.ref b] meth c) (hX : va_X b N xs s s.heap) (hb : b < s.heap.size) (hA : ¬ A b) (hN : N < 2 ^ 31) (hi : i + 3 < N) (h : RT (n + 1000) x u) (hn : n + 1000 < 2 ^ 31) (hl : LB (4000 + r) u) (k : ∀ (x' : Sy) (u' : St), RT n x' u' → LB r u' → XI p l e room_1 s m #[Value.ref b] below meth c D A 4 46 883 Qr K t 634 [(3, .int (nI i)), (2, .ref (g 0)), (1, .ref (q 0)), (0, .ref b)] [] (wLG cI cZ cO q x' ++ wX7 cI cZ cO g u')) : XI p l e room_1 s m #[Value.ref b] below meth c D A 4 46 883 Qr K t 315 [(3, .int (nI i)), (2, .ref (g 0)), (1, .ref (q 0)), (0, .ref b)] [] (wLG cI cZ cO q x ++ wX7 cI cZ cO g u) := by
  have ck := CK_stick (n := n) (r := r) (RT_lo h (by omega)) (LB_lo hl (by omega)) (xs (i + 1))
  refine x_aload_n C dL_law_315 2 rfl ?_
  refine x_aload_n C dL_law_316 3 rfl ?_
  refine x_iload_n C dL_law_317 0 rfl ?_
  refine x_iconst C (nI 1) dL_law_318 (by decide) ?_
  refine x_iadd C dL_law_319 ?_
  refine x_top (nI (i + 1)) (nI_add i 1) ?_
  refine x_sld C hX hb hA (i + 1) rfl (by omega) hN dL_law_320 ?_
  refine x_callC (As := [.int (xs (i + 1))]) (x' := (f_X6_stick x (xs (i + 1))).2) C mw_551 mw_481 mw_482 mw_37 mw_260 hd_X6_stick rfl rfl ⟨Nat.le_of_ble_eq_true rfl, Nat.le_of_ble_eq_true rfl⟩ rfl (c_X6_stick l D cI cZ cO q x (xs (i + 1))) rfl rfl (Nat.le_of_ble_eq_true rfl) (Nat.le_of_ble_eq_true rfl) (Nat.le_of_ble_eq_true rfl) dL_law_321 ?_
  refine x_pop C dL_law_324 rfl ?_
  refine x_aload_n C dL_law_325 1 rfl ?_
  refine x_aload_n C dL_law_326 3 rfl ?_
  refine x_iload_n C dL_law_327 0 rfl ?_
  refine x_iconst C (nI 1) dL_law_328 (by decide) ?_
  refine x_iadd C dL_law_329 ?_
  refine x_top (nI (i + 1)) (nI_add i 1) ?_
  refine x_sld C hX hb hA (i + 1) rfl (by omega) hN dL_law_330 ?_
  refine x_callM (As := [.int (xs (i + 1))]) (u' := (f_X7_stick u (xs (i + 1))).2) C mw_552 mw_483 mw_484 mw_337 mw_373 hd_X7_stick rfl rfl ⟨Nat.le_of_ble_eq_true rfl, Nat.le_of_ble_eq_true rfl⟩ rfl (c_X7_stick l D cI cZ cO g u (xs (i + 1))) rfl rfl (Nat.le_of_ble_eq_true rfl) (Nat.le_of_ble_eq_true rfl) (Nat.le_of_ble_eq_true rfl) dL_law_331 ?_
  refine x_pop C dL_law_334 rfl ?_
  refine x_goto C 634 dL_law_335 (by decide) ?_
  exact k _ _ ck.2.1 ck.2.2
set_option maxHeartbeats 4000000 in
set_option maxRecDepth 100000 in
theorem lw_case_6 {p : Program} {e : Env} {s : State} {m : MethodId} {below : List Frame} {meth : Method} {c : Code} {D : va_G} {A : Nat → Prop} {Ω τ : Type} {Qr : Ω → State → Prop} {K : τ → Ω} {t : τ} {nm : String} {cI cZ cO : ClassId} (l : Launch) {b N i n r : Nat} {xs : Nat → Int32} {q g : Nat → Nat} {x : Sy} {u : St} (C : XC RL cL_law 4 ret nm (T3 cI cZ cO) D A p s m #[Value.ref b] meth c) (hX : va_X b N xs s s.heap) (hb : b < s.heap.size) (hA : ¬ A b) (hN : N < 2 ^ 31) (hi : i + 3 < N) (h : RT (n + 1000) x u) (hn : n + 1000 < 2 ^ 31) (hl : LB (4000 + r) u) (k : ∀ (x' : Sy) (u' : St), RT n x' u' → LB r u' → XI p l e room_1 s m #[Value.ref b] below meth c D A 4 46 883 Qr K t 634 [(3, .int (nI i)), (2, .ref (g 0)), (1, .ref (q 0)), (0, .ref b)] [] (wLG cI cZ cO q x' ++ wX7 cI cZ cO g u')) : XI p l e room_1 s m #[Value.ref b] below meth c D A 4 46 883 Qr K t 338 [(3, .int (nI i)), (2, .ref (g 0)), (1, .ref (q 0)), (0, .ref b)] [] (wLG cI cZ cO q x ++ wX7 cI cZ cO g u) := by
  have ck := CK_module (n := n) (r := r) (RT_lo h (by omega)) (LB_lo hl (by omega)) (xs (i + 1)) (xs (i + 2))
  refine x_aload_n C dL_law_338 2 rfl ?_
  refine x_aload_n C dL_law_339 3 rfl ?_
  refine x_iload_n C dL_law_340 0 rfl ?_
  refine x_iconst C (nI 1) dL_law_341 (by decide) ?_
  refine x_iadd C dL_law_342 ?_
  refine x_top (nI (i + 1)) (nI_add i 1) ?_
  refine x_sld C hX hb hA (i + 1) rfl (by omega) hN dL_law_343 ?_
  refine x_aload_n C dL_law_344 3 rfl ?_
  refine x_iload_n C dL_law_345 0 rfl ?_
  refine x_iconst C (nI 2) dL_law_346 (by decide) ?_
  refine x_iadd C dL_law_347 ?_
  refine x_top (nI (i + 2)) (nI_add i 2) ?_
  refine x_sld C hX hb hA (i + 2) rfl (by omega) hN dL_law_348 ?_
  refine x_callC (As := [.int (xs (i + 1)), .int (xs (i + 2))]) (x' := (f_X6_module x (xs (i + 1)) (xs (i + 2))).2) C mw_553 mw_485 mw_486 mw_37 mw_262 hd_X6_module rfl rfl ⟨Nat.le_of_ble_eq_true rfl, Nat.le_of_ble_eq_true rfl⟩ rfl (c_X6_module l D cI cZ cO q x (xs (i + 1)) (xs (i + 2))) rfl rfl (Nat.le_of_ble_eq_true rfl) (Nat.le_of_ble_eq_true rfl) (Nat.le_of_ble_eq_true rfl) dL_law_349 ?_
  refine x_pop C dL_law_352 rfl ?_
  refine x_aload_n C dL_law_353 1 rfl ?_
  refine x_aload_n C dL_law_354 3 rfl ?_
  refine x_iload_n C dL_law_355 0 rfl ?_
  refine x_iconst C (nI 1) dL_law_356 (by decide) ?_
  refine x_iadd C dL_law_357 ?_
  refine x_top (nI (i + 1)) (nI_add i 1) ?_
  refine x_sld C hX hb hA (i + 1) rfl (by omega) hN dL_law_358 ?_
  refine x_aload_n C dL_law_359 3 rfl ?_
  refine x_iload_n C dL_law_360 0 rfl ?_
  refine x_iconst C (nI 2) dL_law_361 (by decide) ?_
  refine x_iadd C dL_law_362 ?_
  refine x_top (nI (i + 2)) (nI_add i 2) ?_
  refine x_sld C hX hb hA (i + 2) rfl (by omega) hN dL_law_363 ?_
  refine x_callM (As := [.int (xs (i + 1)), .int (xs (i + 2))]) (u' := (f_X7_module u (xs (i + 1)) (xs (i + 2))).2) C mw_554 mw_487 mw_488 mw_337 mw_375 hd_X7_module rfl rfl ⟨Nat.le_of_ble_eq_true rfl, Nat.le_of_ble_eq_true rfl⟩ rfl (c_X7_module l D cI cZ cO g u (xs (i + 1)) (xs (i + 2))) rfl rfl (Nat.le_of_ble_eq_true rfl) (Nat.le_of_ble_eq_true rfl) (Nat.le_of_ble_eq_true rfl) dL_law_364 ?_
  refine x_pop C dL_law_367 rfl ?_
  refine x_goto C 634 dL_law_368 (by decide) ?_
  exact k _ _ ck.2.1 ck.2.2
set_option maxHeartbeats 4000000 in
set_option maxRecDepth 100000 in
theorem lw_case_7 {p : Program} {e : Env} {s : State} {m : MethodId} {below : List Frame} {meth : Method} {c : Code} {D : va_G} {A : Nat → Prop} {Ω τ : Type} {Qr : Ω → State → Prop} {K : τ → Ω} {t : τ} {nm : String} {cI cZ cO : ClassId} (l : Launch) {b N i n r : Nat} {xs : Nat → Int32} {q g : Nat → Nat} {x : Sy} {u : St} (C : XC RL cL_law 4 ret nm (T3 cI cZ cO) D A p s m #[Value.ref b] meth c) (hX : va_X b N xs s s.heap) (hb : b < s.heap.size) (hA : ¬ A b) (hN : N < 2 ^ 31) (hi : i + 3 < N) (h : RT (n + 1000) x u) (hn : n + 1000 < 2 ^ 31) (hl : LB (4000 + r) u) (k : ∀ (x' : Sy) (u' : St), RT n x' u' → LB r u' → XI p l e room_1 s m #[Value.ref b] below meth c D A 4 46 883 Qr K t 634 [(3, .int (nI i)), (2, .ref (g 0)), (1, .ref (q 0)), (0, .ref b)] [] (wLG cI cZ cO q x' ++ wX7 cI cZ cO g u')) : XI p l e room_1 s m #[Value.ref b] below meth c D A 4 46 883 Qr K t 371 [(3, .int (nI i)), (2, .ref (g 0)), (1, .ref (q 0)), (0, .ref b)] [] (wLG cI cZ cO q x ++ wX7 cI cZ cO g u) := by
  have ck := CK_run (n := n) (r := r) h hn (LB_lo hl (by omega)) (xs (i + 1))
  refine x_aload_n C dL_law_371 2 rfl ?_
  refine x_aload_n C dL_law_372 3 rfl ?_
  refine x_iload_n C dL_law_373 0 rfl ?_
  refine x_iconst C (nI 1) dL_law_374 (by decide) ?_
  refine x_iadd C dL_law_375 ?_
  refine x_top (nI (i + 1)) (nI_add i 1) ?_
  refine x_sld C hX hb hA (i + 1) rfl (by omega) hN dL_law_376 ?_
  refine x_callC (As := [.int (xs (i + 1))]) (x' := (f_X6_run x (xs (i + 1))).2) C mw_555 mw_489 mw_490 mw_37 mw_286 hd_X6_run rfl rfl ⟨Nat.le_of_ble_eq_true rfl, Nat.le_of_ble_eq_true rfl⟩ rfl (c_X6_run l D cI cZ cO q x (xs (i + 1))) rfl rfl (Nat.le_of_ble_eq_true rfl) (Nat.le_of_ble_eq_true rfl) (Nat.le_of_ble_eq_true rfl) dL_law_377 ?_
  refine x_pop C dL_law_380 rfl ?_
  refine x_aload_n C dL_law_381 1 rfl ?_
  refine x_aload_n C dL_law_382 3 rfl ?_
  refine x_iload_n C dL_law_383 0 rfl ?_
  refine x_iconst C (nI 1) dL_law_384 (by decide) ?_
  refine x_iadd C dL_law_385 ?_
  refine x_top (nI (i + 1)) (nI_add i 1) ?_
  refine x_sld C hX hb hA (i + 1) rfl (by omega) hN dL_law_386 ?_
  refine x_callM (As := [.int (xs (i + 1))]) (u' := (f_X7_run u (xs (i + 1))).2) C mw_556 mw_491 mw_492 mw_337 mw_440 hd_X7_run rfl rfl ⟨Nat.le_of_ble_eq_true rfl, Nat.le_of_ble_eq_true rfl⟩ rfl (c_X7_run l D cI cZ cO g u (xs (i + 1)) (LB_lo hl (by omega))) rfl rfl (Nat.le_of_ble_eq_true rfl) (Nat.le_of_ble_eq_true rfl) (Nat.le_of_ble_eq_true rfl) dL_law_387 ?_
  refine x_pop C dL_law_390 rfl ?_
  refine x_goto C 634 dL_law_391 (by decide) ?_
  exact k _ _ ck.2.1 ck.2.2
set_option maxHeartbeats 4000000 in
set_option maxRecDepth 100000 in
theorem lw_case_8 {p : Program} {e : Env} {s : State} {m : MethodId} {below : List Frame} {meth : Method} {c : Code} {D : va_G} {A : Nat → Prop} {Ω τ : Type} {Qr : Ω → State → Prop} {K : τ → Ω} {t : τ} {nm : String} {cI cZ cO : ClassId} (l : Launch) {b N i n r : Nat} {xs : Nat → Int32} {q g : Nat → Nat} {x : Sy} {u : St} (C : XC RL cL_law 4 ret nm (T3 cI cZ cO) D A p s m #[Value.ref b] meth c) (hX : va_X b N xs s s.heap) (hb : b < s.heap.size) (hA : ¬ A b) (hN : N < 2 ^ 31) (hi : i + 3 < N) (h : RT (n + 1000) x u) (hn : n + 1000 < 2 ^ 31) (hl : LB (4000 + r) u) (k : ∀ (x' : Sy) (u' : St), RT n x' u' → LB r u' → XI p l e room_1 s m #[Value.ref b] below meth c D A 4 46 883 Qr K t 634 [(3, .int (nI i)), (2, .ref (g 0)), (1, .ref (q 0)), (0, .ref b)] [] (wLG cI cZ cO q x' ++ wX7 cI cZ cO g u')) : XI p l e room_1 s m #[Value.ref b] below meth c D A 4 46 883 Qr K t 394 [(3, .int (nI i)), (2, .ref (g 0)), (1, .ref (q 0)), (0, .ref b)] [] (wLG cI cZ cO q x ++ wX7 cI cZ cO g u) := by
  have ck := CK_settle (n := n) (r := r) h hn (LB_lo hl (by omega)) (xs (i + 1))
  refine x_aload_n C dL_law_394 2 rfl ?_
  refine x_aload_n C dL_law_395 3 rfl ?_
  refine x_iload_n C dL_law_396 0 rfl ?_
  refine x_iconst C (nI 1) dL_law_397 (by decide) ?_
  refine x_iadd C dL_law_398 ?_
  refine x_top (nI (i + 1)) (nI_add i 1) ?_
  refine x_sld C hX hb hA (i + 1) rfl (by omega) hN dL_law_399 ?_
  refine x_callC (As := [.int (xs (i + 1))]) (x' := (f_X6_settle x (xs (i + 1))).2) C mw_557 mw_493 mw_494 mw_37 mw_294 hd_X6_settle rfl rfl ⟨Nat.le_of_ble_eq_true rfl, Nat.le_of_ble_eq_true rfl⟩ rfl (c_X6_settle l D cI cZ cO q x (xs (i + 1))) rfl rfl (Nat.le_of_ble_eq_true rfl) (Nat.le_of_ble_eq_true rfl) (Nat.le_of_ble_eq_true rfl) dL_law_400 ?_
  refine x_pop C dL_law_403 rfl ?_
  refine x_aload_n C dL_law_404 1 rfl ?_
  refine x_aload_n C dL_law_405 3 rfl ?_
  refine x_iload_n C dL_law_406 0 rfl ?_
  refine x_iconst C (nI 1) dL_law_407 (by decide) ?_
  refine x_iadd C dL_law_408 ?_
  refine x_top (nI (i + 1)) (nI_add i 1) ?_
  refine x_sld C hX hb hA (i + 1) rfl (by omega) hN dL_law_409 ?_
  refine x_callM (As := [.int (xs (i + 1))]) (u' := (f_X7_settle u (xs (i + 1))).2) C mw_558 mw_495 mw_496 mw_337 mw_445 hd_X7_settle rfl rfl ⟨Nat.le_of_ble_eq_true rfl, Nat.le_of_ble_eq_true rfl⟩ rfl (c_X7_settle l D cI cZ cO g u (xs (i + 1)) (LB_lo hl (by omega))) rfl rfl (Nat.le_of_ble_eq_true rfl) (Nat.le_of_ble_eq_true rfl) (Nat.le_of_ble_eq_true rfl) dL_law_410 ?_
  refine x_pop C dL_law_413 rfl ?_
  refine x_goto C 634 dL_law_414 (by decide) ?_
  exact k _ _ ck.2.1 ck.2.2
set_option maxHeartbeats 4000000 in
set_option maxRecDepth 100000 in
theorem lw_case_9 {p : Program} {e : Env} {s : State} {m : MethodId} {below : List Frame} {meth : Method} {c : Code} {D : va_G} {A : Nat → Prop} {Ω τ : Type} {Qr : Ω → State → Prop} {K : τ → Ω} {t : τ} {nm : String} {cI cZ cO : ClassId} (l : Launch) {b N i n r : Nat} {xs : Nat → Int32} {q g : Nat → Nat} {x : Sy} {u : St} (C : XC RL cL_law 4 ret nm (T3 cI cZ cO) D A p s m #[Value.ref b] meth c) (hX : va_X b N xs s s.heap) (hb : b < s.heap.size) (hA : ¬ A b) (hN : N < 2 ^ 31) (hi : i + 3 < N) (h : RT (n + 1000) x u) (hn : n + 1000 < 2 ^ 31) (hl : LB (4000 + r) u) (k : ∀ (x' : Sy) (u' : St), RT n x' u' → LB r u' → XI p l e room_1 s m #[Value.ref b] below meth c D A 4 46 883 Qr K t 634 [(3, .int (nI i)), (2, .ref (g 0)), (1, .ref (q 0)), (0, .ref b)] [] (wLG cI cZ cO q x' ++ wX7 cI cZ cO g u')) : XI p l e room_1 s m #[Value.ref b] below meth c D A 4 46 883 Qr K t 417 [(3, .int (nI i)), (2, .ref (g 0)), (1, .ref (q 0)), (0, .ref b)] [] (wLG cI cZ cO q x ++ wX7 cI cZ cO g u) := by
  have ck := CK_plant (n := n) (r := r) (RT_lo h (by omega)) (LB_lo hl (by omega)) (xs (i + 1))
  refine x_aload_n C dL_law_417 2 rfl ?_
  refine x_aload_n C dL_law_418 3 rfl ?_
  refine x_iload_n C dL_law_419 0 rfl ?_
  refine x_iconst C (nI 1) dL_law_420 (by decide) ?_
  refine x_iadd C dL_law_421 ?_
  refine x_top (nI (i + 1)) (nI_add i 1) ?_
  refine x_sld C hX hb hA (i + 1) rfl (by omega) hN dL_law_422 ?_
  refine x_callC (As := [.int (xs (i + 1))]) (x' := x) C mw_559 mw_497 mw_498 mw_37 mw_301 hd_X6_plant rfl rfl ⟨Nat.le_of_ble_eq_true rfl, Nat.le_of_ble_eq_true rfl⟩ rfl (c_X6_plant l D cI cZ cO q x (xs (i + 1))) rfl rfl (Nat.le_of_ble_eq_true rfl) (Nat.le_of_ble_eq_true rfl) (Nat.le_of_ble_eq_true rfl) dL_law_423 ?_
  refine x_pop C dL_law_426 rfl ?_
  refine x_aload_n C dL_law_427 1 rfl ?_
  refine x_aload_n C dL_law_428 3 rfl ?_
  refine x_iload_n C dL_law_429 0 rfl ?_
  refine x_iconst C (nI 1) dL_law_430 (by decide) ?_
  refine x_iadd C dL_law_431 ?_
  refine x_top (nI (i + 1)) (nI_add i 1) ?_
  refine x_sld C hX hb hA (i + 1) rfl (by omega) hN dL_law_432 ?_
  refine x_callM (As := [.int (xs (i + 1))]) (u' := (f_X7_plant u (xs (i + 1))).2) C mw_560 mw_499 mw_500 mw_337 mw_446 hd_X7_plant rfl rfl ⟨Nat.le_of_ble_eq_true rfl, Nat.le_of_ble_eq_true rfl⟩ rfl (c_X7_plant l D cI cZ cO g u (xs (i + 1))) rfl rfl (Nat.le_of_ble_eq_true rfl) (Nat.le_of_ble_eq_true rfl) (Nat.le_of_ble_eq_true rfl) dL_law_433 ?_
  refine x_pop C dL_law_436 rfl ?_
  refine x_goto C 634 dL_law_437 (by decide) ?_
  exact k _ _ ck.2.1 ck.2.2
set_option maxHeartbeats 4000000 in
set_option maxRecDepth 100000 in
theorem lw_case_10 {p : Program} {e : Env} {s : State} {m : MethodId} {below : List Frame} {meth : Method} {c : Code} {D : va_G} {A : Nat → Prop} {Ω τ : Type} {Qr : Ω → State → Prop} {K : τ → Ω} {t : τ} {nm : String} {cI cZ cO : ClassId} (l : Launch) {b N i n r : Nat} {xs : Nat → Int32} {q g : Nat → Nat} {x : Sy} {u : St} (C : XC RL cL_law 4 ret nm (T3 cI cZ cO) D A p s m #[Value.ref b] meth c) (hX : va_X b N xs s s.heap) (hb : b < s.heap.size) (hA : ¬ A b) (hN : N < 2 ^ 31) (hi : i + 3 < N) (h : RT (n + 1000) x u) (hn : n + 1000 < 2 ^ 31) (hl : LB (4000 + r) u) (k : ∀ (x' : Sy) (u' : St), RT n x' u' → LB r u' → XI p l e room_1 s m #[Value.ref b] below meth c D A 4 46 883 Qr K t 634 [(3, .int (nI i)), (2, .ref (g 0)), (1, .ref (q 0)), (0, .ref b)] [] (wLG cI cZ cO q x' ++ wX7 cI cZ cO g u')) : XI p l e room_1 s m #[Value.ref b] below meth c D A 4 46 883 Qr K t 440 [(3, .int (nI i)), (2, .ref (g 0)), (1, .ref (q 0)), (0, .ref b)] [] (wLG cI cZ cO q x ++ wX7 cI cZ cO g u) := by
  have ck := CS_about (n := n) (r := r) (RT_lo h (by omega)) (LB_lo hl (by omega)) (xs (i + 1)) (xs (i + 2))
  refine x_aload_n C dL_law_440 2 rfl ?_
  refine x_aload_n C dL_law_441 3 rfl ?_
  refine x_iload_n C dL_law_442 0 rfl ?_
  refine x_iconst C (nI 1) dL_law_443 (by decide) ?_
  refine x_iadd C dL_law_444 ?_
  refine x_top (nI (i + 1)) (nI_add i 1) ?_
  refine x_sld C hX hb hA (i + 1) rfl (by omega) hN dL_law_445 ?_
  refine x_aload_n C dL_law_446 3 rfl ?_
  refine x_iload_n C dL_law_447 0 rfl ?_
  refine x_iconst C (nI 2) dL_law_448 (by decide) ?_
  refine x_iadd C dL_law_449 ?_
  refine x_top (nI (i + 2)) (nI_add i 2) ?_
  refine x_sld C hX hb hA (i + 2) rfl (by omega) hN dL_law_450 ?_
  refine x_callC (As := [.int (xs (i + 1)), .int (xs (i + 2))]) (x' := x) C mw_561 mw_501 mw_502 mw_37 mw_302 hd_X6_about rfl rfl ⟨Nat.le_of_ble_eq_true rfl, Nat.le_of_ble_eq_true rfl⟩ rfl (c_X6_about l D cI cZ cO q x (xs (i + 1)) (xs (i + 2))) rfl rfl (Nat.le_of_ble_eq_true rfl) (Nat.le_of_ble_eq_true rfl) (Nat.le_of_ble_eq_true rfl) dL_law_451 ?_
  refine x_pop C dL_law_454 rfl ?_
  refine x_aload_n C dL_law_455 1 rfl ?_
  refine x_aload_n C dL_law_456 3 rfl ?_
  refine x_iload_n C dL_law_457 0 rfl ?_
  refine x_iconst C (nI 1) dL_law_458 (by decide) ?_
  refine x_iadd C dL_law_459 ?_
  refine x_top (nI (i + 1)) (nI_add i 1) ?_
  refine x_sld C hX hb hA (i + 1) rfl (by omega) hN dL_law_460 ?_
  refine x_aload_n C dL_law_461 3 rfl ?_
  refine x_iload_n C dL_law_462 0 rfl ?_
  refine x_iconst C (nI 2) dL_law_463 (by decide) ?_
  refine x_iadd C dL_law_464 ?_
  refine x_top (nI (i + 2)) (nI_add i 2) ?_
  refine x_sld C hX hb hA (i + 2) rfl (by omega) hN dL_law_465 ?_
  refine x_callM (As := [.int (xs (i + 1)), .int (xs (i + 2))]) (u' := (f_X7_about u (xs (i + 1)) (xs (i + 2))).2) C mw_562 mw_503 mw_504 mw_337 mw_447 hd_X7_about rfl rfl ⟨Nat.le_of_ble_eq_true rfl, Nat.le_of_ble_eq_true rfl⟩ rfl (c_X7_about l D cI cZ cO g u (xs (i + 1)) (xs (i + 2))) rfl rfl (Nat.le_of_ble_eq_true rfl) (Nat.le_of_ble_eq_true rfl) (Nat.le_of_ble_eq_true rfl) dL_law_466 ?_
  refine x_pop C dL_law_469 rfl ?_
  refine x_goto C 634 dL_law_470 (by decide) ?_
  exact k _ _ ck.1 ck.2
set_option maxHeartbeats 4000000 in
set_option maxRecDepth 100000 in
theorem lw_case_11 {p : Program} {e : Env} {s : State} {m : MethodId} {below : List Frame} {meth : Method} {c : Code} {D : va_G} {A : Nat → Prop} {Ω τ : Type} {Qr : Ω → State → Prop} {K : τ → Ω} {t : τ} {nm : String} {cI cZ cO : ClassId} (l : Launch) {b N i n r : Nat} {xs : Nat → Int32} {q g : Nat → Nat} {x : Sy} {u : St} (C : XC RL cL_law 4 ret nm (T3 cI cZ cO) D A p s m #[Value.ref b] meth c) (hX : va_X b N xs s s.heap) (hb : b < s.heap.size) (hA : ¬ A b) (hN : N < 2 ^ 31) (hi : i + 3 < N) (h : RT (n + 1000) x u) (hn : n + 1000 < 2 ^ 31) (hl : LB (4000 + r) u) (k : ∀ (x' : Sy) (u' : St), RT n x' u' → LB r u' → XI p l e room_1 s m #[Value.ref b] below meth c D A 4 46 883 Qr K t 634 [(3, .int (nI i)), (2, .ref (g 0)), (1, .ref (q 0)), (0, .ref b)] [] (wLG cI cZ cO q x' ++ wX7 cI cZ cO g u')) : XI p l e room_1 s m #[Value.ref b] below meth c D A 4 46 883 Qr K t 473 [(3, .int (nI i)), (2, .ref (g 0)), (1, .ref (q 0)), (0, .ref b)] [] (wLG cI cZ cO q x ++ wX7 cI cZ cO g u) := by
  have ck := CK_sees (n := n) (r := r) (RT_lo h (by omega)) (LB_lo hl (by omega)) (xs (i + 1)) (xs (i + 2)) (xs (i + 3))
  refine x_aload_n C dL_law_473 2 rfl ?_
  refine x_aload_n C dL_law_474 3 rfl ?_
  refine x_iload_n C dL_law_475 0 rfl ?_
  refine x_iconst C (nI 1) dL_law_476 (by decide) ?_
  refine x_iadd C dL_law_477 ?_
  refine x_top (nI (i + 1)) (nI_add i 1) ?_
  refine x_sld C hX hb hA (i + 1) rfl (by omega) hN dL_law_478 ?_
  refine x_aload_n C dL_law_479 3 rfl ?_
  refine x_iload_n C dL_law_480 0 rfl ?_
  refine x_iconst C (nI 2) dL_law_481 (by decide) ?_
  refine x_iadd C dL_law_482 ?_
  refine x_top (nI (i + 2)) (nI_add i 2) ?_
  refine x_sld C hX hb hA (i + 2) rfl (by omega) hN dL_law_483 ?_
  refine x_aload_n C dL_law_484 3 rfl ?_
  refine x_iload_n C dL_law_485 0 rfl ?_
  refine x_iconst C (nI 3) dL_law_486 (by decide) ?_
  refine x_iadd C dL_law_487 ?_
  refine x_top (nI (i + 3)) (nI_add i 3) ?_
  refine x_sld C hX hb hA (i + 3) rfl (by omega) hN dL_law_488 ?_
  refine x_callC (As := [.int (xs (i + 1)), .int (xs (i + 2)), .int (xs (i + 3))]) (x' := x) C mw_563 mw_505 mw_506 mw_37 mw_306 hd_X6_sees rfl rfl ⟨Nat.le_of_ble_eq_true rfl, Nat.le_of_ble_eq_true rfl⟩ rfl (c_X6_sees l D cI cZ cO q x (xs (i + 1)) (xs (i + 2)) (xs (i + 3))) rfl rfl (Nat.le_of_ble_eq_true rfl) (Nat.le_of_ble_eq_true rfl) (Nat.le_of_ble_eq_true rfl) dL_law_489 ?_
  refine x_pop C dL_law_492 rfl ?_
  refine x_aload_n C dL_law_493 1 rfl ?_
  refine x_aload_n C dL_law_494 3 rfl ?_
  refine x_iload_n C dL_law_495 0 rfl ?_
  refine x_iconst C (nI 1) dL_law_496 (by decide) ?_
  refine x_iadd C dL_law_497 ?_
  refine x_top (nI (i + 1)) (nI_add i 1) ?_
  refine x_sld C hX hb hA (i + 1) rfl (by omega) hN dL_law_498 ?_
  refine x_aload_n C dL_law_499 3 rfl ?_
  refine x_iload_n C dL_law_500 0 rfl ?_
  refine x_iconst C (nI 2) dL_law_501 (by decide) ?_
  refine x_iadd C dL_law_502 ?_
  refine x_top (nI (i + 2)) (nI_add i 2) ?_
  refine x_sld C hX hb hA (i + 2) rfl (by omega) hN dL_law_503 ?_
  refine x_aload_n C dL_law_504 3 rfl ?_
  refine x_iload_n C dL_law_505 0 rfl ?_
  refine x_iconst C (nI 3) dL_law_506 (by decide) ?_
  refine x_iadd C dL_law_507 ?_
  refine x_top (nI (i + 3)) (nI_add i 3) ?_
  refine x_sld C hX hb hA (i + 3) rfl (by omega) hN dL_law_508 ?_
  refine x_callM (As := [.int (xs (i + 1)), .int (xs (i + 2)), .int (xs (i + 3))]) (u' := (f_X7_sees u (xs (i + 1)) (xs (i + 2)) (xs (i + 3))).2) C mw_564 mw_507 mw_508 mw_337 mw_448 hd_X7_sees rfl rfl ⟨Nat.le_of_ble_eq_true rfl, Nat.le_of_ble_eq_true rfl⟩ rfl (c_X7_sees l D cI cZ cO g u (xs (i + 1)) (xs (i + 2)) (xs (i + 3))) rfl rfl (Nat.le_of_ble_eq_true rfl) (Nat.le_of_ble_eq_true rfl) (Nat.le_of_ble_eq_true rfl) dL_law_509 ?_
  refine x_pop C dL_law_512 rfl ?_
  refine x_goto C 634 dL_law_513 (by decide) ?_
  exact k _ _ ck.2.1 ck.2.2
set_option maxHeartbeats 4000000 in
set_option maxRecDepth 100000 in
theorem lw_case_12 {p : Program} {e : Env} {s : State} {m : MethodId} {below : List Frame} {meth : Method} {c : Code} {D : va_G} {A : Nat → Prop} {Ω τ : Type} {Qr : Ω → State → Prop} {K : τ → Ω} {t : τ} {nm : String} {cI cZ cO : ClassId} (l : Launch) {b N i n r : Nat} {xs : Nat → Int32} {q g : Nat → Nat} {x : Sy} {u : St} (C : XC RL cL_law 4 ret nm (T3 cI cZ cO) D A p s m #[Value.ref b] meth c) (hX : va_X b N xs s s.heap) (hb : b < s.heap.size) (hA : ¬ A b) (hN : N < 2 ^ 31) (hi : i + 3 < N) (h : RT (n + 1000) x u) (hn : n + 1000 < 2 ^ 31) (hl : LB (4000 + r) u) (k : ∀ (x' : Sy) (u' : St), RT n x' u' → LB r u' → XI p l e room_1 s m #[Value.ref b] below meth c D A 4 46 883 Qr K t 634 [(3, .int (nI i)), (2, .ref (g 0)), (1, .ref (q 0)), (0, .ref b)] [] (wLG cI cZ cO q x' ++ wX7 cI cZ cO g u')) : XI p l e room_1 s m #[Value.ref b] below meth c D A 4 46 883 Qr K t 516 [(3, .int (nI i)), (2, .ref (g 0)), (1, .ref (q 0)), (0, .ref b)] [] (wLG cI cZ cO q x ++ wX7 cI cZ cO g u) := by
  have ck := CK_tells (n := n) (r := r) (RT_lo h (by omega)) (LB_lo hl (by omega)) (xs (i + 1)) (xs (i + 2))
  refine x_aload_n C dL_law_516 2 rfl ?_
  refine x_aload_n C dL_law_517 3 rfl ?_
  refine x_iload_n C dL_law_518 0 rfl ?_
  refine x_iconst C (nI 1) dL_law_519 (by decide) ?_
  refine x_iadd C dL_law_520 ?_
  refine x_top (nI (i + 1)) (nI_add i 1) ?_
  refine x_sld C hX hb hA (i + 1) rfl (by omega) hN dL_law_521 ?_
  refine x_aload_n C dL_law_522 3 rfl ?_
  refine x_iload_n C dL_law_523 0 rfl ?_
  refine x_iconst C (nI 2) dL_law_524 (by decide) ?_
  refine x_iadd C dL_law_525 ?_
  refine x_top (nI (i + 2)) (nI_add i 2) ?_
  refine x_sld C hX hb hA (i + 2) rfl (by omega) hN dL_law_526 ?_
  refine x_callC (As := [.int (xs (i + 1)), .int (xs (i + 2))]) (x' := x) C mw_565 mw_509 mw_510 mw_37 mw_310 hd_X6_tells rfl rfl ⟨Nat.le_of_ble_eq_true rfl, Nat.le_of_ble_eq_true rfl⟩ rfl (c_X6_tells l D cI cZ cO q x (xs (i + 1)) (xs (i + 2))) rfl rfl (Nat.le_of_ble_eq_true rfl) (Nat.le_of_ble_eq_true rfl) (Nat.le_of_ble_eq_true rfl) dL_law_527 ?_
  refine x_pop C dL_law_530 rfl ?_
  refine x_aload_n C dL_law_531 1 rfl ?_
  refine x_aload_n C dL_law_532 3 rfl ?_
  refine x_iload_n C dL_law_533 0 rfl ?_
  refine x_iconst C (nI 1) dL_law_534 (by decide) ?_
  refine x_iadd C dL_law_535 ?_
  refine x_top (nI (i + 1)) (nI_add i 1) ?_
  refine x_sld C hX hb hA (i + 1) rfl (by omega) hN dL_law_536 ?_
  refine x_aload_n C dL_law_537 3 rfl ?_
  refine x_iload_n C dL_law_538 0 rfl ?_
  refine x_iconst C (nI 2) dL_law_539 (by decide) ?_
  refine x_iadd C dL_law_540 ?_
  refine x_top (nI (i + 2)) (nI_add i 2) ?_
  refine x_sld C hX hb hA (i + 2) rfl (by omega) hN dL_law_541 ?_
  refine x_callM (As := [.int (xs (i + 1)), .int (xs (i + 2))]) (u' := (f_X7_tells u (xs (i + 1)) (xs (i + 2))).2) C mw_566 mw_511 mw_512 mw_337 mw_449 hd_X7_tells rfl rfl ⟨Nat.le_of_ble_eq_true rfl, Nat.le_of_ble_eq_true rfl⟩ rfl (c_X7_tells l D cI cZ cO g u (xs (i + 1)) (xs (i + 2))) rfl rfl (Nat.le_of_ble_eq_true rfl) (Nat.le_of_ble_eq_true rfl) (Nat.le_of_ble_eq_true rfl) dL_law_542 ?_
  refine x_pop C dL_law_545 rfl ?_
  refine x_goto C 634 dL_law_546 (by decide) ?_
  exact k _ _ ck.2.1 ck.2.2
set_option maxHeartbeats 4000000 in
set_option maxRecDepth 100000 in
theorem lw_case_13 {p : Program} {e : Env} {s : State} {m : MethodId} {below : List Frame} {meth : Method} {c : Code} {D : va_G} {A : Nat → Prop} {Ω τ : Type} {Qr : Ω → State → Prop} {K : τ → Ω} {t : τ} {nm : String} {cI cZ cO : ClassId} (l : Launch) {b N i n r : Nat} {xs : Nat → Int32} {q g : Nat → Nat} {x : Sy} {u : St} (C : XC RL cL_law 4 ret nm (T3 cI cZ cO) D A p s m #[Value.ref b] meth c) (hX : va_X b N xs s s.heap) (hb : b < s.heap.size) (hA : ¬ A b) (hN : N < 2 ^ 31) (hi : i + 3 < N) (h : RT (n + 1000) x u) (hn : n + 1000 < 2 ^ 31) (hl : LB (4000 + r) u) (k : ∀ (x' : Sy) (u' : St), RT n x' u' → LB r u' → XI p l e room_1 s m #[Value.ref b] below meth c D A 4 46 883 Qr K t 634 [(3, .int (nI i)), (2, .ref (g 0)), (1, .ref (q 0)), (0, .ref b)] [] (wLG cI cZ cO q x' ++ wX7 cI cZ cO g u')) : XI p l e room_1 s m #[Value.ref b] below meth c D A 4 46 883 Qr K t 549 [(3, .int (nI i)), (2, .ref (g 0)), (1, .ref (q 0)), (0, .ref b)] [] (wLG cI cZ cO q x ++ wX7 cI cZ cO g u) := by
  have ck := CK_lights (n := n) (r := r) (RT_lo h (by omega)) (LB_lo hl (by omega))
  refine x_aload_n C dL_law_549 2 rfl ?_
  refine x_callC (As := []) (x' := x) C mw_567 mw_513 mw_514 mw_37 mw_312 hd_X6_lights rfl rfl ⟨Nat.le_of_ble_eq_true rfl, Nat.le_of_ble_eq_true rfl⟩ rfl (c_X6_lights l D cI cZ cO q x) rfl rfl (Nat.le_of_ble_eq_true rfl) (Nat.le_of_ble_eq_true rfl) (Nat.le_of_ble_eq_true rfl) dL_law_550 ?_
  refine x_pop C dL_law_553 rfl ?_
  refine x_aload_n C dL_law_554 1 rfl ?_
  refine x_callM (As := []) (u' := (f_X7_lights u).2) C mw_568 mw_515 mw_516 mw_337 mw_450 hd_X7_lights rfl rfl ⟨Nat.le_of_ble_eq_true rfl, Nat.le_of_ble_eq_true rfl⟩ rfl (c_X7_lights l D cI cZ cO g u) rfl rfl (Nat.le_of_ble_eq_true rfl) (Nat.le_of_ble_eq_true rfl) (Nat.le_of_ble_eq_true rfl) dL_law_555 ?_
  refine x_pop C dL_law_558 rfl ?_
  refine x_goto C 634 dL_law_559 (by decide) ?_
  exact k _ _ ck.2.1 ck.2.2
set_option maxHeartbeats 4000000 in
set_option maxRecDepth 100000 in
theorem lw_case_14 {p : Program} {e : Env} {s : State} {m : MethodId} {below : List Frame} {meth : Method} {c : Code} {D : va_G} {A : Nat → Prop} {Ω τ : Type} {Qr : Ω → State → Prop} {K : τ → Ω} {t : τ} {nm : String} {cI cZ cO : ClassId} (l : Launch) {b N i n r : Nat} {xs : Nat → Int32} {q g : Nat → Nat} {x : Sy} {u : St} (C : XC RL cL_law 4 ret nm (T3 cI cZ cO) D A p s m #[Value.ref b] meth c) (hX : va_X b N xs s s.heap) (hb : b < s.heap.size) (hA : ¬ A b) (hN : N < 2 ^ 31) (hi : i + 3 < N) (h : RT (n + 1000) x u) (hn : n + 1000 < 2 ^ 31) (hl : LB (4000 + r) u) (k : ∀ (x' : Sy) (u' : St), RT n x' u' → LB r u' → XI p l e room_1 s m #[Value.ref b] below meth c D A 4 46 883 Qr K t 634 [(3, .int (nI i)), (2, .ref (g 0)), (1, .ref (q 0)), (0, .ref b)] [] (wLG cI cZ cO q x' ++ wX7 cI cZ cO g u')) : XI p l e room_1 s m #[Value.ref b] below meth c D A 4 46 883 Qr K t 562 [(3, .int (nI i)), (2, .ref (g 0)), (1, .ref (q 0)), (0, .ref b)] [] (wLG cI cZ cO q x ++ wX7 cI cZ cO g u) := by
  have ck := CK_log (n := n) (r := r) (RT_lo h (by omega)) (LB_lo hl (by omega)) (xs (i + 1)) (xs (i + 2))
  refine x_aload_n C dL_law_562 2 rfl ?_
  refine x_aload_n C dL_law_563 3 rfl ?_
  refine x_iload_n C dL_law_564 0 rfl ?_
  refine x_iconst C (nI 1) dL_law_565 (by decide) ?_
  refine x_iadd C dL_law_566 ?_
  refine x_top (nI (i + 1)) (nI_add i 1) ?_
  refine x_sld C hX hb hA (i + 1) rfl (by omega) hN dL_law_567 ?_
  refine x_aload_n C dL_law_568 3 rfl ?_
  refine x_iload_n C dL_law_569 0 rfl ?_
  refine x_iconst C (nI 2) dL_law_570 (by decide) ?_
  refine x_iadd C dL_law_571 ?_
  refine x_top (nI (i + 2)) (nI_add i 2) ?_
  refine x_sld C hX hb hA (i + 2) rfl (by omega) hN dL_law_572 ?_
  refine x_callC (As := [.int (xs (i + 1)), .int (xs (i + 2))]) (x' := x) C mw_569 mw_517 mw_518 mw_37 mw_313 hd_X6_log rfl rfl ⟨Nat.le_of_ble_eq_true rfl, Nat.le_of_ble_eq_true rfl⟩ rfl (c_X6_log l D cI cZ cO q x (xs (i + 1)) (xs (i + 2))) rfl rfl (Nat.le_of_ble_eq_true rfl) (Nat.le_of_ble_eq_true rfl) (Nat.le_of_ble_eq_true rfl) dL_law_573 ?_
  refine x_pop C dL_law_576 rfl ?_
  refine x_aload_n C dL_law_577 1 rfl ?_
  refine x_aload_n C dL_law_578 3 rfl ?_
  refine x_iload_n C dL_law_579 0 rfl ?_
  refine x_iconst C (nI 1) dL_law_580 (by decide) ?_
  refine x_iadd C dL_law_581 ?_
  refine x_top (nI (i + 1)) (nI_add i 1) ?_
  refine x_sld C hX hb hA (i + 1) rfl (by omega) hN dL_law_582 ?_
  refine x_aload_n C dL_law_583 3 rfl ?_
  refine x_iload_n C dL_law_584 0 rfl ?_
  refine x_iconst C (nI 2) dL_law_585 (by decide) ?_
  refine x_iadd C dL_law_586 ?_
  refine x_top (nI (i + 2)) (nI_add i 2) ?_
  refine x_sld C hX hb hA (i + 2) rfl (by omega) hN dL_law_587 ?_
  refine x_callM (As := [.int (xs (i + 1)), .int (xs (i + 2))]) (u' := (f_X7_log u (xs (i + 1)) (xs (i + 2))).2) C mw_570 mw_519 mw_520 mw_337 mw_451 hd_X7_log rfl rfl ⟨Nat.le_of_ble_eq_true rfl, Nat.le_of_ble_eq_true rfl⟩ rfl (c_X7_log l D cI cZ cO g u (xs (i + 1)) (xs (i + 2))) rfl rfl (Nat.le_of_ble_eq_true rfl) (Nat.le_of_ble_eq_true rfl) (Nat.le_of_ble_eq_true rfl) dL_law_588 ?_
  refine x_pop C dL_law_591 rfl ?_
  refine x_goto C 634 dL_law_592 (by decide) ?_
  exact k _ _ ck.2.1 ck.2.2
set_option maxHeartbeats 4000000 in
set_option maxRecDepth 100000 in
theorem lw_case_15 {p : Program} {e : Env} {s : State} {m : MethodId} {below : List Frame} {meth : Method} {c : Code} {D : va_G} {A : Nat → Prop} {Ω τ : Type} {Qr : Ω → State → Prop} {K : τ → Ω} {t : τ} {nm : String} {cI cZ cO : ClassId} (l : Launch) {b N i n r : Nat} {xs : Nat → Int32} {q g : Nat → Nat} {x : Sy} {u : St} (C : XC RL cL_law 4 ret nm (T3 cI cZ cO) D A p s m #[Value.ref b] meth c) (hX : va_X b N xs s s.heap) (hb : b < s.heap.size) (hA : ¬ A b) (hN : N < 2 ^ 31) (hi : i + 3 < N) (h : RT (n + 1000) x u) (hn : n + 1000 < 2 ^ 31) (hl : LB (4000 + r) u) (k : ∀ (x' : Sy) (u' : St), RT n x' u' → LB r u' → XI p l e room_1 s m #[Value.ref b] below meth c D A 4 46 883 Qr K t 634 [(3, .int (nI i)), (2, .ref (g 0)), (1, .ref (q 0)), (0, .ref b)] [] (wLG cI cZ cO q x' ++ wX7 cI cZ cO g u')) : XI p l e room_1 s m #[Value.ref b] below meth c D A 4 46 883 Qr K t 595 [(3, .int (nI i)), (2, .ref (g 0)), (1, .ref (q 0)), (0, .ref b)] [] (wLG cI cZ cO q x ++ wX7 cI cZ cO g u) := by
  have ck := CK_logged (n := n) (r := r) (RT_lo h (by omega)) (LB_lo hl (by omega))
  refine x_aload_n C dL_law_595 2 rfl ?_
  refine x_callC (As := []) (x' := x) C mw_571 mw_521 mw_522 mw_37 mw_317 hd_X6_logged rfl rfl ⟨Nat.le_of_ble_eq_true rfl, Nat.le_of_ble_eq_true rfl⟩ rfl (c_X6_logged l D cI cZ cO q x) rfl rfl (Nat.le_of_ble_eq_true rfl) (Nat.le_of_ble_eq_true rfl) (Nat.le_of_ble_eq_true rfl) dL_law_596 ?_
  refine x_pop C dL_law_599 rfl ?_
  refine x_aload_n C dL_law_600 1 rfl ?_
  refine x_callM (As := []) (u' := (f_X7_logged u).2) C mw_572 mw_523 mw_524 mw_337 mw_452 hd_X7_logged rfl rfl ⟨Nat.le_of_ble_eq_true rfl, Nat.le_of_ble_eq_true rfl⟩ rfl (c_X7_logged l D cI cZ cO g u) rfl rfl (Nat.le_of_ble_eq_true rfl) (Nat.le_of_ble_eq_true rfl) (Nat.le_of_ble_eq_true rfl) dL_law_601 ?_
  refine x_pop C dL_law_604 rfl ?_
  refine x_goto C 634 dL_law_605 (by decide) ?_
  exact k _ _ ck.2.1 ck.2.2
set_option maxHeartbeats 4000000 in
set_option maxRecDepth 100000 in
theorem lw_case_16 {p : Program} {e : Env} {s : State} {m : MethodId} {below : List Frame} {meth : Method} {c : Code} {D : va_G} {A : Nat → Prop} {Ω τ : Type} {Qr : Ω → State → Prop} {K : τ → Ω} {t : τ} {nm : String} {cI cZ cO : ClassId} (l : Launch) {b N i n r : Nat} {xs : Nat → Int32} {q g : Nat → Nat} {x : Sy} {u : St} (C : XC RL cL_law 4 ret nm (T3 cI cZ cO) D A p s m #[Value.ref b] meth c) (hX : va_X b N xs s s.heap) (hb : b < s.heap.size) (hA : ¬ A b) (hN : N < 2 ^ 31) (hi : i + 3 < N) (h : RT (n + 1000) x u) (hn : n + 1000 < 2 ^ 31) (hl : LB (4000 + r) u) (k : ∀ (x' : Sy) (u' : St), RT n x' u' → LB r u' → XI p l e room_1 s m #[Value.ref b] below meth c D A 4 46 883 Qr K t 634 [(3, .int (nI i)), (2, .ref (g 0)), (1, .ref (q 0)), (0, .ref b)] [] (wLG cI cZ cO q x' ++ wX7 cI cZ cO g u')) : XI p l e room_1 s m #[Value.ref b] below meth c D A 4 46 883 Qr K t 608 [(3, .int (nI i)), (2, .ref (g 0)), (1, .ref (q 0)), (0, .ref b)] [] (wLG cI cZ cO q x ++ wX7 cI cZ cO g u) := by
  have ck := CK_bound (n := n) (r := r) (RT_lo h (by omega)) (LB_lo hl (by omega))
  refine x_aload_n C dL_law_608 2 rfl ?_
  refine x_callC (As := []) (x' := x) C mw_573 mw_525 mw_526 mw_37 mw_319 hd_X6_bound rfl rfl ⟨Nat.le_of_ble_eq_true rfl, Nat.le_of_ble_eq_true rfl⟩ rfl (c_X6_bound l D cI cZ cO q x) rfl rfl (Nat.le_of_ble_eq_true rfl) (Nat.le_of_ble_eq_true rfl) (Nat.le_of_ble_eq_true rfl) dL_law_609 ?_
  refine x_pop C dL_law_612 rfl ?_
  refine x_aload_n C dL_law_613 1 rfl ?_
  refine x_callM (As := []) (u' := (f_X7_bound u).2) C mw_574 mw_527 mw_528 mw_337 mw_453 hd_X7_bound rfl rfl ⟨Nat.le_of_ble_eq_true rfl, Nat.le_of_ble_eq_true rfl⟩ rfl (c_X7_bound l D cI cZ cO g u) rfl rfl (Nat.le_of_ble_eq_true rfl) (Nat.le_of_ble_eq_true rfl) (Nat.le_of_ble_eq_true rfl) dL_law_614 ?_
  refine x_pop C dL_law_617 rfl ?_
  refine x_goto C 634 dL_law_618 (by decide) ?_
  exact k _ _ ck.2.1 ck.2.2
set_option maxHeartbeats 4000000 in
set_option maxRecDepth 100000 in
theorem lw_case_17 {p : Program} {e : Env} {s : State} {m : MethodId} {below : List Frame} {meth : Method} {c : Code} {D : va_G} {A : Nat → Prop} {Ω τ : Type} {Qr : Ω → State → Prop} {K : τ → Ω} {t : τ} {nm : String} {cI cZ cO : ClassId} (l : Launch) {b N i n r : Nat} {xs : Nat → Int32} {q g : Nat → Nat} {x : Sy} {u : St} (C : XC RL cL_law 4 ret nm (T3 cI cZ cO) D A p s m #[Value.ref b] meth c) (hX : va_X b N xs s s.heap) (hb : b < s.heap.size) (hA : ¬ A b) (hN : N < 2 ^ 31) (hi : i + 3 < N) (h : RT (n + 1000) x u) (hn : n + 1000 < 2 ^ 31) (hl : LB (4000 + r) u) (k : ∀ (x' : Sy) (u' : St), RT n x' u' → LB r u' → XI p l e room_1 s m #[Value.ref b] below meth c D A 4 46 883 Qr K t 634 [(3, .int (nI i)), (2, .ref (g 0)), (1, .ref (q 0)), (0, .ref b)] [] (wLG cI cZ cO q x' ++ wX7 cI cZ cO g u')) : XI p l e room_1 s m #[Value.ref b] below meth c D A 4 46 883 Qr K t 621 [(3, .int (nI i)), (2, .ref (g 0)), (1, .ref (q 0)), (0, .ref b)] [] (wLG cI cZ cO q x ++ wX7 cI cZ cO g u) := by
  have ck := CK_safe (n := n) (r := r) (RT_lo h (by omega)) (LB_lo hl (by omega))
  refine x_aload_n C dL_law_621 2 rfl ?_
  refine x_callC (As := []) (x' := x) C mw_575 mw_529 mw_530 mw_37 mw_323 hd_X6_safe rfl rfl ⟨Nat.le_of_ble_eq_true rfl, Nat.le_of_ble_eq_true rfl⟩ rfl (c_X6_safe l D cI cZ cO q x) rfl rfl (Nat.le_of_ble_eq_true rfl) (Nat.le_of_ble_eq_true rfl) (Nat.le_of_ble_eq_true rfl) dL_law_622 ?_
  refine x_aload_n C dL_law_625 1 rfl ?_
  refine x_callM (As := []) (u' := (f_X7_safe u).2) C mw_576 mw_531 mw_532 mw_337 mw_454 hd_X7_safe rfl rfl ⟨Nat.le_of_ble_eq_true rfl, Nat.le_of_ble_eq_true rfl⟩ rfl (c_X7_safe l D cI cZ cO g u) rfl rfl (Nat.le_of_ble_eq_true rfl) (Nat.le_of_ble_eq_true rfl) (Nat.le_of_ble_eq_true rfl) dL_law_626 ?_
  refine x_icmp_eq_t C 634 dL_law_629 (by decide) (congrArg b2i ck.1) ?_
  exact k _ _ ck.2.1 ck.2.2
set_option maxHeartbeats 4000000 in
set_option maxRecDepth 100000 in
theorem lw_loop {p : Program} {e : Env} {s : State} {m : MethodId} {below : List Frame} {meth : Method} {c : Code} {D : va_G} {A : Nat → Prop} {Ω τ : Type} {Qr : Ω → State → Prop} {K : τ → Ω} {t : τ} {nm : String} {cI cZ cO : ClassId} (l : Launch) {b N : Nat} {xs : Nat → Int32} {q g : Nat → Nat} (C : XC RL cL_law 4 ret nm (T3 cI cZ cO) D A p s m #[Value.ref b] meth c) (hX : va_X b N xs s s.heap) (hb : b < s.heap.size) (hA : ¬ A b) (hN : N < 2 ^ 30) (fin : ∀ (L : List (Nat × Value)) (ws : va_W), XI p l e room_1 s m #[Value.ref b] below meth c D A 4 46 883 Qr K t 640 L [] ws) (k : Nat) : ∀ (i : Nat) (x : Sy) (u : St), k ≤ 100 → 4 ≤ i → N < i + 4 * k + 4 → i < 2 ^ 30 → RT (1000 * k) x u → LB (4000 * k) u → XI p l e room_1 s m #[Value.ref b] below meth c D A 4 46 883 Qr K t 58 [(3, .int (nI i)), (2, .ref (g 0)), (1, .ref (q 0)), (0, .ref b)] [] (wLG cI cZ cO q x ++ wX7 cI cZ cO g u) := by
  induction k with
  | zero =>
    intro i x u _ h4 hk hi h hl
    refine x_iload_n C dL_law_58 0 rfl ?_
    refine x_aload_n C dL_law_59 3 rfl ?_
    refine x_slen C hX hb hA dL_law_60 ?_
    refine x_iconst C (nI 4) dL_law_61 (by decide) ?_
    refine x_isub C dL_law_62 ?_
    exact x_icmp_gt_t C 640 dL_law_63 (by decide) ((lt_law hN hi).mpr (by omega)) (fin _ _)
  | succ k ih =>
    intro i x u hk100 h4 hk hi h hl
    refine x_iload_n C dL_law_58 0 rfl ?_
    refine x_aload_n C dL_law_59 3 rfl ?_
    refine x_slen C hX hb hA dL_law_60 ?_
    refine x_iconst C (nI 4) dL_law_61 (by decide) ?_
    refine x_isub C dL_law_62 ?_
    by_cases hlt : N < i + 4
    · exact x_icmp_gt_t C 640 dL_law_63 (by decide) ((lt_law hN hi).mpr hlt) (fin _ _)
    · refine x_icmp_gt_f C 640 dL_law_63 (by decide) (fun y => hlt ((lt_law hN hi).mp y)) ?_
      have next : ∀ (x' : Sy) (u' : St), RT (1000 * k) x' u' → LB (4000 * k) u' → XI p l e room_1 s m #[Value.ref b] below meth c D A 4 46 883 Qr K t 634 [(3, .int (nI i)), (2, .ref (g 0)), (1, .ref (q 0)), (0, .ref b)] [] (wLG cI cZ cO q x' ++ wX7 cI cZ cO g u') := fun x' u' h' hl' => by
        refine x_iinc (L' := [(3, .int (nI (i + 4))), (2, .ref (g 0)), (1, .ref (q 0)), (0, .ref b)]) C (nI (i + 4)) dL_law_634 0 rfl (i4_law i) (by decide) rfl ?_
        refine x_goto C 58 dL_law_637 (by decide) ?_
        exact ih (i + 4) x' u' (by omega) (by omega) (by omega) (by omega) h' hl'
      refine x_aload_n C dL_law_66 3 rfl ?_
      refine x_iload_n C dL_law_67 0 rfl ?_
      refine x_sld C hX hb hA i rfl (by omega) (by omega) dL_law_68 ?_
      refine x_bipush C 31 dL_law_69 (by decide) ?_
      refine x_iand C dL_law_71 ?_
      generalize xs i &&& 31 = y
      have h1 : RT (1000 * k + 1000) x u := RT_lo h (by omega)
      have hl1 : LB (4000 + 4000 * k) u := LB_lo hl (by omega)
      by_cases e0 : y.toInt = 0
      · refine x_tsI C 0 160 dL_law_72 e0 (by decide) (by decide) rfl (by decide) ?_
        exact lw_case_0 l C hX hb hA (by omega) (by omega) h1 (by omega) hl1 next
      by_cases e1 : y.toInt = 1
      · refine x_tsI C 1 183 dL_law_72 e1 (by decide) (by decide) rfl (by decide) ?_
        exact lw_case_1 l C hX hb hA (by omega) (by omega) h1 (by omega) hl1 next
      by_cases e2 : y.toInt = 2
      · refine x_tsI C 2 206 dL_law_72 e2 (by decide) (by decide) rfl (by decide) ?_
        exact lw_case_2 l C hX hb hA (by omega) (by omega) h1 (by omega) hl1 next
      by_cases e3 : y.toInt = 3
      · refine x_tsI C 3 249 dL_law_72 e3 (by decide) (by decide) rfl (by decide) ?_
        exact lw_case_3 l C hX hb hA (by omega) (by omega) h1 (by omega) hl1 next
      by_cases e4 : y.toInt = 4
      · refine x_tsI C 4 282 dL_law_72 e4 (by decide) (by decide) rfl (by decide) ?_
        exact lw_case_4 l C hX hb hA (by omega) (by omega) h1 (by omega) hl1 next
      by_cases e5 : y.toInt = 5
      · refine x_tsI C 5 315 dL_law_72 e5 (by decide) (by decide) rfl (by decide) ?_
        exact lw_case_5 l C hX hb hA (by omega) (by omega) h1 (by omega) hl1 next
      by_cases e6 : y.toInt = 6
      · refine x_tsI C 6 338 dL_law_72 e6 (by decide) (by decide) rfl (by decide) ?_
        exact lw_case_6 l C hX hb hA (by omega) (by omega) h1 (by omega) hl1 next
      by_cases e7 : y.toInt = 7
      · refine x_tsI C 7 371 dL_law_72 e7 (by decide) (by decide) rfl (by decide) ?_
        exact lw_case_7 l C hX hb hA (by omega) (by omega) h1 (by omega) hl1 next
      by_cases e8 : y.toInt = 8
      · refine x_tsI C 8 394 dL_law_72 e8 (by decide) (by decide) rfl (by decide) ?_
        exact lw_case_8 l C hX hb hA (by omega) (by omega) h1 (by omega) hl1 next
      by_cases e9 : y.toInt = 9
      · refine x_tsI C 9 417 dL_law_72 e9 (by decide) (by decide) rfl (by decide) ?_
        exact lw_case_9 l C hX hb hA (by omega) (by omega) h1 (by omega) hl1 next
      by_cases e10 : y.toInt = 10
      · refine x_tsI C 10 440 dL_law_72 e10 (by decide) (by decide) rfl (by decide) ?_
        exact lw_case_10 l C hX hb hA (by omega) (by omega) h1 (by omega) hl1 next
      by_cases e11 : y.toInt = 11
      · refine x_tsI C 11 473 dL_law_72 e11 (by decide) (by decide) rfl (by decide) ?_
        exact lw_case_11 l C hX hb hA (by omega) (by omega) h1 (by omega) hl1 next
      by_cases e12 : y.toInt = 12
      · refine x_tsI C 12 516 dL_law_72 e12 (by decide) (by decide) rfl (by decide) ?_
        exact lw_case_12 l C hX hb hA (by omega) (by omega) h1 (by omega) hl1 next
      by_cases e13 : y.toInt = 13
      · refine x_tsI C 13 549 dL_law_72 e13 (by decide) (by decide) rfl (by decide) ?_
        exact lw_case_13 l C hX hb hA (by omega) (by omega) h1 (by omega) hl1 next
      by_cases e14 : y.toInt = 14
      · refine x_tsI C 14 562 dL_law_72 e14 (by decide) (by decide) rfl (by decide) ?_
        exact lw_case_14 l C hX hb hA (by omega) (by omega) h1 (by omega) hl1 next
      by_cases e15 : y.toInt = 15
      · refine x_tsI C 15 595 dL_law_72 e15 (by decide) (by decide) rfl (by decide) ?_
        exact lw_case_15 l C hX hb hA (by omega) (by omega) h1 (by omega) hl1 next
      by_cases e16 : y.toInt = 16
      · refine x_tsI C 16 608 dL_law_72 e16 (by decide) (by decide) rfl (by decide) ?_
        exact lw_case_16 l C hX hb hA (by omega) (by omega) h1 (by omega) hl1 next
      by_cases e17 : y.toInt = 17
      · refine x_tsI C 17 621 dL_law_72 e17 (by decide) (by decide) rfl (by decide) ?_
        exact lw_case_17 l C hX hb hA (by omega) (by omega) h1 (by omega) hl1 next
      refine x_tsO C 634 dL_law_72 (by omega) (by decide) ?_
      exact next x u (RT_lo h (by omega)) (LB_lo hl (by omega))
