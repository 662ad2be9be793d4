def f_X7_act_k256 (xm : Nat) (a12 : St) (b14 : Int32) : St := if 0 < (f_X7_watch (put a12 24 xm b14) xm) then (f_X7_note (put (put a12 24 xm b14) 19 xm (f_X7_watch (put a12 24 xm b14) xm)) xm (10 + (f_X7_watch (put a12 24 xm b14) xm))) else (put (put a12 24 xm b14) 19 xm (f_X7_watch (put a12 24 xm b14) xm))
def f_X7_act_x183 (xm : Nat) (b10 : St) (a12 : St) : St := f_X7_act_k256 xm a12 (if ((f_X7_orders b10 xm) &&& 1) = 0 then ((a12 24 xm) + 1) else 0)
def f_X7_act_k226 (xm : Nat) (i11 : Nat) (a12 : St) (b21 : Int32) : St := put a12 23 ((5 * xm) + i11) b21
def f_X7_act_t183 (xm : Nat) (b10 : St) (i11 : Nat) (a12 : St) : St := f_X7_act_k226 xm i11 a12 (if (((f_X7_orders b10 xm) >>> ((nI i11) &&& 31)) &&& 1) = 1 then ((a12 23 ((5 * xm) + i11)) + 1) else 0)
def f_X7_act_k174 (xm : Nat) (b10 : St) : St := f_X7_act_x183 xm b10 (up (f_X7_act_t183 xm b10) 0 5 b10)
def f_X7_act_o163 (o24 : St) : St := o24
def f_X7_act_k142 (xm : Nat) (a3 : St) (b5 : Int32) (b8 : Int32) : St := f_X7_act_k174 xm (if (a3 25 (18 * xm)) = (a3 18 xm) then (f_X7_advance (put (put a3 22 xm b5) 17 xm b8) xm) else (f_X7_act_o163 (f_X7_change (put (put a3 22 xm b5) 17 xm b8) xm)))
def f_X7_act_k102 (xm : Nat) (a3 : St) (b5 : Int32) : St := if 0 < (a3 19 xm) then (put a3 22 xm b5) else (f_X7_act_k142 xm a3 b5 (if (a3 17 xm) < 99 then ((a3 17 xm) + 1) else 99))
def f_X7_act_x23 (u : St) (xm : Nat) (a3 : St) : St := f_X7_act_k102 xm a3 (if (a3 25 (18 * xm)) = (u 25 (18 * xm)) then (if (a3 22 xm) < 0 then (-1) else (if (a3 22 xm) < 1000 then ((a3 22 xm) + 1) else 1000)) else 0)
def f_X7_act_o32 (o32 : St) : St := o32
def f_X7_act_t23 (xm : Nat) (i2 : Nat) (a3 : St) : St := f_X7_act_o32 (f_X7_vote a3 xm i2)
def f_X7_act (u : St) (xm : Nat) : St := if (u 21 xm) = 1 then u else (f_X7_act_x23 u xm (up (f_X7_act_t23 xm) 0 18 u))
theorem hd_X7_act : yX7_act.cls ≠ "java/lang/invoke/MethodHandle" ∧ yX7_act.cls ≠ "java/lang/invoke/VarHandle" ∧ (parseMethodDescriptor yX7_act.desc).map (fun d => d.parameters.length) = some 1 := by decide +kernel
set_option maxHeartbeats 4000000 in
set_option maxRecDepth 100000 in
theorem c_X7_act (l : Launch) (D : va_G) (cI cZ cO : ClassId) (q : Nat → Nat) (u : St) (xm : Nat) (hy0 : xm < 2) (hy1 : LB 2 u) : CTv l D (T3 cI cZ cO) yX7_act (Cond.code yX7_act cX7_act 5 none :: WA) ({ frames := 3, cells := 0, slots := 0, locals := 68 } : Room) [.ref (q 0), .int (nI xm)] (wX7 cI cZ cO q u) (wX7 cI cZ cO q (f_X7_act u xm)) := by
  refine ct_v (K := fun z => z) (t := f_X7_act u xm) (wf := fun o => wX7 cI cZ cO q o) (own := RX7) (nm := "act") (L0 := [(0, .ref (q 0)), (1, .int (nI xm))]) (plainFor_of_name (by decide +kernel)) rfl rfl (Nat.le_of_ble_eq_true rfl) rfl ?_
  intro p e s m args below meth c A C
  unfold f_X7_act
  refine x_aload_n C dX7_act_0 0 rfl ?_
  refine x_get (v := .ref (q 12)) C hwsX70 21 mw_349 0 rfl rfl (by decide) rfl rfl dX7_act_1 ?_
  refine x_iload_n C dX7_act_4 1 rfl ?_
  refine x_iald C 12 0 rfl rfl xm rfl (by omega) (by decide) (u 21 xm) rfl dX7_act_5 ?_
  refine x_iconst C 1 dX7_act_6 (by decide) ?_
  refine x_icmp_ne C 11 dX7_act_7 (by decide) (fun c1 => ?_) (fun c1 => ?_)
  · exact x_vret C rfl dX7_act_10 rfl
  · refine x_aload_n C dX7_act_11 0 rfl ?_
    refine x_get (v := .ref (q 16)) C hwsX70 25 mw_353 0 rfl rfl (by decide) rfl rfl dX7_act_12 ?_
    refine x_bipush C 18 dX7_act_15 (by decide) ?_
    refine x_iload_n C dX7_act_17 1 rfl ?_
    refine x_imul C dX7_act_18 ?_
    refine x_top (nI (18 * xm)) (pk_mul _ _) ?_
    refine x_iald C 16 0 rfl rfl (18 * xm) rfl (by omega) (by decide) (u 25 (18 * xm)) rfl dX7_act_19 ?_
    refine x_istore_n (L' := [(2, .int (u 25 (18 * xm))), (0, .ref (q 0)), (1, .int (nI xm))]) C dX7_act_20 (by decide) rfl ?_
    refine x_iconst C 0 dX7_act_21 (by decide) ?_
    refine x_istore_n (L' := [(3, .int 0), (2, .int (u 25 (18 * xm))), (0, .ref (q 0)), (1, .int (nI xm))]) C dX7_act_22 (by decide) rfl ?_
    refine x_lsub (L' := [(0, .ref (q 0)), (1, .int (nI xm)), (2, .int (u 25 (18 * xm))), (3, .int 0)]) [2, 3, 1, 0] rfl ?_
    refine x_loopI (f_X7_act_t23 xm) (fun (a3 : St) => f_X7_act_x23 u xm a3) (fun (i2 : Nat) (a3 : St) => LB 2 a3) 18 23 (fun (i2 : Nat) (a3 : St) => [(0, .ref (q 0)), (1, .int (nI xm)), (2, .int (u 25 (18 * xm))), (3, .int (nI i2))]) (fun (i2 : Nat) (a3 : St) => []) (fun (i2 : Nat) (a3 : St) => wX7 cI cZ cO q a3) (fun a3 hIa3 => ?_) (fun i2 a3 K31 hk29 hIa3 ih30 => ?_) 18 0 u (by omega) (by (repeat (with_reducible refine LB_put ?_ ?_; decide)); (try first | with_reducible refine LB_vote ?_ | with_reducible refine LB_change ?_ | with_reducible refine LB_advance ?_ | with_reducible refine LB_come ?_); (repeat (with_reducible refine LB_put ?_ ?_; decide)); first | with_reducible assumption | exact LB_lo (by with_reducible assumption) (by first | decide | omega))
    · unfold f_X7_act_x23
      refine x_iload_n C dX7_act_23 3 rfl ?_
      refine x_bipush C 18 dX7_act_24 (by decide) ?_
      refine x_icmp_ge_t C 41 dX7_act_26 (by decide) (by decide) ?_
      refine x_aload_n C dX7_act_41 0 rfl ?_
      refine x_get (v := .ref (q 13)) C hwsX70 22 mw_350 0 rfl rfl (by decide) rfl rfl dX7_act_42 ?_
      refine x_iload_n C dX7_act_45 1 rfl ?_
      refine x_aload_n C dX7_act_46 0 rfl ?_
      refine x_get (v := .ref (q 16)) C hwsX70 25 mw_353 0 rfl rfl (by decide) rfl rfl dX7_act_47 ?_
      refine x_bipush C 18 dX7_act_50 (by decide) ?_
      refine x_iload_n C dX7_act_52 1 rfl ?_
      refine x_imul C dX7_act_53 ?_
      refine x_top (nI (18 * xm)) (pk_mul _ _) ?_
      refine x_iald C 16 0 rfl rfl (18 * xm) rfl (by omega) (by decide) (a3 25 (18 * xm)) rfl dX7_act_54 ?_
      refine x_iload_n C dX7_act_55 2 rfl ?_
      refine x_joinI (fun (b5 : Int32) => f_X7_act_k102 xm a3 b5) (fun (b5 : Int32) => LB 2 a3) 102 (fun (b5 : Int32) => [(0, .ref (q 0)), (1, .int (nI xm)), (2, .int (u 25 (18 * xm))), (3, .int (nI 18))]) (fun (b5 : Int32) => [.int b5, .int (nI xm), .ref (q 13)]) (fun (b5 : Int32) => wX7 cI cZ cO q a3) (fun b5 hIb5 => ?_) _ (fun J26 => ?_)
      · unfold f_X7_act_k102
        refine x_iast (ws' := wX7 cI cZ cO q (put a3 22 xm b5)) C 13 0 rfl rfl xm rfl (by omega) (by decide) dX7_act_102 rfl ?_
        refine x_aload_n C dX7_act_103 0 rfl ?_
        refine x_get (v := .ref (q 10)) C hwsX70 19 mw_346 0 rfl rfl (by decide) rfl rfl dX7_act_104 ?_
        refine x_iload_n C dX7_act_107 1 rfl ?_
        refine x_iald C 10 0 rfl rfl xm rfl (by omega) (by decide) (a3 19 xm) (by simp [put, upd]) dX7_act_108 ?_
        refine x_if_le C 113 dX7_act_109 (by decide) (fun c6 => ?_) (fun c6 => ?_)
        · exact x_vret C rfl dX7_act_112 rfl
        · refine x_aload_n C dX7_act_113 0 rfl ?_
          refine x_get (v := .ref (q 8)) C hwsX70 17 mw_344 0 rfl rfl (by decide) rfl rfl dX7_act_114 ?_
          refine x_iload_n C dX7_act_117 1 rfl ?_
          refine x_aload_n C dX7_act_118 0 rfl ?_
          refine x_get (v := .ref (q 8)) C hwsX70 17 mw_344 0 rfl rfl (by decide) rfl rfl dX7_act_119 ?_
          refine x_iload_n C dX7_act_122 1 rfl ?_
          refine x_iald C 8 0 rfl rfl xm rfl (by omega) (by decide) (a3 17 xm) (by simp [put, upd]) dX7_act_123 ?_
          refine x_bipush C 99 dX7_act_124 (by decide) ?_
          refine x_joinI (fun (b8 : Int32) => f_X7_act_k142 xm a3 b5 b8) (fun (b8 : Int32) => LB 2 (put a3 22 xm b5)) 142 (fun (b8 : Int32) => [(0, .ref (q 0)), (1, .int (nI xm)), (2, .int (u 25 (18 * xm))), (3, .int (nI 18))]) (fun (b8 : Int32) => [.int b8, .int (nI xm), .ref (q 8)]) (fun (b8 : Int32) => wX7 cI cZ cO q (put a3 22 xm b5)) (fun b8 hIb8 => ?_) _ (fun J25 => ?_)
          · unfold f_X7_act_k142
            refine x_iast (ws' := wX7 cI cZ cO q (put (put a3 22 xm b5) 17 xm b8)) C 8 0 rfl rfl xm rfl (by omega) (by decide) dX7_act_142 rfl ?_
            refine x_aload_n C dX7_act_143 0 rfl ?_
            refine x_get (v := .ref (q 16)) C hwsX70 25 mw_353 0 rfl rfl (by decide) rfl rfl dX7_act_144 ?_
            refine x_bipush C 18 dX7_act_147 (by decide) ?_
            refine x_iload_n C dX7_act_149 1 rfl ?_
            refine x_imul C dX7_act_150 ?_
            refine x_top (nI (18 * xm)) (pk_mul _ _) ?_
            refine x_iald C 16 0 rfl rfl (18 * xm) rfl (by omega) (by decide) (a3 25 (18 * xm)) (by simp [put, upd]) dX7_act_151 ?_
            refine x_aload_n C dX7_act_152 0 rfl ?_
            refine x_get (v := .ref (q 9)) C hwsX70 18 mw_345 0 rfl rfl (by decide) rfl rfl dX7_act_153 ?_
            refine x_iload_n C dX7_act_156 1 rfl ?_
            refine x_iald C 9 0 rfl rfl xm rfl (by omega) (by decide) (a3 18 xm) (by simp [put, upd]) dX7_act_157 ?_
            refine x_joinI (fun (b10 : St) => f_X7_act_k174 xm b10) (fun (b10 : St) => LB 1 b10) 174 (fun (b10 : St) => [(0, .ref (q 0)), (1, .int (nI xm)), (2, .int (u 25 (18 * xm))), (3, .int (nI 18))]) (fun (b10 : St) => []) (fun (b10 : St) => wX7 cI cZ cO q b10) (fun b10 hIb10 => ?_) _ (fun J23 => ?_)
            · unfold f_X7_act_k174
              refine x_aload_n C dX7_act_174 0 rfl ?_
              refine x_iload_n C dX7_act_175 1 rfl ?_
              refine x_cViW (q0 := 0) (As := [.int (nI xm)]) C mw_385 mw_386 mw_387 mw_337 mw_383 hd_X7_orders rfl rfl ⟨Nat.le_of_ble_eq_true rfl, Nat.le_of_ble_eq_true rfl⟩ rfl rfl rfl (c_X7_orders l D cI cZ cO q b10 xm (by omega)) rfl rfl (Nat.le_of_ble_eq_true rfl) (Nat.le_of_ble_eq_true rfl) (Nat.le_of_ble_eq_true rfl) dX7_act_176 ?_
              refine x_istore_n (L' := [(3, .int (f_X7_orders b10 xm)), (0, .ref (q 0)), (1, .int (nI xm)), (2, .int (u 25 (18 * xm)))]) C dX7_act_179 (by decide) rfl ?_
              refine x_iconst C 0 dX7_act_180 (by decide) ?_
              refine x_istore (L' := [(4, .int 0), (3, .int (f_X7_orders b10 xm)), (0, .ref (q 0)), (1, .int (nI xm)), (2, .int (u 25 (18 * xm)))]) C dX7_act_181 (by decide) rfl ?_
              refine x_lsub (L' := [(0, .ref (q 0)), (1, .int (nI xm)), (2, .int (u 25 (18 * xm))), (3, .int (f_X7_orders b10 xm)), (4, .int 0)]) [2, 3, 4, 1, 0] rfl ?_
              refine x_loopI (f_X7_act_t183 xm b10) (fun (a12 : St) => f_X7_act_x183 xm b10 a12) (fun (i11 : Nat) (a12 : St) => LB 1 a12) 5 183 (fun (i11 : Nat) (a12 : St) => [(0, .ref (q 0)), (1, .int (nI xm)), (2, .int (u 25 (18 * xm))), (3, .int (f_X7_orders b10 xm)), (4, .int (nI i11))]) (fun (i11 : Nat) (a12 : St) => []) (fun (i11 : Nat) (a12 : St) => wX7 cI cZ cO q a12) (fun a12 hIa12 => ?_) (fun i11 a12 K19 hk17 hIa12 ih18 => ?_) 5 0 b10 (by omega) (by (repeat (with_reducible refine LB_put ?_ ?_; decide)); (try first | with_reducible refine LB_vote ?_ | with_reducible refine LB_change ?_ | with_reducible refine LB_advance ?_ | with_reducible refine LB_come ?_); (repeat (with_reducible refine LB_put ?_ ?_; decide)); first | with_reducible assumption | exact LB_lo (by with_reducible assumption) (by first | decide | omega))
              · unfold f_X7_act_x183
                refine x_iload C dX7_act_183 4 rfl ?_
                refine x_iconst C 5 dX7_act_185 (by decide) ?_
                refine x_icmp_ge_t C 233 dX7_act_186 (by decide) (by decide) ?_
                refine x_aload_n C dX7_act_233 0 rfl ?_
                refine x_get (v := .ref (q 15)) C hwsX70 24 mw_352 0 rfl rfl (by decide) rfl rfl dX7_act_234 ?_
                refine x_iload_n C dX7_act_237 1 rfl ?_
                refine x_iload_n C dX7_act_238 3 rfl ?_
                refine x_iconst C 1 dX7_act_239 (by decide) ?_
                refine x_iand C dX7_act_240 ?_
                refine x_joinI (fun (b14 : Int32) => f_X7_act_k256 xm a12 b14) (fun (b14 : Int32) => LB 1 a12) 256 (fun (b14 : Int32) => [(0, .ref (q 0)), (1, .int (nI xm)), (2, .int (u 25 (18 * xm))), (3, .int (f_X7_orders b10 xm)), (4, .int (nI 5))]) (fun (b14 : Int32) => [.int b14, .int (nI xm), .ref (q 15)]) (fun (b14 : Int32) => wX7 cI cZ cO q a12) (fun b14 hIb14 => ?_) _ (fun J16 => ?_)
                · unfold f_X7_act_k256
                  refine x_iast (ws' := wX7 cI cZ cO q (put a12 24 xm b14)) C 15 0 rfl rfl xm rfl (by omega) (by decide) dX7_act_256 rfl ?_
                  refine x_aload_n C dX7_act_257 0 rfl ?_
                  refine x_get (v := .ref (q 10)) C hwsX70 19 mw_346 0 rfl rfl (by decide) rfl rfl dX7_act_258 ?_
                  refine x_iload_n C dX7_act_261 1 rfl ?_
                  refine x_aload_n C dX7_act_262 0 rfl ?_
                  refine x_iload_n C dX7_act_263 1 rfl ?_
                  refine x_cViW (q0 := 0) (As := [.int (nI xm)]) C mw_416 mw_417 mw_418 mw_337 mw_406 hd_X7_watch rfl rfl ⟨Nat.le_of_ble_eq_true rfl, Nat.le_of_ble_eq_true rfl⟩ rfl rfl rfl (c_X7_watch l D cI cZ cO q (put a12 24 xm b14) xm (by omega)) rfl rfl (Nat.le_of_ble_eq_true rfl) (Nat.le_of_ble_eq_true rfl) (Nat.le_of_ble_eq_true rfl) dX7_act_264 ?_
                  refine x_iast (ws' := wX7 cI cZ cO q (put (put a12 24 xm b14) 19 xm (f_X7_watch (put a12 24 xm b14) xm))) C 10 0 rfl rfl xm rfl (by omega) (by decide) dX7_act_267 rfl ?_
                  refine x_aload_n C dX7_act_268 0 rfl ?_
                  refine x_get (v := .ref (q 10)) C hwsX70 19 mw_346 0 rfl rfl (by decide) rfl rfl dX7_act_269 ?_
                  refine x_iload_n C dX7_act_272 1 rfl ?_
                  refine x_iald C 10 0 rfl rfl xm rfl (by omega) (by decide) (f_X7_watch (put a12 24 xm b14) xm) (by simp [put, upd]) dX7_act_273 ?_
                  refine x_if_le C 291 dX7_act_274 (by decide) (fun c15 => ?_) (fun c15 => ?_)
                  · refine x_aload_n C dX7_act_277 0 rfl ?_
                    refine x_iload_n C dX7_act_278 1 rfl ?_
                    refine x_bipush C 10 dX7_act_279 (by decide) ?_
                    refine x_aload_n C dX7_act_281 0 rfl ?_
                    refine x_get (v := .ref (q 10)) C hwsX70 19 mw_346 0 rfl rfl (by decide) rfl rfl dX7_act_282 ?_
                    refine x_iload_n C dX7_act_285 1 rfl ?_
                    refine x_iald C 10 0 rfl rfl xm rfl (by omega) (by decide) (f_X7_watch (put a12 24 xm b14) xm) (by simp [put, upd]) dX7_act_286 ?_
                    refine x_iadd C dX7_act_287 ?_
                    refine x_cVvW (q0 := 0) (As := [.int (nI xm), .int (10 + (f_X7_watch (put a12 24 xm b14) xm))]) C mw_392 mw_393 mw_394 mw_337 mw_388 hd_X7_note rfl rfl ⟨Nat.le_of_ble_eq_true rfl, Nat.le_of_ble_eq_true rfl⟩ rfl rfl rfl (c_X7_note l D cI cZ cO q (put (put a12 24 xm b14) 19 xm (f_X7_watch (put a12 24 xm b14) xm)) xm (10 + (f_X7_watch (put a12 24 xm b14) xm)) (by (repeat (with_reducible refine LB_put ?_ ?_; decide)); (try first | with_reducible refine LB_vote ?_ | with_reducible refine LB_change ?_ | with_reducible refine LB_advance ?_ | with_reducible refine LB_come ?_); (repeat (with_reducible refine LB_put ?_ ?_; decide)); first | with_reducible assumption | exact LB_lo (by with_reducible assumption) (by first | decide | omega))) rfl rfl (Nat.le_of_ble_eq_true rfl) (Nat.le_of_ble_eq_true rfl) (Nat.le_of_ble_eq_true rfl) dX7_act_288 ?_
                    exact x_vret C rfl dX7_act_291 rfl
                  · exact x_vret C rfl dX7_act_291 rfl
                · refine x_if_ne C 255 dX7_act_241 (by decide) (fun c13 => ?_) (fun c13 => ?_)
                  · refine x_aload_n C dX7_act_244 0 rfl ?_
                    refine x_get (v := .ref (q 15)) C hwsX70 24 mw_352 0 rfl rfl (by decide) rfl rfl dX7_act_245 ?_
                    refine x_iload_n C dX7_act_248 1 rfl ?_
                    refine x_iald C 15 0 rfl rfl xm rfl (by omega) (by decide) (a12 24 xm) rfl dX7_act_249 ?_
                    refine x_iconst C 1 dX7_act_250 (by decide) ?_
                    refine x_iadd C dX7_act_251 ?_
                    refine x_goto C 256 dX7_act_252 (by decide) ?_
                    exact J16 ((a12 24 xm) + 1) (by (repeat (with_reducible refine LB_put ?_ ?_; decide)); (try first | with_reducible refine LB_vote ?_ | with_reducible refine LB_change ?_ | with_reducible refine LB_advance ?_ | with_reducible refine LB_come ?_); (repeat (with_reducible refine LB_put ?_ ?_; decide)); first | with_reducible assumption | exact LB_lo (by with_reducible assumption) (by first | decide | omega))
                  · refine x_iconst C 0 dX7_act_255 (by decide) ?_
                    exact J16 0 (by (repeat (with_reducible refine LB_put ?_ ?_; decide)); (try first | with_reducible refine LB_vote ?_ | with_reducible refine LB_change ?_ | with_reducible refine LB_advance ?_ | with_reducible refine LB_come ?_); (repeat (with_reducible refine LB_put ?_ ?_; decide)); first | with_reducible assumption | exact LB_lo (by with_reducible assumption) (by first | decide | omega))
              · unfold f_X7_act_t183
                refine x_iload C dX7_act_183 4 rfl ?_
                refine x_iconst C 5 dX7_act_185 (by decide) ?_
                refine x_icmp_ge_f C 233 dX7_act_186 (by decide) (nI_lt (b := 5) hk17 (by omega)) ?_
                refine x_aload_n C dX7_act_189 0 rfl ?_
                refine x_get (v := .ref (q 14)) C hwsX70 23 mw_351 0 rfl rfl (by decide) rfl rfl dX7_act_190 ?_
                refine x_iconst C 5 dX7_act_193 (by decide) ?_
                refine x_iload_n C dX7_act_194 1 rfl ?_
                refine x_imul C dX7_act_195 ?_
                refine x_top (nI (5 * xm)) (pk_mul _ _) ?_
                refine x_iload C dX7_act_196 4 rfl ?_
                refine x_iadd C dX7_act_198 ?_
                refine x_top (nI ((5 * xm) + i11)) (nI_add _ _) ?_
                refine x_iload_n C dX7_act_199 3 rfl ?_
                refine x_iload C dX7_act_200 4 rfl ?_
                refine x_ishr C dX7_act_202 ?_
                refine x_iconst C 1 dX7_act_203 (by decide) ?_
                refine x_iand C dX7_act_204 ?_
                refine x_iconst C 1 dX7_act_205 (by decide) ?_
                refine x_joinI (fun (b21 : Int32) => f_X7_act_k226 xm i11 a12 b21) (fun (b21 : Int32) => LB 1 a12) 226 (fun (b21 : Int32) => [(0, .ref (q 0)), (1, .int (nI xm)), (2, .int (u 25 (18 * xm))), (3, .int (f_X7_orders b10 xm)), (4, .int (nI i11))]) (fun (b21 : Int32) => [.int b21, .int (nI ((5 * xm) + i11)), .ref (q 14)]) (fun (b21 : Int32) => wX7 cI cZ cO q a12) (fun b21 hIb21 => ?_) _ (fun J22 => ?_)
                · unfold f_X7_act_k226
                  refine x_iast (ws' := wX7 cI cZ cO q (put a12 23 ((5 * xm) + i11) b21)) C 14 0 rfl rfl ((5 * xm) + i11) rfl (by omega) (by decide) dX7_act_226 rfl ?_
                  refine x_iinc (L' := [(4, .int (nI (i11 + 1))), (0, .ref (q 0)), (1, .int (nI xm)), (2, .int (u 25 (18 * xm))), (3, .int (f_X7_orders b10 xm))]) C (nI (i11 + 1)) dX7_act_227 4 rfl (nI_add _ _) (by decide) rfl ?_
                  refine x_goto C 183 dX7_act_230 (by decide) ?_
                  refine x_lsub (L' := [(0, .ref (q 0)), (1, .int (nI xm)), (2, .int (u 25 (18 * xm))), (3, .int (f_X7_orders b10 xm)), (4, .int (nI (i11 + 1)))]) [1, 2, 3, 4, 0] rfl ?_
                  exact ih18 (put a12 23 ((5 * xm) + i11) b21) (by (repeat (with_reducible refine LB_put ?_ ?_; decide)); (try first | with_reducible refine LB_vote ?_ | with_reducible refine LB_change ?_ | with_reducible refine LB_advance ?_ | with_reducible refine LB_come ?_); (repeat (with_reducible refine LB_put ?_ ?_; decide)); first | with_reducible assumption | exact LB_lo (by with_reducible assumption) (by first | decide | omega))
                · refine x_icmp_ne C 225 dX7_act_206 (by decide) (fun c20 => ?_) (fun c20 => ?_)
                  · refine x_aload_n C dX7_act_209 0 rfl ?_
                    refine x_get (v := .ref (q 14)) C hwsX70 23 mw_351 0 rfl rfl (by decide) rfl rfl dX7_act_210 ?_
                    refine x_iconst C 5 dX7_act_213 (by decide) ?_
                    refine x_iload_n C dX7_act_214 1 rfl ?_
                    refine x_imul C dX7_act_215 ?_
                    refine x_top (nI (5 * xm)) (pk_mul _ _) ?_
                    refine x_iload C dX7_act_216 4 rfl ?_
                    refine x_iadd C dX7_act_218 ?_
                    refine x_top (nI ((5 * xm) + i11)) (nI_add _ _) ?_
                    refine x_iald C 14 0 rfl rfl ((5 * xm) + i11) rfl (by omega) (by decide) (a12 23 ((5 * xm) + i11)) rfl dX7_act_219 ?_
                    refine x_iconst C 1 dX7_act_220 (by decide) ?_
                    refine x_iadd C dX7_act_221 ?_
                    refine x_goto C 226 dX7_act_222 (by decide) ?_
                    exact J22 ((a12 23 ((5 * xm) + i11)) + 1) (by (repeat (with_reducible refine LB_put ?_ ?_; decide)); (try first | with_reducible refine LB_vote ?_ | with_reducible refine LB_change ?_ | with_reducible refine LB_advance ?_ | with_reducible refine LB_come ?_); (repeat (with_reducible refine LB_put ?_ ?_; decide)); first | with_reducible assumption | exact LB_lo (by with_reducible assumption) (by first | decide | omega))
                  · refine x_iconst C 0 dX7_act_225 (by decide) ?_
                    exact J22 0 (by (repeat (with_reducible refine LB_put ?_ ?_; decide)); (try first | with_reducible refine LB_vote ?_ | with_reducible refine LB_change ?_ | with_reducible refine LB_advance ?_ | with_reducible refine LB_come ?_); (repeat (with_reducible refine LB_put ?_ ?_; decide)); first | with_reducible assumption | exact LB_lo (by with_reducible assumption) (by first | decide | omega))
            · refine x_icmp_eq C 169 dX7_act_158 (by decide) (fun c9 => ?_) (fun c9 => ?_)
              · refine x_aload_n C dX7_act_169 0 rfl ?_
                refine x_iload_n C dX7_act_170 1 rfl ?_
                refine x_cVvW (q0 := 0) (As := [.int (nI xm)]) C mw_413 mw_414 mw_415 mw_337 mw_405 hd_X7_advance rfl rfl ⟨Nat.le_of_ble_eq_true rfl, Nat.le_of_ble_eq_true rfl⟩ rfl rfl rfl (c_X7_advance l D cI cZ cO q (put (put a3 22 xm b5) 17 xm b8) xm (by omega) (by (repeat (with_reducible refine LB_put ?_ ?_; decide)); (try first | with_reducible refine LB_vote ?_ | with_reducible refine LB_change ?_ | with_reducible refine LB_advance ?_ | with_reducible refine LB_come ?_); (repeat (with_reducible refine LB_put ?_ ?_; decide)); first | with_reducible assumption | exact LB_lo (by with_reducible assumption) (by first | decide | omega))) rfl rfl (Nat.le_of_ble_eq_true rfl) (Nat.le_of_ble_eq_true rfl) (Nat.le_of_ble_eq_true rfl) dX7_act_171 ?_
                exact J23 (f_X7_advance (put (put a3 22 xm b5) 17 xm b8) xm) (by (repeat (with_reducible refine LB_put ?_ ?_; decide)); (try first | with_reducible refine LB_vote ?_ | with_reducible refine LB_change ?_ | with_reducible refine LB_advance ?_ | with_reducible refine LB_come ?_); (repeat (with_reducible refine LB_put ?_ ?_; decide)); first | with_reducible assumption | exact LB_lo (by with_reducible assumption) (by first | decide | omega))
              · refine x_aload_n C dX7_act_161 0 rfl ?_
                refine x_iload_n C dX7_act_162 1 rfl ?_
                refine x_cVvW (q0 := 0) (As := [.int (nI xm)]) C mw_410 mw_411 mw_412 mw_337 mw_395 hd_X7_change rfl rfl ⟨Nat.le_of_ble_eq_true rfl, Nat.le_of_ble_eq_true rfl⟩ rfl rfl rfl (c_X7_change l D cI cZ cO q (put (put a3 22 xm b5) 17 xm b8) xm (by omega) (by (repeat (with_reducible refine LB_put ?_ ?_; decide)); (try first | with_reducible refine LB_vote ?_ | with_reducible refine LB_change ?_ | with_reducible refine LB_advance ?_ | with_reducible refine LB_come ?_); (repeat (with_reducible refine LB_put ?_ ?_; decide)); first | with_reducible assumption | exact LB_lo (by with_reducible assumption) (by first | decide | omega))) rfl rfl (Nat.le_of_ble_eq_true rfl) (Nat.le_of_ble_eq_true rfl) (Nat.le_of_ble_eq_true rfl) dX7_act_163 ?_
                unfold f_X7_act_o163
                have hAo24 : LB 1 (f_X7_change (put (put a3 22 xm b5) 17 xm b8) xm) := LB_change (by (repeat (with_reducible refine LB_put ?_ ?_; decide)); first | with_reducible assumption | exact LB_lo (by with_reducible assumption) (by first | decide | omega))
                generalize f_X7_change (put (put a3 22 xm b5) 17 xm b8) xm = o24 at hAo24 ⊢
                refine x_goto C 174 dX7_act_166 (by decide) ?_
                exact J23 o24 (by (repeat (with_reducible refine LB_put ?_ ?_; decide)); (try first | with_reducible refine LB_vote ?_ | with_reducible refine LB_change ?_ | with_reducible refine LB_advance ?_ | with_reducible refine LB_come ?_); (repeat (with_reducible refine LB_put ?_ ?_; decide)); first | with_reducible assumption | exact LB_lo (by with_reducible assumption) (by first | decide | omega))
          · refine x_icmp_ge C 140 dX7_act_126 (by decide) (fun c7 => ?_) (fun c7 => ?_)
            · refine x_aload_n C dX7_act_129 0 rfl ?_
              refine x_get (v := .ref (q 8)) C hwsX70 17 mw_344 0 rfl rfl (by decide) rfl rfl dX7_act_130 ?_
              refine x_iload_n C dX7_act_133 1 rfl ?_
              refine x_iald C 8 0 rfl rfl xm rfl (by omega) (by decide) (a3 17 xm) (by simp [put, upd]) dX7_act_134 ?_
              refine x_iconst C 1 dX7_act_135 (by decide) ?_
              refine x_iadd C dX7_act_136 ?_
              refine x_goto C 142 dX7_act_137 (by decide) ?_
              exact J25 ((a3 17 xm) + 1) (by (repeat (with_reducible refine LB_put ?_ ?_; decide)); (try first | with_reducible refine LB_vote ?_ | with_reducible refine LB_change ?_ | with_reducible refine LB_advance ?_ | with_reducible refine LB_come ?_); (repeat (with_reducible refine LB_put ?_ ?_; decide)); first | with_reducible assumption | exact LB_lo (by with_reducible assumption) (by first | decide | omega))
            · refine x_bipush C 99 dX7_act_140 (by decide) ?_
              exact J25 99 (by (repeat (with_reducible refine LB_put ?_ ?_; decide)); (try first | with_reducible refine LB_vote ?_ | with_reducible refine LB_change ?_ | with_reducible refine LB_advance ?_ | with_reducible refine LB_come ?_); (repeat (with_reducible refine LB_put ?_ ?_; decide)); first | with_reducible assumption | exact LB_lo (by with_reducible assumption) (by first | decide | omega))
      · refine x_icmp_eq C 63 dX7_act_56 (by decide) (fun c4 => ?_) (fun c4 => ?_)
        · refine x_aload_n C dX7_act_63 0 rfl ?_
          refine x_get (v := .ref (q 13)) C hwsX70 22 mw_350 0 rfl rfl (by decide) rfl rfl dX7_act_64 ?_
          refine x_iload_n C dX7_act_67 1 rfl ?_
          refine x_iald C 13 0 rfl rfl xm rfl (by omega) (by decide) (a3 22 xm) rfl dX7_act_68 ?_
          refine x_if_ge C 76 dX7_act_69 (by decide) (fun c27 => ?_) (fun c27 => ?_)
          · refine x_iconst C (-1) dX7_act_72 (by decide) ?_
            refine x_goto C 102 dX7_act_73 (by decide) ?_
            exact J26 (-1) (by (repeat (with_reducible refine LB_put ?_ ?_; decide)); (try first | with_reducible refine LB_vote ?_ | with_reducible refine LB_change ?_ | with_reducible refine LB_advance ?_ | with_reducible refine LB_come ?_); (repeat (with_reducible refine LB_put ?_ ?_; decide)); first | with_reducible assumption | exact LB_lo (by with_reducible assumption) (by first | decide | omega))
          · refine x_aload_n C dX7_act_76 0 rfl ?_
            refine x_get (v := .ref (q 13)) C hwsX70 22 mw_350 0 rfl rfl (by decide) rfl rfl dX7_act_77 ?_
            refine x_iload_n C dX7_act_80 1 rfl ?_
            refine x_iald C 13 0 rfl rfl xm rfl (by omega) (by decide) (a3 22 xm) rfl dX7_act_81 ?_
            refine x_sipush C 1000 dX7_act_82 (by decide) ?_
            refine x_icmp_ge C 99 dX7_act_85 (by decide) (fun c28 => ?_) (fun c28 => ?_)
            · refine x_aload_n C dX7_act_88 0 rfl ?_
              refine x_get (v := .ref (q 13)) C hwsX70 22 mw_350 0 rfl rfl (by decide) rfl rfl dX7_act_89 ?_
              refine x_iload_n C dX7_act_92 1 rfl ?_
              refine x_iald C 13 0 rfl rfl xm rfl (by omega) (by decide) (a3 22 xm) rfl dX7_act_93 ?_
              refine x_iconst C 1 dX7_act_94 (by decide) ?_
              refine x_iadd C dX7_act_95 ?_
              refine x_goto C 102 dX7_act_96 (by decide) ?_
              exact J26 ((a3 22 xm) + 1) (by (repeat (with_reducible refine LB_put ?_ ?_; decide)); (try first | with_reducible refine LB_vote ?_ | with_reducible refine LB_change ?_ | with_reducible refine LB_advance ?_ | with_reducible refine LB_come ?_); (repeat (with_reducible refine LB_put ?_ ?_; decide)); first | with_reducible assumption | exact LB_lo (by with_reducible assumption) (by first | decide | omega))
            · refine x_sipush C 1000 dX7_act_99 (by decide) ?_
              exact J26 1000 (by (repeat (with_reducible refine LB_put ?_ ?_; decide)); (try first | with_reducible refine LB_vote ?_ | with_reducible refine LB_change ?_ | with_reducible refine LB_advance ?_ | with_reducible refine LB_come ?_); (repeat (with_reducible refine LB_put ?_ ?_; decide)); first | with_reducible assumption | exact LB_lo (by with_reducible assumption) (by first | decide | omega))
        · refine x_iconst C 0 dX7_act_59 (by decide) ?_
          refine x_goto C 102 dX7_act_60 (by decide) ?_
          exact J26 0 (by (repeat (with_reducible refine LB_put ?_ ?_; decide)); (try first | with_reducible refine LB_vote ?_ | with_reducible refine LB_change ?_ | with_reducible refine LB_advance ?_ | with_reducible refine LB_come ?_); (repeat (with_reducible refine LB_put ?_ ?_; decide)); first | with_reducible assumption | exact LB_lo (by with_reducible assumption) (by first | decide | omega))
    · unfold f_X7_act_t23
      refine x_iload_n C dX7_act_23 3 rfl ?_
      refine x_bipush C 18 dX7_act_24 (by decide) ?_
      refine x_icmp_ge_f C 41 dX7_act_26 (by decide) (nI_lt (b := 18) hk29 (by omega)) ?_
      refine x_aload_n C dX7_act_29 0 rfl ?_
      refine x_iload_n C dX7_act_30 1 rfl ?_
      refine x_iload_n C dX7_act_31 3 rfl ?_
      refine x_cVvW (q0 := 0) (As := [.int (nI xm), .int (nI i2)]) C mw_407 mw_408 mw_409 mw_337 mw_377 hd_X7_vote rfl rfl ⟨Nat.le_of_ble_eq_true rfl, Nat.le_of_ble_eq_true rfl⟩ rfl rfl rfl (c_X7_vote l D cI cZ cO q a3 xm i2 (by omega) (by omega)) rfl rfl (Nat.le_of_ble_eq_true rfl) (Nat.le_of_ble_eq_true rfl) (Nat.le_of_ble_eq_true rfl) dX7_act_32 ?_
      unfold f_X7_act_o32
      have hAo32 : LB 2 (f_X7_vote a3 xm i2) := LB_vote (by (repeat (with_reducible refine LB_put ?_ ?_; decide)); first | with_reducible assumption | exact LB_lo (by with_reducible assumption) (by first | decide | omega))
      generalize f_X7_vote a3 xm i2 = o32 at hAo32 ⊢
      refine x_iinc (L' := [(3, .int (nI (i2 + 1))), (0, .ref (q 0)), (1, .int (nI xm)), (2, .int (u 25 (18 * xm)))]) C (nI (i2 + 1)) dX7_act_35 3 rfl (nI_add _ _) (by decide) rfl ?_
      refine x_goto C 23 dX7_act_38 (by decide) ?_
      refine x_lsub (L' := [(0, .ref (q 0)), (1, .int (nI xm)), (2, .int (u 25 (18 * xm))), (3, .int (nI (i2 + 1)))]) [1, 2, 3, 0] rfl ?_
      exact ih30 o32 (by (repeat (with_reducible refine LB_put ?_ ?_; decide)); (try first | with_reducible refine LB_vote ?_ | with_reducible refine LB_change ?_ | with_reducible refine LB_advance ?_ | with_reducible refine LB_come ?_); (repeat (with_reducible refine LB_put ?_ ?_; decide)); first | with_reducible assumption | exact LB_lo (by with_reducible assumption) (by first | decide | omega))
theorem LB_act {n : Nat} {u : St} {m : Nat} (h : LB (n + 2) u) : LB n (f_X7_act u m) := by
  unfold f_X7_act
  refine LB_ite (LB_lo h (by omega)) ?_
  unfold f_X7_act_x23
  have h1 : LB (n + 2) (up (f_X7_act_t23 m) 0 18 u) := LB_up (I := LB (n + 2)) (fun k a h => by unfold f_X7_act_t23 f_X7_act_o32; exact LB_vote h) 18 0 u h
  generalize up (f_X7_act_t23 m) 0 18 u = a at h1 ⊢
  have key3 : ∀ b : St, LB (n + 1) b → LB n (f_X7_act_k174 m b) := by
    intro b hb
    unfold f_X7_act_k174 f_X7_act_x183
    have h4 : LB (n + 1) (up (f_X7_act_t183 m b) 0 5 b) := LB_up (I := LB (n + 1)) (fun k a h => by unfold f_X7_act_t183 f_X7_act_k226; exact LB_put (by decide) h) 5 0 b hb
    generalize up (f_X7_act_t183 m b) 0 5 b = d at h4 ⊢
    have key4 : ∀ x : Int32, LB n (f_X7_act_k256 m d x) := by
      intro x
      have h5 : ∀ w : Int32, LB (n + 1) (put (put d 24 m x) 19 m w) := fun w => LB_put (by decide) (LB_put (by decide) h4)
      unfold f_X7_act_k256
      exact LB_ite (LB_note (h5 _)) (LB_lo (h5 _) (by omega))
    exact key4 _
  have key2 : ∀ z y : Int32, LB n (f_X7_act_k142 m a z y) := by
    intro z y
    have h2 : LB (n + 2) (put (put a 22 m z) 17 m y) := LB_put (by decide) (LB_put (by decide) h1)
    unfold f_X7_act_k142 f_X7_act_o163
    exact key3 _ (LB_ite (LB_advance h2) (LB_change h2))
  have key : ∀ z : Int32, LB n (f_X7_act_k102 m a z) := by
    intro z
    unfold f_X7_act_k102
    exact LB_ite (LB_put (by decide) (LB_lo h1 (by omega))) (key2 _ _)
  exact key _
