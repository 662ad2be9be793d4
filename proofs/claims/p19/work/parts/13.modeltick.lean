def f_X7_tick_k438 (b24 : St) : St := b24
def f_X7_tick_k434 (b22 : St) (b27 : Bool) (b29 : Int32) (b31 : Int32) (b33 : Int32) (b35 : Int32) : St := put (put (put (put (put b22 8 0 ((b22 8 0) ||| (b2i b27))) 8 0 (((b22 8 0) ||| (b2i b27)) ||| b29)) 8 0 ((((b22 8 0) ||| (b2i b27)) ||| b29) ||| b31)) 8 0 (((((b22 8 0) ||| (b2i b27)) ||| b29) ||| b31) ||| b33)) 8 0 ((((((b22 8 0) ||| (b2i b27)) ||| b29) ||| b31) ||| b33) ||| b35)
def f_X7_tick_k405 (b22 : St) (b27 : Bool) (b29 : Int32) (b31 : Int32) (b33 : Int32) : St := f_X7_tick_k434 b22 b27 b29 b31 b33 (if 0 < (b22 19 1) then 4 else 0)
def f_X7_tick_k405_2 (b22 : St) (b27 : Bool) (b29 : Int32) (b31 : Int32) : St := f_X7_tick_k405 b22 b27 b29 b31 (if ((b22 25 29) + (b22 25 32)) = 0 then 2 else 0)
def f_X7_tick_k405_3 (b22 : St) (b27 : Bool) (b29 : Int32) : St := f_X7_tick_k405_2 b22 b27 b29 (if ((b22 25 28) + (b22 25 31)) = 0 then 2 else 0)
def f_X7_tick_k348 (b22 : St) (b27 : Bool) : St := f_X7_tick_k405_3 b22 b27 (if ((b22 25 27) + (b22 25 30)) = 0 then 2 else 0)
def f_X7_tick_k438_2 (b22 : St) : St := f_X7_tick_k438 (if (b22 21 1) = 0 then (f_X7_tick_k348 b22 (if (f_X7_all b22 1 9) = true then true else false)) else b22)
def f_X7_tick_k434_2 (o20 : St) (b43 : Bool) (b45 : Int32) (b47 : Int32) (b49 : Int32) (b51 : Int32) : St := put (put (put (put (put (put o20 8 0 0) 8 0 (0 ||| (b2i b43))) 8 0 ((0 ||| (b2i b43)) ||| b45)) 8 0 (((0 ||| (b2i b43)) ||| b45) ||| b47)) 8 0 ((((0 ||| (b2i b43)) ||| b45) ||| b47) ||| b49)) 8 0 (((((0 ||| (b2i b43)) ||| b45) ||| b47) ||| b49) ||| b51)
def f_X7_tick_k405_4 (o20 : St) (b43 : Bool) (b45 : Int32) (b47 : Int32) (b49 : Int32) : St := f_X7_tick_k434_2 o20 b43 b45 b47 b49 (if 0 < (o20 19 0) then 4 else 0)
def f_X7_tick_k405_5 (o20 : St) (b43 : Bool) (b45 : Int32) (b47 : Int32) : St := f_X7_tick_k405_4 o20 b43 b45 b47 (if ((o20 25 11) + (o20 25 14)) = 0 then 2 else 0)
def f_X7_tick_k405_6 (o20 : St) (b43 : Bool) (b45 : Int32) : St := f_X7_tick_k405_5 o20 b43 b45 (if ((o20 25 10) + (o20 25 13)) = 0 then 2 else 0)
def f_X7_tick_k348_2 (o20 : St) (b43 : Bool) : St := f_X7_tick_k405_6 o20 b43 (if ((o20 25 9) + (o20 25 12)) = 0 then 2 else 0)
def f_X7_tick_o304 (o20 : St) : St := f_X7_tick_k438_2 (if (o20 21 0) = 0 then (f_X7_tick_k348_2 o20 (if (f_X7_all (put o20 8 0 0) 0 9) = true then true else false)) else (put o20 8 0 0))
def f_X7_tick_o299 (o19 : St) : St := f_X7_tick_o304 (f_X7_act o19 1)
def f_X7_tick_o294 (o18 : St) : St := f_X7_tick_o299 (f_X7_act o18 0)
def f_X7_tick_o284 (o17 : St) : St := f_X7_tick_o294 (f_X7_feel o17)
def f_X7_tick_o284_2 (o16 : St) : St := f_X7_tick_o284 (f_X7_move o16 5 3 4)
def f_X7_tick_o284_3 (o15 : St) : St := f_X7_tick_o284_2 (f_X7_move o15 4 3 4)
def f_X7_tick_o263 (o14 : St) : St := f_X7_tick_o284_3 (f_X7_move o14 3 3 4)
def f_X7_tick_o263_2 (o13 : St) : St := f_X7_tick_o263 (f_X7_move o13 2 1 2)
def f_X7_tick_o263_3 (o12 : St) : St := f_X7_tick_o263_2 (f_X7_move o12 1 1 2)
def f_X7_tick_x199 (a11 : St) : St := f_X7_tick_o263_3 (f_X7_move a11 0 1 2)
def f_X7_tick_o243 (o62 : St) : St := o62
def f_X7_tick_k243 (i10 : Nat) (a11 : St) (b61 : Bool) : St := f_X7_tick_o243 (f_X7_press a11 i10 b61)
def f_X7_tick_t199 (u : St) (b6 : Bool) (i10 : Nat) (a11 : St) : St := f_X7_tick_k243 i10 a11 (if b6 = true then (if (a11 11 i10) = 2 then true else (if (a11 11 i10) = 0 then (if (((f_X7_ordered u) >>> ((nI i10) &&& 31)) &&& 1) = 1 then true else false) else false)) else false)
def f_X7_tick_o194 (u : St) (b6 : Bool) (o9 : St) : St := f_X7_tick_x199 (up (f_X7_tick_t199 u b6) 1 (5 - 1) o9)
def f_X7_tick_k194 (u : St) (b4 : St) (b6 : Bool) (b8 : Bool) : St := f_X7_tick_o194 u b6 (f_X7_press b4 0 b8)
def f_X7_tick_k151 (u : St) (b4 : St) (b6 : Bool) : St := f_X7_tick_k194 u b4 b6 (if (b4 11 0) = 2 then true else (if (b4 11 0) = 0 then (if ((f_X7_ordered u) &&& 1) = 1 then (if (b4 2 0) = 24 then true else false) else false) else false))
def f_X7_tick_k134 (u : St) (b4 : St) : St := f_X7_tick_k151 u b4 (if (b4 10 0) = 360 then true else false)
def f_X7_tick_k82 (u : St) (b2 : Bool) (b75 : Int32) : St := put (put (put u 9 0 (b2i b2)) 6 0 ((u 6 0) + 1)) 2 0 b75
def f_X7_tick_k131 (u : St) (b2 : Bool) (b79 : Int32) : St := put (put (put u 9 0 (b2i b2)) 6 0 ((u 6 0) + 1)) 2 0 b79
def f_X7_tick_k36 (u : St) (b2 : Bool) : St := f_X7_tick_k134 u (if (u 4 0) = 0 then (if (u 3 0) = 0 then (f_X7_tick_k82 u b2 (if (u 2 0) < 2 then 0 else ((u 2 0) - 2))) else (if (u 2 0) = 24 then (put (put (put u 9 0 (b2i b2)) 6 0 ((u 6 0) + 1)) 3 0 ((u 3 0) - 1)) else (f_X7_tick_k131 u b2 (if 21 < (u 2 0) then 24 else ((u 2 0) + 3))))) else (put (put u 9 0 (b2i b2)) 6 0 ((u 6 0) + 1)))
def f_X7_tick (u : St) : St := f_X7_tick_k36 u (if (u 9 0) = 0 then (if ((f_X7_ordered u) &&& 6) = 6 then true else (if ((f_X7_ordered u) &&& 24) = 24 then true else false)) else true)
theorem hd_X7_tick : yX7_tick.cls ≠ "java/lang/invoke/MethodHandle" ∧ yX7_tick.cls ≠ "java/lang/invoke/VarHandle" ∧ (parseMethodDescriptor yX7_tick.desc).map (fun d => d.parameters.length) = some 0 := by decide +kernel
set_option maxHeartbeats 4000000 in
set_option maxRecDepth 100000 in
theorem c_X7_tick (l : Launch) (D : va_G) (cI cZ cO : ClassId) (q : Nat → Nat) (u : St) (hy0 : LB 4 u) : CTv l D (T3 cI cZ cO) yX7_tick (Cond.code yX7_tick cX7_tick 5 none :: WA) ({ frames := 4, cells := 0, slots := 0, locals := 92 } : Room) [.ref (q 0)] (wX7 cI cZ cO q u) (wX7 cI cZ cO q (f_X7_tick u)) := by
  refine ct_v (K := fun z => z) (t := f_X7_tick u) (wf := fun o => wX7 cI cZ cO q o) (own := RX7) (nm := "tick") (L0 := [(0, .ref (q 0))]) (plainFor_of_name (by decide +kernel)) rfl rfl (Nat.le_of_ble_eq_true rfl) rfl ?_
  intro p e s m args below meth c A C
  unfold f_X7_tick
  refine x_aload_n C dX7_tick_0 0 rfl ?_
  refine x_cViW (q0 := 0) (As := []) C mw_424 mw_425 mw_426 mw_337 mw_384 hd_X7_ordered rfl rfl ⟨Nat.le_of_ble_eq_true rfl, Nat.le_of_ble_eq_true rfl⟩ rfl rfl rfl (c_X7_ordered l D cI cZ cO q u ) rfl rfl (Nat.le_of_ble_eq_true rfl) (Nat.le_of_ble_eq_true rfl) (Nat.le_of_ble_eq_true rfl) dX7_tick_1 ?_
  refine x_istore_n (L' := [(1, .int (f_X7_ordered u)), (0, .ref (q 0))]) C dX7_tick_4 (by decide) rfl ?_
  refine x_aload_n C dX7_tick_5 1 rfl ?_
  refine x_aload_n C dX7_tick_6 1 rfl ?_
  refine x_get (v := .int (u 9 0)) C hwsX70 9 mw_423 0 rfl rfl (by decide) rfl rfl dX7_tick_7 ?_
  refine x_joinI (fun (b2 : Bool) => f_X7_tick_k36 u b2) (fun (b2 : Bool) => LB 4 u) 36 (fun (b2 : Bool) => [(0, .ref (q 0)), (1, .int (f_X7_ordered u))]) (fun (b2 : Bool) => [.int (b2i b2), .ref (q 0)]) (fun (b2 : Bool) => wX7 cI cZ cO q u) (fun b2 hIb2 => ?_) _ (fun J81 => ?_)
  · unfold f_X7_tick_k36
    refine x_put (ws' := wX7 cI cZ cO q (put u 9 0 (b2i b2))) C hwsX70 tyX7 tyX7_ok nmX7 9 mw_423 0 rfl rfl (by decide) rfl rfl (nz_b _) (nf_b _) (Nat.le_of_ble_eq_true rfl) dX7_tick_36 rfl ?_
    refine x_aload_n C dX7_tick_39 0 rfl ?_
    refine x_dup C dX7_tick_40 rfl ?_
    refine x_get (v := .int (u 6 0)) C hwsX70 6 mw_390 0 rfl rfl (by decide) rfl rfl dX7_tick_41 ?_
    refine x_iconst C 1 dX7_tick_44 (by decide) ?_
    refine x_iadd C dX7_tick_45 ?_
    refine x_put (ws' := wX7 cI cZ cO q (put (put u 9 0 (b2i b2)) 6 0 ((u 6 0) + 1))) C hwsX70 tyX7 tyX7_ok nmX7 6 mw_390 0 rfl rfl (by decide) rfl rfl rfl rfl (Nat.le_of_ble_eq_true rfl) dX7_tick_46 rfl ?_
    refine x_aload_n C dX7_tick_49 0 rfl ?_
    refine x_get (v := .int (u 4 0)) C hwsX70 4 mw_374 0 rfl rfl (by decide) rfl rfl dX7_tick_50 ?_
    refine x_joinI (fun (b4 : St) => f_X7_tick_k134 u b4) (fun (b4 : St) => LB 4 b4) 134 (fun (b4 : St) => [(0, .ref (q 0)), (1, .int (f_X7_ordered u))]) (fun (b4 : St) => []) (fun (b4 : St) => wX7 cI cZ cO q b4) (fun b4 hIb4 => ?_) _ (fun J72 => ?_)
    · unfold f_X7_tick_k134
      refine x_aload_n C dX7_tick_134 0 rfl ?_
      refine x_get (v := .ref (q 1)) C hwsX70 10 mw_328 0 rfl rfl (by decide) rfl rfl dX7_tick_135 ?_
      refine x_iconst C 0 dX7_tick_138 (by decide) ?_
      refine x_iald C 1 0 rfl rfl 0 rfl (by omega) (by decide) (b4 10 0) rfl dX7_tick_139 ?_
      refine x_sipush C 360 dX7_tick_140 (by decide) ?_
      refine x_joinI (fun (b6 : Bool) => f_X7_tick_k151 u b4 b6) (fun (b6 : Bool) => LB 4 b4) 151 (fun (b6 : Bool) => [(0, .ref (q 0)), (1, .int (f_X7_ordered u))]) (fun (b6 : Bool) => [.int (b2i b6)]) (fun (b6 : Bool) => wX7 cI cZ cO q b4) (fun b6 hIb6 => ?_) _ (fun J71 => ?_)
      · unfold f_X7_tick_k151
        refine x_istore_n (L' := [(2, .int (b2i b6)), (0, .ref (q 0)), (1, .int (f_X7_ordered u))]) C dX7_tick_151 (by decide) rfl ?_
        refine x_aload_n C dX7_tick_152 1 rfl ?_
        refine x_iconst C 0 dX7_tick_153 (by decide) ?_
        refine x_aload_n C dX7_tick_154 1 rfl ?_
        refine x_get (v := .ref (q 2)) C hwsX70 11 mw_340 0 rfl rfl (by decide) rfl rfl dX7_tick_155 ?_
        refine x_iconst C 0 dX7_tick_158 (by decide) ?_
        refine x_iald C 2 0 rfl rfl 0 rfl (by omega) (by decide) (b4 11 0) rfl dX7_tick_159 ?_
        refine x_iconst C 2 dX7_tick_160 (by decide) ?_
        refine x_joinI (fun (b8 : Bool) => f_X7_tick_k194 u b4 b6 b8) (fun (b8 : Bool) => LB 4 b4) 194 (fun (b8 : Bool) => [(0, .ref (q 0)), (1, .int (f_X7_ordered u)), (2, .int (b2i b6))]) (fun (b8 : Bool) => [.int (b2i b8), .int 0, .ref (q 0)]) (fun (b8 : Bool) => wX7 cI cZ cO q b4) (fun b8 hIb8 => ?_) _ (fun J67 => ?_)
        · unfold f_X7_tick_k194
          refine x_cVvW (q0 := 0) (As := [.int 0, .int (b2i b8)]) C mw_427 mw_428 mw_429 mw_337 mw_420 hd_X7_press rfl rfl ⟨Nat.le_of_ble_eq_true rfl, Nat.le_of_ble_eq_true rfl⟩ rfl rfl rfl (c_X7_press l D cI cZ cO q b4 0 b8 (by omega)) rfl rfl (Nat.le_of_ble_eq_true rfl) (Nat.le_of_ble_eq_true rfl) (Nat.le_of_ble_eq_true rfl) dX7_tick_194 ?_
          unfold f_X7_tick_o194
          have hAo9 : LB 4 (f_X7_press b4 0 b8) := LB_press (by (repeat (with_reducible refine LB_put ?_ ?_; decide)); first | with_reducible assumption | exact LB_lo (by with_reducible assumption) (by first | decide | omega))
          generalize f_X7_press b4 0 b8 = o9 at hAo9 ⊢
          refine x_iconst C 1 dX7_tick_197 (by decide) ?_
          refine x_istore_n (L' := [(3, .int 1), (0, .ref (q 0)), (1, .int (f_X7_ordered u)), (2, .int (b2i b6))]) C dX7_tick_198 (by decide) rfl ?_
          refine x_lsub (L' := [(0, .ref (q 0)), (1, .int (f_X7_ordered u)), (2, .int (b2i b6)), (3, .int 1)]) [1, 2, 3, 0] rfl ?_
          refine x_loopI (f_X7_tick_t199 u b6) (fun (a11 : St) => f_X7_tick_x199 a11) (fun (i10 : Nat) (a11 : St) => LB 4 a11) 5 199 (fun (i10 : Nat) (a11 : St) => [(0, .ref (q 0)), (1, .int (f_X7_ordered u)), (2, .int (b2i b6)), (3, .int (nI i10))]) (fun (i10 : Nat) (a11 : St) => []) (fun (i10 : Nat) (a11 : St) => wX7 cI cZ cO q a11) (fun a11 hIa11 => ?_) (fun i10 a11 K59 hk57 hIa11 ih58 => ?_) (5 - 1) 1 o9 (by omega) (by (repeat (with_reducible refine LB_put ?_ ?_; decide)); (try first | with_reducible refine LB_press ?_ | with_reducible refine LB_move ?_ | with_reducible refine LB_feel ?_ | with_reducible refine LB_act ?_); (repeat (with_reducible refine LB_put ?_ ?_; decide)); first | with_reducible assumption | exact LB_lo (by with_reducible assumption) (by first | decide | omega))
          · unfold f_X7_tick_x199
            refine x_iload_n C dX7_tick_199 3 rfl ?_
            refine x_iconst C 5 dX7_tick_200 (by decide) ?_
            refine x_icmp_ge_t C 252 dX7_tick_201 (by decide) (by decide) ?_
            refine x_iconst C 0 dX7_tick_252 (by decide) ?_
            refine x_istore_n (L' := [(3, .int 0), (0, .ref (q 0)), (1, .int (f_X7_ordered u)), (2, .int (b2i b6))]) C dX7_tick_253 (by decide) rfl ?_
            refine x_iload_n C dX7_tick_254 0 rfl ?_
            refine x_iconst C 3 dX7_tick_255 (by decide) ?_
            refine x_icmp_ge_f C 272 dX7_tick_256 (by decide) (by decide) ?_
            refine x_aload_n C dX7_tick_259 1 rfl ?_
            refine x_iload_n C dX7_tick_260 0 rfl ?_
            refine x_iconst C 1 dX7_tick_261 (by decide) ?_
            refine x_iconst C 2 dX7_tick_262 (by decide) ?_
            refine x_cVvW (q0 := 0) (As := [.int 0, .int 1, .int 2]) C mw_430 mw_431 mw_432 mw_337 mw_421 hd_X7_move rfl rfl ⟨Nat.le_of_ble_eq_true rfl, Nat.le_of_ble_eq_true rfl⟩ rfl rfl rfl (c_X7_move l D cI cZ cO q a11 0 1 2 (by omega) (by omega) (by omega)) rfl rfl (Nat.le_of_ble_eq_true rfl) (Nat.le_of_ble_eq_true rfl) (Nat.le_of_ble_eq_true rfl) dX7_tick_263 ?_
            unfold f_X7_tick_o263_3
            have hAo12 : LB 4 (f_X7_move a11 0 1 2) := LB_move (by (repeat (with_reducible refine LB_put ?_ ?_; decide)); first | with_reducible assumption | exact LB_lo (by with_reducible assumption) (by first | decide | omega))
            generalize f_X7_move a11 0 1 2 = o12 at hAo12 ⊢
            refine x_lsub (L' := [(0, .ref (q 0)), (1, .int (f_X7_ordered u)), (2, .int (b2i b6)), (3, .int 0)]) [1, 2, 3, 0] rfl ?_
            refine x_iinc (L' := [(3, .int 1), (0, .ref (q 0)), (1, .int (f_X7_ordered u)), (2, .int (b2i b6))]) C 1 dX7_tick_266 3 rfl (by decide) (by decide) rfl ?_
            refine x_goto C 254 dX7_tick_269 (by decide) ?_
            refine x_iload_n C dX7_tick_254 0 rfl ?_
            refine x_iconst C 3 dX7_tick_255 (by decide) ?_
            refine x_icmp_ge_f C 272 dX7_tick_256 (by decide) (by decide) ?_
            refine x_aload_n C dX7_tick_259 1 rfl ?_
            refine x_iload_n C dX7_tick_260 0 rfl ?_
            refine x_iconst C 1 dX7_tick_261 (by decide) ?_
            refine x_iconst C 2 dX7_tick_262 (by decide) ?_
            refine x_cVvW (q0 := 0) (As := [.int 1, .int 1, .int 2]) C mw_430 mw_431 mw_432 mw_337 mw_421 hd_X7_move rfl rfl ⟨Nat.le_of_ble_eq_true rfl, Nat.le_of_ble_eq_true rfl⟩ rfl rfl rfl (c_X7_move l D cI cZ cO q o12 1 1 2 (by omega) (by omega) (by omega)) rfl rfl (Nat.le_of_ble_eq_true rfl) (Nat.le_of_ble_eq_true rfl) (Nat.le_of_ble_eq_true rfl) dX7_tick_263 ?_
            unfold f_X7_tick_o263_2
            have hAo13 : LB 4 (f_X7_move o12 1 1 2) := LB_move (by (repeat (with_reducible refine LB_put ?_ ?_; decide)); first | with_reducible assumption | exact LB_lo (by with_reducible assumption) (by first | decide | omega))
            generalize f_X7_move o12 1 1 2 = o13 at hAo13 ⊢
            refine x_lsub (L' := [(0, .ref (q 0)), (1, .int (f_X7_ordered u)), (2, .int (b2i b6)), (3, .int 1)]) [1, 2, 3, 0] rfl ?_
            refine x_iinc (L' := [(3, .int 2), (0, .ref (q 0)), (1, .int (f_X7_ordered u)), (2, .int (b2i b6))]) C 2 dX7_tick_266 3 rfl (by decide) (by decide) rfl ?_
            refine x_goto C 254 dX7_tick_269 (by decide) ?_
            refine x_iload_n C dX7_tick_254 0 rfl ?_
            refine x_iconst C 3 dX7_tick_255 (by decide) ?_
            refine x_icmp_ge_f C 272 dX7_tick_256 (by decide) (by decide) ?_
            refine x_aload_n C dX7_tick_259 1 rfl ?_
            refine x_iload_n C dX7_tick_260 0 rfl ?_
            refine x_iconst C 1 dX7_tick_261 (by decide) ?_
            refine x_iconst C 2 dX7_tick_262 (by decide) ?_
            refine x_cVvW (q0 := 0) (As := [.int 2, .int 1, .int 2]) C mw_430 mw_431 mw_432 mw_337 mw_421 hd_X7_move rfl rfl ⟨Nat.le_of_ble_eq_true rfl, Nat.le_of_ble_eq_true rfl⟩ rfl rfl rfl (c_X7_move l D cI cZ cO q o13 2 1 2 (by omega) (by omega) (by omega)) rfl rfl (Nat.le_of_ble_eq_true rfl) (Nat.le_of_ble_eq_true rfl) (Nat.le_of_ble_eq_true rfl) dX7_tick_263 ?_
            unfold f_X7_tick_o263
            have hAo14 : LB 4 (f_X7_move o13 2 1 2) := LB_move (by (repeat (with_reducible refine LB_put ?_ ?_; decide)); first | with_reducible assumption | exact LB_lo (by with_reducible assumption) (by first | decide | omega))
            generalize f_X7_move o13 2 1 2 = o14 at hAo14 ⊢
            refine x_lsub (L' := [(0, .ref (q 0)), (1, .int (f_X7_ordered u)), (2, .int (b2i b6)), (3, .int 2)]) [1, 2, 3, 0] rfl ?_
            refine x_iinc (L' := [(3, .int 3), (0, .ref (q 0)), (1, .int (f_X7_ordered u)), (2, .int (b2i b6))]) C 3 dX7_tick_266 3 rfl (by decide) (by decide) rfl ?_
            refine x_goto C 254 dX7_tick_269 (by decide) ?_
            refine x_iload_n C dX7_tick_254 0 rfl ?_
            refine x_iconst C 3 dX7_tick_255 (by decide) ?_
            refine x_icmp_ge_t C 272 dX7_tick_256 (by decide) (by decide) ?_
            refine x_iconst C 3 dX7_tick_272 (by decide) ?_
            refine x_istore_n (L' := [(3, .int 3), (0, .ref (q 0)), (1, .int (f_X7_ordered u)), (2, .int (b2i b6))]) C dX7_tick_273 (by decide) rfl ?_
            refine x_iload_n C dX7_tick_274 0 rfl ?_
            refine x_bipush C 6 dX7_tick_275 (by decide) ?_
            refine x_icmp_ge_f C 293 dX7_tick_277 (by decide) (by decide) ?_
            refine x_aload_n C dX7_tick_280 1 rfl ?_
            refine x_iload_n C dX7_tick_281 0 rfl ?_
            refine x_iconst C 3 dX7_tick_282 (by decide) ?_
            refine x_iconst C 4 dX7_tick_283 (by decide) ?_
            refine x_cVvW (q0 := 0) (As := [.int 3, .int 3, .int 4]) C mw_430 mw_431 mw_432 mw_337 mw_421 hd_X7_move rfl rfl ⟨Nat.le_of_ble_eq_true rfl, Nat.le_of_ble_eq_true rfl⟩ rfl rfl rfl (c_X7_move l D cI cZ cO q o14 3 3 4 (by omega) (by omega) (by omega)) rfl rfl (Nat.le_of_ble_eq_true rfl) (Nat.le_of_ble_eq_true rfl) (Nat.le_of_ble_eq_true rfl) dX7_tick_284 ?_
            unfold f_X7_tick_o284_3
            have hAo15 : LB 4 (f_X7_move o14 3 3 4) := LB_move (by (repeat (with_reducible refine LB_put ?_ ?_; decide)); first | with_reducible assumption | exact LB_lo (by with_reducible assumption) (by first | decide | omega))
            generalize f_X7_move o14 3 3 4 = o15 at hAo15 ⊢
            refine x_lsub (L' := [(0, .ref (q 0)), (1, .int (f_X7_ordered u)), (2, .int (b2i b6)), (3, .int 3)]) [1, 2, 3, 0] rfl ?_
            refine x_iinc (L' := [(3, .int 4), (0, .ref (q 0)), (1, .int (f_X7_ordered u)), (2, .int (b2i b6))]) C 4 dX7_tick_287 3 rfl (by decide) (by decide) rfl ?_
            refine x_goto C 274 dX7_tick_290 (by decide) ?_
            refine x_iload_n C dX7_tick_274 0 rfl ?_
            refine x_bipush C 6 dX7_tick_275 (by decide) ?_
            refine x_icmp_ge_f C 293 dX7_tick_277 (by decide) (by decide) ?_
            refine x_aload_n C dX7_tick_280 1 rfl ?_
            refine x_iload_n C dX7_tick_281 0 rfl ?_
            refine x_iconst C 3 dX7_tick_282 (by decide) ?_
            refine x_iconst C 4 dX7_tick_283 (by decide) ?_
            refine x_cVvW (q0 := 0) (As := [.int 4, .int 3, .int 4]) C mw_430 mw_431 mw_432 mw_337 mw_421 hd_X7_move rfl rfl ⟨Nat.le_of_ble_eq_true rfl, Nat.le_of_ble_eq_true rfl⟩ rfl rfl rfl (c_X7_move l D cI cZ cO q o15 4 3 4 (by omega) (by omega) (by omega)) rfl rfl (Nat.le_of_ble_eq_true rfl) (Nat.le_of_ble_eq_true rfl) (Nat.le_of_ble_eq_true rfl) dX7_tick_284 ?_
            unfold f_X7_tick_o284_2
            have hAo16 : LB 4 (f_X7_move o15 4 3 4) := LB_move (by (repeat (with_reducible refine LB_put ?_ ?_; decide)); first | with_reducible assumption | exact LB_lo (by with_reducible assumption) (by first | decide | omega))
            generalize f_X7_move o15 4 3 4 = o16 at hAo16 ⊢
            refine x_lsub (L' := [(0, .ref (q 0)), (1, .int (f_X7_ordered u)), (2, .int (b2i b6)), (3, .int 4)]) [1, 2, 3, 0] rfl ?_
            refine x_iinc (L' := [(3, .int 5), (0, .ref (q 0)), (1, .int (f_X7_ordered u)), (2, .int (b2i b6))]) C 5 dX7_tick_287 3 rfl (by decide) (by decide) rfl ?_
            refine x_goto C 274 dX7_tick_290 (by decide) ?_
            refine x_iload_n C dX7_tick_274 0 rfl ?_
            refine x_bipush C 6 dX7_tick_275 (by decide) ?_
            refine x_icmp_ge_f C 293 dX7_tick_277 (by decide) (by decide) ?_
            refine x_aload_n C dX7_tick_280 1 rfl ?_
            refine x_iload_n C dX7_tick_281 0 rfl ?_
            refine x_iconst C 3 dX7_tick_282 (by decide) ?_
            refine x_iconst C 4 dX7_tick_283 (by decide) ?_
            refine x_cVvW (q0 := 0) (As := [.int 5, .int 3, .int 4]) C mw_430 mw_431 mw_432 mw_337 mw_421 hd_X7_move rfl rfl ⟨Nat.le_of_ble_eq_true rfl, Nat.le_of_ble_eq_true rfl⟩ rfl rfl rfl (c_X7_move l D cI cZ cO q o16 5 3 4 (by omega) (by omega) (by omega)) rfl rfl (Nat.le_of_ble_eq_true rfl) (Nat.le_of_ble_eq_true rfl) (Nat.le_of_ble_eq_true rfl) dX7_tick_284 ?_
            unfold f_X7_tick_o284
            have hAo17 : LB 4 (f_X7_move o16 5 3 4) := LB_move (by (repeat (with_reducible refine LB_put ?_ ?_; decide)); first | with_reducible assumption | exact LB_lo (by with_reducible assumption) (by first | decide | omega))
            generalize f_X7_move o16 5 3 4 = o17 at hAo17 ⊢
            refine x_lsub (L' := [(0, .ref (q 0)), (1, .int (f_X7_ordered u)), (2, .int (b2i b6)), (3, .int 5)]) [1, 2, 3, 0] rfl ?_
            refine x_iinc (L' := [(3, .int 6), (0, .ref (q 0)), (1, .int (f_X7_ordered u)), (2, .int (b2i b6))]) C 6 dX7_tick_287 3 rfl (by decide) (by decide) rfl ?_
            refine x_goto C 274 dX7_tick_290 (by decide) ?_
            refine x_iload_n C dX7_tick_274 0 rfl ?_
            refine x_bipush C 6 dX7_tick_275 (by decide) ?_
            refine x_icmp_ge_t C 293 dX7_tick_277 (by decide) (by decide) ?_
            refine x_aload_n C dX7_tick_293 1 rfl ?_
            refine x_cVvW (q0 := 0) (As := []) C mw_359 mw_360 mw_361 mw_337 mw_332 hd_X7_feel rfl rfl ⟨Nat.le_of_ble_eq_true rfl, Nat.le_of_ble_eq_true rfl⟩ rfl rfl rfl (c_X7_feel l D cI cZ cO q o17 ) rfl rfl (Nat.le_of_ble_eq_true rfl) (Nat.le_of_ble_eq_true rfl) (Nat.le_of_ble_eq_true rfl) dX7_tick_294 ?_
            unfold f_X7_tick_o294
            have hAo18 : LB 4 (f_X7_feel o17) := LB_feel (by (repeat (with_reducible refine LB_put ?_ ?_; decide)); first | with_reducible assumption | exact LB_lo (by with_reducible assumption) (by first | decide | omega))
            generalize f_X7_feel o17 = o18 at hAo18 ⊢
            refine x_lsub (L' := [(0, .ref (q 0)), (1, .int (f_X7_ordered u)), (2, .int (b2i b6)), (3, .int 6)]) [1, 2, 3, 0] rfl ?_
            refine x_aload_n C dX7_tick_297 0 rfl ?_
            refine x_iconst C 0 dX7_tick_298 (by decide) ?_
            refine x_cVvW (q0 := 0) (As := [.int 0]) C mw_433 mw_434 mw_435 mw_337 mw_419 hd_X7_act rfl rfl ⟨Nat.le_of_ble_eq_true rfl, Nat.le_of_ble_eq_true rfl⟩ rfl rfl rfl (c_X7_act l D cI cZ cO q o18 0 (by omega) (by (repeat (with_reducible refine LB_put ?_ ?_; decide)); (try first | with_reducible refine LB_press ?_ | with_reducible refine LB_move ?_ | with_reducible refine LB_feel ?_ | with_reducible refine LB_act ?_); (repeat (with_reducible refine LB_put ?_ ?_; decide)); first | with_reducible assumption | exact LB_lo (by with_reducible assumption) (by first | decide | omega))) rfl rfl (Nat.le_of_ble_eq_true rfl) (Nat.le_of_ble_eq_true rfl) (Nat.le_of_ble_eq_true rfl) dX7_tick_299 ?_
            unfold f_X7_tick_o299
            have hAo19 : LB 2 (f_X7_act o18 0) := LB_act (by (repeat (with_reducible refine LB_put ?_ ?_; decide)); first | with_reducible assumption | exact LB_lo (by with_reducible assumption) (by first | decide | omega))
            generalize f_X7_act o18 0 = o19 at hAo19 ⊢
            refine x_aload_n C dX7_tick_302 0 rfl ?_
            refine x_iconst C 1 dX7_tick_303 (by decide) ?_
            refine x_cVvW (q0 := 0) (As := [.int 1]) C mw_433 mw_434 mw_435 mw_337 mw_419 hd_X7_act rfl rfl ⟨Nat.le_of_ble_eq_true rfl, Nat.le_of_ble_eq_true rfl⟩ rfl rfl rfl (c_X7_act l D cI cZ cO q o19 1 (by omega) (by (repeat (with_reducible refine LB_put ?_ ?_; decide)); (try first | with_reducible refine LB_press ?_ | with_reducible refine LB_move ?_ | with_reducible refine LB_feel ?_ | with_reducible refine LB_act ?_); (repeat (with_reducible refine LB_put ?_ ?_; decide)); first | with_reducible assumption | exact LB_lo (by with_reducible assumption) (by first | decide | omega))) rfl rfl (Nat.le_of_ble_eq_true rfl) (Nat.le_of_ble_eq_true rfl) (Nat.le_of_ble_eq_true rfl) dX7_tick_304 ?_
            unfold f_X7_tick_o304
            have hAo20 : LB 0 (f_X7_act o19 1) := LB_act (by (repeat (with_reducible refine LB_put ?_ ?_; decide)); first | with_reducible assumption | exact LB_lo (by with_reducible assumption) (by first | decide | omega))
            generalize f_X7_act o19 1 = o20 at hAo20 ⊢
            refine x_aload_n C dX7_tick_307 0 rfl ?_
            refine x_iconst C 0 dX7_tick_308 (by decide) ?_
            refine x_put (ws' := wX7 cI cZ cO q (put o20 8 0 0)) C hwsX70 tyX7 tyX7_ok nmX7 8 mw_339 0 rfl rfl (by decide) rfl rfl rfl rfl (Nat.le_of_ble_eq_true rfl) dX7_tick_309 rfl ?_
            refine x_iconst C 0 dX7_tick_312 (by decide) ?_
            refine x_istore_n (L' := [(3, .int 0), (0, .ref (q 0)), (1, .int (f_X7_ordered u)), (2, .int (b2i b6))]) C dX7_tick_313 (by decide) rfl ?_
            refine x_iload_n C dX7_tick_314 0 rfl ?_
            refine x_iconst C 2 dX7_tick_315 (by decide) ?_
            refine x_icmp_ge_f C 444 dX7_tick_316 (by decide) (by decide) ?_
            refine x_aload_n C dX7_tick_319 1 rfl ?_
            refine x_get (v := .ref (q 12)) C hwsX70 21 mw_349 0 rfl rfl (by decide) rfl rfl dX7_tick_320 ?_
            refine x_iload_n C dX7_tick_323 0 rfl ?_
            refine x_iald C 12 0 rfl rfl 0 rfl (by omega) (by decide) (o20 21 0) rfl dX7_tick_324 ?_
            refine x_join (fun (b22 : St) => f_X7_tick_k438_2 b22) 438 (fun (b22 : St) => [(0, .ref (q 0)), (1, .int (f_X7_ordered u)), (2, .int (b2i b6)), (3, .int 0)]) (fun (b22 : St) => []) (fun (b22 : St) => wX7 cI cZ cO q b22) (fun b22 => ?_) _ (fun J41 => ?_)
            · unfold f_X7_tick_k438_2
              refine x_iinc (L' := [(3, .int 1), (0, .ref (q 0)), (1, .int (f_X7_ordered u)), (2, .int (b2i b6))]) C 1 dX7_tick_438 3 rfl (by decide) (by decide) rfl ?_
              refine x_goto C 314 dX7_tick_441 (by decide) ?_
              refine x_iload_n C dX7_tick_314 0 rfl ?_
              refine x_iconst C 2 dX7_tick_315 (by decide) ?_
              refine x_icmp_ge_f C 444 dX7_tick_316 (by decide) (by decide) ?_
              refine x_aload_n C dX7_tick_319 1 rfl ?_
              refine x_get (v := .ref (q 12)) C hwsX70 21 mw_349 0 rfl rfl (by decide) rfl rfl dX7_tick_320 ?_
              refine x_iload_n C dX7_tick_323 0 rfl ?_
              refine x_iald C 12 0 rfl rfl 1 rfl (by omega) (by decide) (b22 21 1) rfl dX7_tick_324 ?_
              refine x_join (fun (b24 : St) => f_X7_tick_k438 b24) 438 (fun (b24 : St) => [(0, .ref (q 0)), (1, .int (f_X7_ordered u)), (2, .int (b2i b6)), (3, .int 1)]) (fun (b24 : St) => []) (fun (b24 : St) => wX7 cI cZ cO q b24) (fun b24 => ?_) _ (fun J25 => ?_)
              · unfold f_X7_tick_k438
                refine x_iinc (L' := [(3, .int 2), (0, .ref (q 0)), (1, .int (f_X7_ordered u)), (2, .int (b2i b6))]) C 2 dX7_tick_438 3 rfl (by decide) (by decide) rfl ?_
                refine x_goto C 314 dX7_tick_441 (by decide) ?_
                refine x_iload_n C dX7_tick_314 0 rfl ?_
                refine x_iconst C 2 dX7_tick_315 (by decide) ?_
                refine x_icmp_ge_t C 444 dX7_tick_316 (by decide) (by decide) ?_
                exact x_vret C rfl dX7_tick_444 rfl
              · refine x_if_ne C 438 dX7_tick_325 (by decide) (fun c23 => ?_) (fun c23 => ?_)
                · refine x_aload_n C dX7_tick_328 1 rfl ?_
                  refine x_dup C dX7_tick_329 rfl ?_
                  refine x_get (v := .int (b22 8 0)) C hwsX70 8 mw_339 0 rfl rfl (by decide) rfl rfl dX7_tick_330 ?_
                  refine x_aload_n C dX7_tick_333 1 rfl ?_
                  refine x_iload_n C dX7_tick_334 0 rfl ?_
                  refine x_bipush C 9 dX7_tick_335 (by decide) ?_
                  refine x_cViW (q0 := 0) (As := [.int 1, .int 9]) C mw_399 mw_400 mw_401 mw_337 mw_381 hd_X7_all rfl rfl ⟨Nat.le_of_ble_eq_true rfl, Nat.le_of_ble_eq_true rfl⟩ rfl rfl rfl (c_X7_all l D cI cZ cO q b22 1 9 (by omega) (by omega)) rfl rfl (Nat.le_of_ble_eq_true rfl) (Nat.le_of_ble_eq_true rfl) (Nat.le_of_ble_eq_true rfl) dX7_tick_337 ?_
                  refine x_join (fun (b27 : Bool) => f_X7_tick_k348 b22 b27) 348 (fun (b27 : Bool) => [(0, .ref (q 0)), (1, .int (f_X7_ordered u)), (2, .int (b2i b6)), (3, .int 1)]) (fun (b27 : Bool) => [.int (b2i b27), .int (b22 8 0), .ref (q 0)]) (fun (b27 : Bool) => wX7 cI cZ cO q b22) (fun b27 => ?_) _ (fun J40 => ?_)
                  · unfold f_X7_tick_k348
                    refine x_ior C dX7_tick_348 ?_
                    refine x_put (ws' := wX7 cI cZ cO q (put b22 8 0 ((b22 8 0) ||| (b2i b27)))) C hwsX70 tyX7 tyX7_ok nmX7 8 mw_339 0 rfl rfl (by decide) rfl rfl rfl rfl (Nat.le_of_ble_eq_true rfl) dX7_tick_349 rfl ?_
                    refine x_iconst C 0 dX7_tick_352 (by decide) ?_
                    refine x_istore (L' := [(4, .int 0), (0, .ref (q 0)), (1, .int (f_X7_ordered u)), (2, .int (b2i b6)), (3, .int 1)]) C dX7_tick_353 (by decide) rfl ?_
                    refine x_iload C dX7_tick_355 0 rfl ?_
                    refine x_iconst C 3 dX7_tick_357 (by decide) ?_
                    refine x_icmp_ge_f C 415 dX7_tick_358 (by decide) (by decide) ?_
                    refine x_aload_n C dX7_tick_361 1 rfl ?_
                    refine x_dup C dX7_tick_362 rfl ?_
                    refine x_get (v := .int ((b22 8 0) ||| (b2i b27))) C hwsX70 8 mw_339 0 rfl rfl (by decide) rfl rfl dX7_tick_363 ?_
                    refine x_aload_n C dX7_tick_366 1 rfl ?_
                    refine x_get (v := .ref (q 16)) C hwsX70 25 mw_353 0 rfl rfl (by decide) rfl rfl dX7_tick_367 ?_
                    refine x_bipush C 18 dX7_tick_370 (by decide) ?_
                    refine x_iload_n C dX7_tick_372 4 rfl ?_
                    refine x_imul C dX7_tick_373 ?_
                    refine x_top 18 (by decide) ?_
                    refine x_bipush C 9 dX7_tick_374 (by decide) ?_
                    refine x_iadd C dX7_tick_376 ?_
                    refine x_top 27 (by decide) ?_
                    refine x_iload C dX7_tick_377 0 rfl ?_
                    refine x_iadd C dX7_tick_379 ?_
                    refine x_top 27 (by decide) ?_
                    refine x_iald C 16 0 rfl rfl 27 rfl (by omega) (by decide) (b22 25 27) rfl dX7_tick_380 ?_
                    refine x_aload_n C dX7_tick_381 1 rfl ?_
                    refine x_get (v := .ref (q 16)) C hwsX70 25 mw_353 0 rfl rfl (by decide) rfl rfl dX7_tick_382 ?_
                    refine x_bipush C 18 dX7_tick_385 (by decide) ?_
                    refine x_iload_n C dX7_tick_387 4 rfl ?_
                    refine x_imul C dX7_tick_388 ?_
                    refine x_top 18 (by decide) ?_
                    refine x_bipush C 12 dX7_tick_389 (by decide) ?_
                    refine x_iadd C dX7_tick_391 ?_
                    refine x_top 30 (by decide) ?_
                    refine x_iload C dX7_tick_392 0 rfl ?_
                    refine x_iadd C dX7_tick_394 ?_
                    refine x_top 30 (by decide) ?_
                    refine x_iald C 16 0 rfl rfl 30 rfl (by omega) (by decide) (b22 25 30) rfl dX7_tick_395 ?_
                    refine x_iadd C dX7_tick_396 ?_
                    refine x_join (fun (b29 : Int32) => f_X7_tick_k405_3 b22 b27 b29) 405 (fun (b29 : Int32) => [(0, .ref (q 0)), (1, .int (f_X7_ordered u)), (2, .int (b2i b6)), (3, .int 1), (4, .int 0)]) (fun (b29 : Int32) => [.int b29, .int ((b22 8 0) ||| (b2i b27)), .ref (q 0)]) (fun (b29 : Int32) => wX7 cI cZ cO q (put b22 8 0 ((b22 8 0) ||| (b2i b27)))) (fun b29 => ?_) _ (fun J39 => ?_)
                    · unfold f_X7_tick_k405_3
                      refine x_ior C dX7_tick_405 ?_
                      refine x_put (ws' := wX7 cI cZ cO q (put (put b22 8 0 ((b22 8 0) ||| (b2i b27))) 8 0 (((b22 8 0) ||| (b2i b27)) ||| b29))) C hwsX70 tyX7 tyX7_ok nmX7 8 mw_339 0 rfl rfl (by decide) rfl rfl rfl rfl (Nat.le_of_ble_eq_true rfl) dX7_tick_406 rfl ?_
                      refine x_iinc (L' := [(4, .int 1), (0, .ref (q 0)), (1, .int (f_X7_ordered u)), (2, .int (b2i b6)), (3, .int 1)]) C 1 dX7_tick_409 4 rfl (by decide) (by decide) rfl ?_
                      refine x_goto C 355 dX7_tick_412 (by decide) ?_
                      refine x_iload C dX7_tick_355 0 rfl ?_
                      refine x_iconst C 3 dX7_tick_357 (by decide) ?_
                      refine x_icmp_ge_f C 415 dX7_tick_358 (by decide) (by decide) ?_
                      refine x_aload_n C dX7_tick_361 1 rfl ?_
                      refine x_dup C dX7_tick_362 rfl ?_
                      refine x_get (v := .int (((b22 8 0) ||| (b2i b27)) ||| b29)) C hwsX70 8 mw_339 0 rfl rfl (by decide) rfl rfl dX7_tick_363 ?_
                      refine x_aload_n C dX7_tick_366 1 rfl ?_
                      refine x_get (v := .ref (q 16)) C hwsX70 25 mw_353 0 rfl rfl (by decide) rfl rfl dX7_tick_367 ?_
                      refine x_bipush C 18 dX7_tick_370 (by decide) ?_
                      refine x_iload_n C dX7_tick_372 4 rfl ?_
                      refine x_imul C dX7_tick_373 ?_
                      refine x_top 18 (by decide) ?_
                      refine x_bipush C 9 dX7_tick_374 (by decide) ?_
                      refine x_iadd C dX7_tick_376 ?_
                      refine x_top 27 (by decide) ?_
                      refine x_iload C dX7_tick_377 0 rfl ?_
                      refine x_iadd C dX7_tick_379 ?_
                      refine x_top 28 (by decide) ?_
                      refine x_iald C 16 0 rfl rfl 28 rfl (by omega) (by decide) (b22 25 28) rfl dX7_tick_380 ?_
                      refine x_aload_n C dX7_tick_381 1 rfl ?_
                      refine x_get (v := .ref (q 16)) C hwsX70 25 mw_353 0 rfl rfl (by decide) rfl rfl dX7_tick_382 ?_
                      refine x_bipush C 18 dX7_tick_385 (by decide) ?_
                      refine x_iload_n C dX7_tick_387 4 rfl ?_
                      refine x_imul C dX7_tick_388 ?_
                      refine x_top 18 (by decide) ?_
                      refine x_bipush C 12 dX7_tick_389 (by decide) ?_
                      refine x_iadd C dX7_tick_391 ?_
                      refine x_top 30 (by decide) ?_
                      refine x_iload C dX7_tick_392 0 rfl ?_
                      refine x_iadd C dX7_tick_394 ?_
                      refine x_top 31 (by decide) ?_
                      refine x_iald C 16 0 rfl rfl 31 rfl (by omega) (by decide) (b22 25 31) rfl dX7_tick_395 ?_
                      refine x_iadd C dX7_tick_396 ?_
                      refine x_join (fun (b31 : Int32) => f_X7_tick_k405_2 b22 b27 b29 b31) 405 (fun (b31 : Int32) => [(0, .ref (q 0)), (1, .int (f_X7_ordered u)), (2, .int (b2i b6)), (3, .int 1), (4, .int 1)]) (fun (b31 : Int32) => [.int b31, .int (((b22 8 0) ||| (b2i b27)) ||| b29), .ref (q 0)]) (fun (b31 : Int32) => wX7 cI cZ cO q (put (put b22 8 0 ((b22 8 0) ||| (b2i b27))) 8 0 (((b22 8 0) ||| (b2i b27)) ||| b29))) (fun b31 => ?_) _ (fun J38 => ?_)
                      · unfold f_X7_tick_k405_2
                        refine x_ior C dX7_tick_405 ?_
                        refine x_put (ws' := wX7 cI cZ cO q (put (put (put b22 8 0 ((b22 8 0) ||| (b2i b27))) 8 0 (((b22 8 0) ||| (b2i b27)) ||| b29)) 8 0 ((((b22 8 0) ||| (b2i b27)) ||| b29) ||| b31))) C hwsX70 tyX7 tyX7_ok nmX7 8 mw_339 0 rfl rfl (by decide) rfl rfl rfl rfl (Nat.le_of_ble_eq_true rfl) dX7_tick_406 rfl ?_
                        refine x_iinc (L' := [(4, .int 2), (0, .ref (q 0)), (1, .int (f_X7_ordered u)), (2, .int (b2i b6)), (3, .int 1)]) C 2 dX7_tick_409 4 rfl (by decide) (by decide) rfl ?_
                        refine x_goto C 355 dX7_tick_412 (by decide) ?_
                        refine x_iload C dX7_tick_355 0 rfl ?_
                        refine x_iconst C 3 dX7_tick_357 (by decide) ?_
                        refine x_icmp_ge_f C 415 dX7_tick_358 (by decide) (by decide) ?_
                        refine x_aload_n C dX7_tick_361 1 rfl ?_
                        refine x_dup C dX7_tick_362 rfl ?_
                        refine x_get (v := .int ((((b22 8 0) ||| (b2i b27)) ||| b29) ||| b31)) C hwsX70 8 mw_339 0 rfl rfl (by decide) rfl rfl dX7_tick_363 ?_
                        refine x_aload_n C dX7_tick_366 1 rfl ?_
                        refine x_get (v := .ref (q 16)) C hwsX70 25 mw_353 0 rfl rfl (by decide) rfl rfl dX7_tick_367 ?_
                        refine x_bipush C 18 dX7_tick_370 (by decide) ?_
                        refine x_iload_n C dX7_tick_372 4 rfl ?_
                        refine x_imul C dX7_tick_373 ?_
                        refine x_top 18 (by decide) ?_
                        refine x_bipush C 9 dX7_tick_374 (by decide) ?_
                        refine x_iadd C dX7_tick_376 ?_
                        refine x_top 27 (by decide) ?_
                        refine x_iload C dX7_tick_377 0 rfl ?_
                        refine x_iadd C dX7_tick_379 ?_
                        refine x_top 29 (by decide) ?_
                        refine x_iald C 16 0 rfl rfl 29 rfl (by omega) (by decide) (b22 25 29) rfl dX7_tick_380 ?_
                        refine x_aload_n C dX7_tick_381 1 rfl ?_
                        refine x_get (v := .ref (q 16)) C hwsX70 25 mw_353 0 rfl rfl (by decide) rfl rfl dX7_tick_382 ?_
                        refine x_bipush C 18 dX7_tick_385 (by decide) ?_
                        refine x_iload_n C dX7_tick_387 4 rfl ?_
                        refine x_imul C dX7_tick_388 ?_
                        refine x_top 18 (by decide) ?_
                        refine x_bipush C 12 dX7_tick_389 (by decide) ?_
                        refine x_iadd C dX7_tick_391 ?_
                        refine x_top 30 (by decide) ?_
                        refine x_iload C dX7_tick_392 0 rfl ?_
                        refine x_iadd C dX7_tick_394 ?_
                        refine x_top 32 (by decide) ?_
                        refine x_iald C 16 0 rfl rfl 32 rfl (by omega) (by decide) (b22 25 32) rfl dX7_tick_395 ?_
                        refine x_iadd C dX7_tick_396 ?_
                        refine x_join (fun (b33 : Int32) => f_X7_tick_k405 b22 b27 b29 b31 b33) 405 (fun (b33 : Int32) => [(0, .ref (q 0)), (1, .int (f_X7_ordered u)), (2, .int (b2i b6)), (3, .int 1), (4, .int 2)]) (fun (b33 : Int32) => [.int b33, .int ((((b22 8 0) ||| (b2i b27)) ||| b29) ||| b31), .ref (q 0)]) (fun (b33 : Int32) => wX7 cI cZ cO q (put (put (put b22 8 0 ((b22 8 0) ||| (b2i b27))) 8 0 (((b22 8 0) ||| (b2i b27)) ||| b29)) 8 0 ((((b22 8 0) ||| (b2i b27)) ||| b29) ||| b31))) (fun b33 => ?_) _ (fun J37 => ?_)
                        · unfold f_X7_tick_k405
                          refine x_ior C dX7_tick_405 ?_
                          refine x_put (ws' := wX7 cI cZ cO q (put (put (put (put b22 8 0 ((b22 8 0) ||| (b2i b27))) 8 0 (((b22 8 0) ||| (b2i b27)) ||| b29)) 8 0 ((((b22 8 0) ||| (b2i b27)) ||| b29) ||| b31)) 8 0 (((((b22 8 0) ||| (b2i b27)) ||| b29) ||| b31) ||| b33))) C hwsX70 tyX7 tyX7_ok nmX7 8 mw_339 0 rfl rfl (by decide) rfl rfl rfl rfl (Nat.le_of_ble_eq_true rfl) dX7_tick_406 rfl ?_
                          refine x_iinc (L' := [(4, .int 3), (0, .ref (q 0)), (1, .int (f_X7_ordered u)), (2, .int (b2i b6)), (3, .int 1)]) C 3 dX7_tick_409 4 rfl (by decide) (by decide) rfl ?_
                          refine x_goto C 355 dX7_tick_412 (by decide) ?_
                          refine x_iload C dX7_tick_355 0 rfl ?_
                          refine x_iconst C 3 dX7_tick_357 (by decide) ?_
                          refine x_icmp_ge_t C 415 dX7_tick_358 (by decide) (by decide) ?_
                          refine x_aload_n C dX7_tick_415 1 rfl ?_
                          refine x_dup C dX7_tick_416 rfl ?_
                          refine x_get (v := .int (((((b22 8 0) ||| (b2i b27)) ||| b29) ||| b31) ||| b33)) C hwsX70 8 mw_339 0 rfl rfl (by decide) rfl rfl dX7_tick_417 ?_
                          refine x_aload_n C dX7_tick_420 1 rfl ?_
                          refine x_get (v := .ref (q 10)) C hwsX70 19 mw_346 0 rfl rfl (by decide) rfl rfl dX7_tick_421 ?_
                          refine x_iload_n C dX7_tick_424 4 rfl ?_
                          refine x_iald C 10 0 rfl rfl 1 rfl (by omega) (by decide) (b22 19 1) rfl dX7_tick_425 ?_
                          refine x_join (fun (b35 : Int32) => f_X7_tick_k434 b22 b27 b29 b31 b33 b35) 434 (fun (b35 : Int32) => [(0, .ref (q 0)), (1, .int (f_X7_ordered u)), (2, .int (b2i b6)), (3, .int 1), (4, .int 3)]) (fun (b35 : Int32) => [.int b35, .int (((((b22 8 0) ||| (b2i b27)) ||| b29) ||| b31) ||| b33), .ref (q 0)]) (fun (b35 : Int32) => wX7 cI cZ cO q (put (put (put (put b22 8 0 ((b22 8 0) ||| (b2i b27))) 8 0 (((b22 8 0) ||| (b2i b27)) ||| b29)) 8 0 ((((b22 8 0) ||| (b2i b27)) ||| b29) ||| b31)) 8 0 (((((b22 8 0) ||| (b2i b27)) ||| b29) ||| b31) ||| b33))) (fun b35 => ?_) _ (fun J36 => ?_)
                          · unfold f_X7_tick_k434
                            refine x_ior C dX7_tick_434 ?_
                            refine x_put (ws' := wX7 cI cZ cO q (put (put (put (put (put b22 8 0 ((b22 8 0) ||| (b2i b27))) 8 0 (((b22 8 0) ||| (b2i b27)) ||| b29)) 8 0 ((((b22 8 0) ||| (b2i b27)) ||| b29) ||| b31)) 8 0 (((((b22 8 0) ||| (b2i b27)) ||| b29) ||| b31) ||| b33)) 8 0 ((((((b22 8 0) ||| (b2i b27)) ||| b29) ||| b31) ||| b33) ||| b35))) C hwsX70 tyX7 tyX7_ok nmX7 8 mw_339 0 rfl rfl (by decide) rfl rfl rfl rfl (Nat.le_of_ble_eq_true rfl) dX7_tick_435 rfl ?_
                            refine x_lsub (L' := [(0, .ref (q 0)), (1, .int (f_X7_ordered u)), (2, .int (b2i b6)), (3, .int 1)]) [0, 1, 2, 3] rfl ?_
                            exact J25 (put (put (put (put (put b22 8 0 ((b22 8 0) ||| (b2i b27))) 8 0 (((b22 8 0) ||| (b2i b27)) ||| b29)) 8 0 ((((b22 8 0) ||| (b2i b27)) ||| b29) ||| b31)) 8 0 (((((b22 8 0) ||| (b2i b27)) ||| b29) ||| b31) ||| b33)) 8 0 ((((((b22 8 0) ||| (b2i b27)) ||| b29) ||| b31) ||| b33) ||| b35))
                          · refine x_if_le C 433 dX7_tick_426 (by decide) (fun c34 => ?_) (fun c34 => ?_)
                            · refine x_iconst C 4 dX7_tick_429 (by decide) ?_
                              refine x_goto C 434 dX7_tick_430 (by decide) ?_
                              refine x_lsub (L' := [(0, .ref (q 0)), (1, .int (f_X7_ordered u)), (2, .int (b2i b6)), (3, .int 1), (4, .int 3)]) [1, 2, 3, 4, 0] rfl ?_
                              exact J36 4
                            · refine x_iconst C 0 dX7_tick_433 (by decide) ?_
                              refine x_lsub (L' := [(0, .ref (q 0)), (1, .int (f_X7_ordered u)), (2, .int (b2i b6)), (3, .int 1), (4, .int 3)]) [1, 2, 3, 4, 0] rfl ?_
                              exact J36 0
                        · refine x_if_ne C 404 dX7_tick_397 (by decide) (fun c32 => ?_) (fun c32 => ?_)
                          · refine x_iconst C 2 dX7_tick_400 (by decide) ?_
                            refine x_goto C 405 dX7_tick_401 (by decide) ?_
                            refine x_lsub (L' := [(0, .ref (q 0)), (1, .int (f_X7_ordered u)), (2, .int (b2i b6)), (3, .int 1), (4, .int 2)]) [1, 2, 3, 4, 0] rfl ?_
                            exact J37 2
                          · refine x_iconst C 0 dX7_tick_404 (by decide) ?_
                            refine x_lsub (L' := [(0, .ref (q 0)), (1, .int (f_X7_ordered u)), (2, .int (b2i b6)), (3, .int 1), (4, .int 2)]) [1, 2, 3, 4, 0] rfl ?_
                            exact J37 0
                      · refine x_if_ne C 404 dX7_tick_397 (by decide) (fun c30 => ?_) (fun c30 => ?_)
                        · refine x_iconst C 2 dX7_tick_400 (by decide) ?_
                          refine x_goto C 405 dX7_tick_401 (by decide) ?_
                          refine x_lsub (L' := [(0, .ref (q 0)), (1, .int (f_X7_ordered u)), (2, .int (b2i b6)), (3, .int 1), (4, .int 1)]) [1, 2, 3, 4, 0] rfl ?_
                          exact J38 2
                        · refine x_iconst C 0 dX7_tick_404 (by decide) ?_
                          refine x_lsub (L' := [(0, .ref (q 0)), (1, .int (f_X7_ordered u)), (2, .int (b2i b6)), (3, .int 1), (4, .int 1)]) [1, 2, 3, 4, 0] rfl ?_
                          exact J38 0
                    · refine x_if_ne C 404 dX7_tick_397 (by decide) (fun c28 => ?_) (fun c28 => ?_)
                      · refine x_iconst C 2 dX7_tick_400 (by decide) ?_
                        refine x_goto C 405 dX7_tick_401 (by decide) ?_
                        refine x_lsub (L' := [(0, .ref (q 0)), (1, .int (f_X7_ordered u)), (2, .int (b2i b6)), (3, .int 1), (4, .int 0)]) [1, 2, 3, 4, 0] rfl ?_
                        exact J39 2
                      · refine x_iconst C 0 dX7_tick_404 (by decide) ?_
                        refine x_lsub (L' := [(0, .ref (q 0)), (1, .int (f_X7_ordered u)), (2, .int (b2i b6)), (3, .int 1), (4, .int 0)]) [1, 2, 3, 4, 0] rfl ?_
                        exact J39 0
                  · refine x_if_eqZ C 347 dX7_tick_340 (by decide) (fun c26 => ?_) (fun c26 => ?_)
                    · refine x_iconst C 1 dX7_tick_343 (by decide) ?_
                      refine x_goto C 348 dX7_tick_344 (by decide) ?_
                      refine x_lsub (L' := [(0, .ref (q 0)), (1, .int (f_X7_ordered u)), (2, .int (b2i b6)), (3, .int 1)]) [1, 2, 3, 0] rfl ?_
                      exact J40 true
                    · refine x_iconst C 0 dX7_tick_347 (by decide) ?_
                      refine x_lsub (L' := [(0, .ref (q 0)), (1, .int (f_X7_ordered u)), (2, .int (b2i b6)), (3, .int 1)]) [1, 2, 3, 0] rfl ?_
                      exact J40 false
                · refine x_lsub (L' := [(0, .ref (q 0)), (1, .int (f_X7_ordered u)), (2, .int (b2i b6)), (3, .int 1)]) [1, 2, 3, 0] rfl ?_
                  exact J25 b22
            · refine x_if_ne C 438 dX7_tick_325 (by decide) (fun c21 => ?_) (fun c21 => ?_)
              · refine x_aload_n C dX7_tick_328 1 rfl ?_
                refine x_dup C dX7_tick_329 rfl ?_
                refine x_get (v := .int 0) C hwsX70 8 mw_339 0 rfl rfl (by decide) rfl rfl dX7_tick_330 ?_
                refine x_aload_n C dX7_tick_333 1 rfl ?_
                refine x_iload_n C dX7_tick_334 0 rfl ?_
                refine x_bipush C 9 dX7_tick_335 (by decide) ?_
                refine x_cViW (q0 := 0) (As := [.int 0, .int 9]) C mw_399 mw_400 mw_401 mw_337 mw_381 hd_X7_all rfl rfl ⟨Nat.le_of_ble_eq_true rfl, Nat.le_of_ble_eq_true rfl⟩ rfl rfl rfl (c_X7_all l D cI cZ cO q (put o20 8 0 0) 0 9 (by omega) (by omega)) rfl rfl (Nat.le_of_ble_eq_true rfl) (Nat.le_of_ble_eq_true rfl) (Nat.le_of_ble_eq_true rfl) dX7_tick_337 ?_
                refine x_join (fun (b43 : Bool) => f_X7_tick_k348_2 o20 b43) 348 (fun (b43 : Bool) => [(0, .ref (q 0)), (1, .int (f_X7_ordered u)), (2, .int (b2i b6)), (3, .int 0)]) (fun (b43 : Bool) => [.int (b2i b43), .int 0, .ref (q 0)]) (fun (b43 : Bool) => wX7 cI cZ cO q (put o20 8 0 0)) (fun b43 => ?_) _ (fun J56 => ?_)
                · unfold f_X7_tick_k348_2
                  refine x_ior C dX7_tick_348 ?_
                  refine x_put (ws' := wX7 cI cZ cO q (put (put o20 8 0 0) 8 0 (0 ||| (b2i b43)))) C hwsX70 tyX7 tyX7_ok nmX7 8 mw_339 0 rfl rfl (by decide) rfl rfl rfl rfl (Nat.le_of_ble_eq_true rfl) dX7_tick_349 rfl ?_
                  refine x_iconst C 0 dX7_tick_352 (by decide) ?_
                  refine x_istore (L' := [(4, .int 0), (0, .ref (q 0)), (1, .int (f_X7_ordered u)), (2, .int (b2i b6)), (3, .int 0)]) C dX7_tick_353 (by decide) rfl ?_
                  refine x_iload C dX7_tick_355 0 rfl ?_
                  refine x_iconst C 3 dX7_tick_357 (by decide) ?_
                  refine x_icmp_ge_f C 415 dX7_tick_358 (by decide) (by decide) ?_
                  refine x_aload_n C dX7_tick_361 1 rfl ?_
                  refine x_dup C dX7_tick_362 rfl ?_
                  refine x_get (v := .int (0 ||| (b2i b43))) C hwsX70 8 mw_339 0 rfl rfl (by decide) rfl rfl dX7_tick_363 ?_
                  refine x_aload_n C dX7_tick_366 1 rfl ?_
                  refine x_get (v := .ref (q 16)) C hwsX70 25 mw_353 0 rfl rfl (by decide) rfl rfl dX7_tick_367 ?_
                  refine x_bipush C 18 dX7_tick_370 (by decide) ?_
                  refine x_iload_n C dX7_tick_372 4 rfl ?_
                  refine x_imul C dX7_tick_373 ?_
                  refine x_top 0 (by decide) ?_
                  refine x_bipush C 9 dX7_tick_374 (by decide) ?_
                  refine x_iadd C dX7_tick_376 ?_
                  refine x_top 9 (by decide) ?_
                  refine x_iload C dX7_tick_377 0 rfl ?_
                  refine x_iadd C dX7_tick_379 ?_
                  refine x_top 9 (by decide) ?_
                  refine x_iald C 16 0 rfl rfl 9 rfl (by omega) (by decide) (o20 25 9) rfl dX7_tick_380 ?_
                  refine x_aload_n C dX7_tick_381 1 rfl ?_
                  refine x_get (v := .ref (q 16)) C hwsX70 25 mw_353 0 rfl rfl (by decide) rfl rfl dX7_tick_382 ?_
                  refine x_bipush C 18 dX7_tick_385 (by decide) ?_
                  refine x_iload_n C dX7_tick_387 4 rfl ?_
                  refine x_imul C dX7_tick_388 ?_
                  refine x_top 0 (by decide) ?_
                  refine x_bipush C 12 dX7_tick_389 (by decide) ?_
                  refine x_iadd C dX7_tick_391 ?_
                  refine x_top 12 (by decide) ?_
                  refine x_iload C dX7_tick_392 0 rfl ?_
                  refine x_iadd C dX7_tick_394 ?_
                  refine x_top 12 (by decide) ?_
                  refine x_iald C 16 0 rfl rfl 12 rfl (by omega) (by decide) (o20 25 12) rfl dX7_tick_395 ?_
                  refine x_iadd C dX7_tick_396 ?_
                  refine x_join (fun (b45 : Int32) => f_X7_tick_k405_6 o20 b43 b45) 405 (fun (b45 : Int32) => [(0, .ref (q 0)), (1, .int (f_X7_ordered u)), (2, .int (b2i b6)), (3, .int 0), (4, .int 0)]) (fun (b45 : Int32) => [.int b45, .int (0 ||| (b2i b43)), .ref (q 0)]) (fun (b45 : Int32) => wX7 cI cZ cO q (put (put o20 8 0 0) 8 0 (0 ||| (b2i b43)))) (fun b45 => ?_) _ (fun J55 => ?_)
                  · unfold f_X7_tick_k405_6
                    refine x_ior C dX7_tick_405 ?_
                    refine x_put (ws' := wX7 cI cZ cO q (put (put (put o20 8 0 0) 8 0 (0 ||| (b2i b43))) 8 0 ((0 ||| (b2i b43)) ||| b45))) C hwsX70 tyX7 tyX7_ok nmX7 8 mw_339 0 rfl rfl (by decide) rfl rfl rfl rfl (Nat.le_of_ble_eq_true rfl) dX7_tick_406 rfl ?_
                    refine x_iinc (L' := [(4, .int 1), (0, .ref (q 0)), (1, .int (f_X7_ordered u)), (2, .int (b2i b6)), (3, .int 0)]) C 1 dX7_tick_409 4 rfl (by decide) (by decide) rfl ?_
                    refine x_goto C 355 dX7_tick_412 (by decide) ?_
                    refine x_iload C dX7_tick_355 0 rfl ?_
                    refine x_iconst C 3 dX7_tick_357 (by decide) ?_
                    refine x_icmp_ge_f C 415 dX7_tick_358 (by decide) (by decide) ?_
                    refine x_aload_n C dX7_tick_361 1 rfl ?_
                    refine x_dup C dX7_tick_362 rfl ?_
                    refine x_get (v := .int ((0 ||| (b2i b43)) ||| b45)) C hwsX70 8 mw_339 0 rfl rfl (by decide) rfl rfl dX7_tick_363 ?_
                    refine x_aload_n C dX7_tick_366 1 rfl ?_
                    refine x_get (v := .ref (q 16)) C hwsX70 25 mw_353 0 rfl rfl (by decide) rfl rfl dX7_tick_367 ?_
                    refine x_bipush C 18 dX7_tick_370 (by decide) ?_
                    refine x_iload_n C dX7_tick_372 4 rfl ?_
                    refine x_imul C dX7_tick_373 ?_
                    refine x_top 0 (by decide) ?_
                    refine x_bipush C 9 dX7_tick_374 (by decide) ?_
                    refine x_iadd C dX7_tick_376 ?_
                    refine x_top 9 (by decide) ?_
                    refine x_iload C dX7_tick_377 0 rfl ?_
                    refine x_iadd C dX7_tick_379 ?_
                    refine x_top 10 (by decide) ?_
                    refine x_iald C 16 0 rfl rfl 10 rfl (by omega) (by decide) (o20 25 10) rfl dX7_tick_380 ?_
                    refine x_aload_n C dX7_tick_381 1 rfl ?_
                    refine x_get (v := .ref (q 16)) C hwsX70 25 mw_353 0 rfl rfl (by decide) rfl rfl dX7_tick_382 ?_
                    refine x_bipush C 18 dX7_tick_385 (by decide) ?_
                    refine x_iload_n C dX7_tick_387 4 rfl ?_
                    refine x_imul C dX7_tick_388 ?_
                    refine x_top 0 (by decide) ?_
                    refine x_bipush C 12 dX7_tick_389 (by decide) ?_
                    refine x_iadd C dX7_tick_391 ?_
                    refine x_top 12 (by decide) ?_
                    refine x_iload C dX7_tick_392 0 rfl ?_
                    refine x_iadd C dX7_tick_394 ?_
                    refine x_top 13 (by decide) ?_
                    refine x_iald C 16 0 rfl rfl 13 rfl (by omega) (by decide) (o20 25 13) rfl dX7_tick_395 ?_
                    refine x_iadd C dX7_tick_396 ?_
                    refine x_join (fun (b47 : Int32) => f_X7_tick_k405_5 o20 b43 b45 b47) 405 (fun (b47 : Int32) => [(0, .ref (q 0)), (1, .int (f_X7_ordered u)), (2, .int (b2i b6)), (3, .int 0), (4, .int 1)]) (fun (b47 : Int32) => [.int b47, .int ((0 ||| (b2i b43)) ||| b45), .ref (q 0)]) (fun (b47 : Int32) => wX7 cI cZ cO q (put (put (put o20 8 0 0) 8 0 (0 ||| (b2i b43))) 8 0 ((0 ||| (b2i b43)) ||| b45))) (fun b47 => ?_) _ (fun J54 => ?_)
                    · unfold f_X7_tick_k405_5
                      refine x_ior C dX7_tick_405 ?_
                      refine x_put (ws' := wX7 cI cZ cO q (put (put (put (put o20 8 0 0) 8 0 (0 ||| (b2i b43))) 8 0 ((0 ||| (b2i b43)) ||| b45)) 8 0 (((0 ||| (b2i b43)) ||| b45) ||| b47))) C hwsX70 tyX7 tyX7_ok nmX7 8 mw_339 0 rfl rfl (by decide) rfl rfl rfl rfl (Nat.le_of_ble_eq_true rfl) dX7_tick_406 rfl ?_
                      refine x_iinc (L' := [(4, .int 2), (0, .ref (q 0)), (1, .int (f_X7_ordered u)), (2, .int (b2i b6)), (3, .int 0)]) C 2 dX7_tick_409 4 rfl (by decide) (by decide) rfl ?_
                      refine x_goto C 355 dX7_tick_412 (by decide) ?_
                      refine x_iload C dX7_tick_355 0 rfl ?_
                      refine x_iconst C 3 dX7_tick_357 (by decide) ?_
                      refine x_icmp_ge_f C 415 dX7_tick_358 (by decide) (by decide) ?_
                      refine x_aload_n C dX7_tick_361 1 rfl ?_
                      refine x_dup C dX7_tick_362 rfl ?_
                      refine x_get (v := .int (((0 ||| (b2i b43)) ||| b45) ||| b47)) C hwsX70 8 mw_339 0 rfl rfl (by decide) rfl rfl dX7_tick_363 ?_
                      refine x_aload_n C dX7_tick_366 1 rfl ?_
                      refine x_get (v := .ref (q 16)) C hwsX70 25 mw_353 0 rfl rfl (by decide) rfl rfl dX7_tick_367 ?_
                      refine x_bipush C 18 dX7_tick_370 (by decide) ?_
                      refine x_iload_n C dX7_tick_372 4 rfl ?_
                      refine x_imul C dX7_tick_373 ?_
                      refine x_top 0 (by decide) ?_
                      refine x_bipush C 9 dX7_tick_374 (by decide) ?_
                      refine x_iadd C dX7_tick_376 ?_
                      refine x_top 9 (by decide) ?_
                      refine x_iload C dX7_tick_377 0 rfl ?_
                      refine x_iadd C dX7_tick_379 ?_
                      refine x_top 11 (by decide) ?_
                      refine x_iald C 16 0 rfl rfl 11 rfl (by omega) (by decide) (o20 25 11) rfl dX7_tick_380 ?_
                      refine x_aload_n C dX7_tick_381 1 rfl ?_
                      refine x_get (v := .ref (q 16)) C hwsX70 25 mw_353 0 rfl rfl (by decide) rfl rfl dX7_tick_382 ?_
                      refine x_bipush C 18 dX7_tick_385 (by decide) ?_
                      refine x_iload_n C dX7_tick_387 4 rfl ?_
                      refine x_imul C dX7_tick_388 ?_
                      refine x_top 0 (by decide) ?_
                      refine x_bipush C 12 dX7_tick_389 (by decide) ?_
                      refine x_iadd C dX7_tick_391 ?_
                      refine x_top 12 (by decide) ?_
                      refine x_iload C dX7_tick_392 0 rfl ?_
                      refine x_iadd C dX7_tick_394 ?_
                      refine x_top 14 (by decide) ?_
                      refine x_iald C 16 0 rfl rfl 14 rfl (by omega) (by decide) (o20 25 14) rfl dX7_tick_395 ?_
                      refine x_iadd C dX7_tick_396 ?_
                      refine x_join (fun (b49 : Int32) => f_X7_tick_k405_4 o20 b43 b45 b47 b49) 405 (fun (b49 : Int32) => [(0, .ref (q 0)), (1, .int (f_X7_ordered u)), (2, .int (b2i b6)), (3, .int 0), (4, .int 2)]) (fun (b49 : Int32) => [.int b49, .int (((0 ||| (b2i b43)) ||| b45) ||| b47), .ref (q 0)]) (fun (b49 : Int32) => wX7 cI cZ cO q (put (put (put (put o20 8 0 0) 8 0 (0 ||| (b2i b43))) 8 0 ((0 ||| (b2i b43)) ||| b45)) 8 0 (((0 ||| (b2i b43)) ||| b45) ||| b47))) (fun b49 => ?_) _ (fun J53 => ?_)
                      · unfold f_X7_tick_k405_4
                        refine x_ior C dX7_tick_405 ?_
                        refine x_put (ws' := wX7 cI cZ cO q (put (put (put (put (put o20 8 0 0) 8 0 (0 ||| (b2i b43))) 8 0 ((0 ||| (b2i b43)) ||| b45)) 8 0 (((0 ||| (b2i b43)) ||| b45) ||| b47)) 8 0 ((((0 ||| (b2i b43)) ||| b45) ||| b47) ||| b49))) C hwsX70 tyX7 tyX7_ok nmX7 8 mw_339 0 rfl rfl (by decide) rfl rfl rfl rfl (Nat.le_of_ble_eq_true rfl) dX7_tick_406 rfl ?_
                        refine x_iinc (L' := [(4, .int 3), (0, .ref (q 0)), (1, .int (f_X7_ordered u)), (2, .int (b2i b6)), (3, .int 0)]) C 3 dX7_tick_409 4 rfl (by decide) (by decide) rfl ?_
                        refine x_goto C 355 dX7_tick_412 (by decide) ?_
                        refine x_iload C dX7_tick_355 0 rfl ?_
                        refine x_iconst C 3 dX7_tick_357 (by decide) ?_
                        refine x_icmp_ge_t C 415 dX7_tick_358 (by decide) (by decide) ?_
                        refine x_aload_n C dX7_tick_415 1 rfl ?_
                        refine x_dup C dX7_tick_416 rfl ?_
                        refine x_get (v := .int ((((0 ||| (b2i b43)) ||| b45) ||| b47) ||| b49)) C hwsX70 8 mw_339 0 rfl rfl (by decide) rfl rfl dX7_tick_417 ?_
                        refine x_aload_n C dX7_tick_420 1 rfl ?_
                        refine x_get (v := .ref (q 10)) C hwsX70 19 mw_346 0 rfl rfl (by decide) rfl rfl dX7_tick_421 ?_
                        refine x_iload_n C dX7_tick_424 4 rfl ?_
                        refine x_iald C 10 0 rfl rfl 0 rfl (by omega) (by decide) (o20 19 0) rfl dX7_tick_425 ?_
                        refine x_join (fun (b51 : Int32) => f_X7_tick_k434_2 o20 b43 b45 b47 b49 b51) 434 (fun (b51 : Int32) => [(0, .ref (q 0)), (1, .int (f_X7_ordered u)), (2, .int (b2i b6)), (3, .int 0), (4, .int 3)]) (fun (b51 : Int32) => [.int b51, .int ((((0 ||| (b2i b43)) ||| b45) ||| b47) ||| b49), .ref (q 0)]) (fun (b51 : Int32) => wX7 cI cZ cO q (put (put (put (put (put o20 8 0 0) 8 0 (0 ||| (b2i b43))) 8 0 ((0 ||| (b2i b43)) ||| b45)) 8 0 (((0 ||| (b2i b43)) ||| b45) ||| b47)) 8 0 ((((0 ||| (b2i b43)) ||| b45) ||| b47) ||| b49))) (fun b51 => ?_) _ (fun J52 => ?_)
                        · unfold f_X7_tick_k434_2
                          refine x_ior C dX7_tick_434 ?_
                          refine x_put (ws' := wX7 cI cZ cO q (put (put (put (put (put (put o20 8 0 0) 8 0 (0 ||| (b2i b43))) 8 0 ((0 ||| (b2i b43)) ||| b45)) 8 0 (((0 ||| (b2i b43)) ||| b45) ||| b47)) 8 0 ((((0 ||| (b2i b43)) ||| b45) ||| b47) ||| b49)) 8 0 (((((0 ||| (b2i b43)) ||| b45) ||| b47) ||| b49) ||| b51))) C hwsX70 tyX7 tyX7_ok nmX7 8 mw_339 0 rfl rfl (by decide) rfl rfl rfl rfl (Nat.le_of_ble_eq_true rfl) dX7_tick_435 rfl ?_
                          refine x_lsub (L' := [(0, .ref (q 0)), (1, .int (f_X7_ordered u)), (2, .int (b2i b6)), (3, .int 0)]) [0, 1, 2, 3] rfl ?_
                          exact J41 (put (put (put (put (put (put o20 8 0 0) 8 0 (0 ||| (b2i b43))) 8 0 ((0 ||| (b2i b43)) ||| b45)) 8 0 (((0 ||| (b2i b43)) ||| b45) ||| b47)) 8 0 ((((0 ||| (b2i b43)) ||| b45) ||| b47) ||| b49)) 8 0 (((((0 ||| (b2i b43)) ||| b45) ||| b47) ||| b49) ||| b51))
                        · refine x_if_le C 433 dX7_tick_426 (by decide) (fun c50 => ?_) (fun c50 => ?_)
                          · refine x_iconst C 4 dX7_tick_429 (by decide) ?_
                            refine x_goto C 434 dX7_tick_430 (by decide) ?_
                            refine x_lsub (L' := [(0, .ref (q 0)), (1, .int (f_X7_ordered u)), (2, .int (b2i b6)), (3, .int 0), (4, .int 3)]) [1, 2, 3, 4, 0] rfl ?_
                            exact J52 4
                          · refine x_iconst C 0 dX7_tick_433 (by decide) ?_
                            refine x_lsub (L' := [(0, .ref (q 0)), (1, .int (f_X7_ordered u)), (2, .int (b2i b6)), (3, .int 0), (4, .int 3)]) [1, 2, 3, 4, 0] rfl ?_
                            exact J52 0
                      · refine x_if_ne C 404 dX7_tick_397 (by decide) (fun c48 => ?_) (fun c48 => ?_)
                        · refine x_iconst C 2 dX7_tick_400 (by decide) ?_
                          refine x_goto C 405 dX7_tick_401 (by decide) ?_
                          refine x_lsub (L' := [(0, .ref (q 0)), (1, .int (f_X7_ordered u)), (2, .int (b2i b6)), (3, .int 0), (4, .int 2)]) [1, 2, 3, 4, 0] rfl ?_
                          exact J53 2
                        · refine x_iconst C 0 dX7_tick_404 (by decide) ?_
                          refine x_lsub (L' := [(0, .ref (q 0)), (1, .int (f_X7_ordered u)), (2, .int (b2i b6)), (3, .int 0), (4, .int 2)]) [1, 2, 3, 4, 0] rfl ?_
                          exact J53 0
                    · refine x_if_ne C 404 dX7_tick_397 (by decide) (fun c46 => ?_) (fun c46 => ?_)
                      · refine x_iconst C 2 dX7_tick_400 (by decide) ?_
                        refine x_goto C 405 dX7_tick_401 (by decide) ?_
                        refine x_lsub (L' := [(0, .ref (q 0)), (1, .int (f_X7_ordered u)), (2, .int (b2i b6)), (3, .int 0), (4, .int 1)]) [1, 2, 3, 4, 0] rfl ?_
                        exact J54 2
                      · refine x_iconst C 0 dX7_tick_404 (by decide) ?_
                        refine x_lsub (L' := [(0, .ref (q 0)), (1, .int (f_X7_ordered u)), (2, .int (b2i b6)), (3, .int 0), (4, .int 1)]) [1, 2, 3, 4, 0] rfl ?_
                        exact J54 0
                  · refine x_if_ne C 404 dX7_tick_397 (by decide) (fun c44 => ?_) (fun c44 => ?_)
                    · refine x_iconst C 2 dX7_tick_400 (by decide) ?_
                      refine x_goto C 405 dX7_tick_401 (by decide) ?_
                      refine x_lsub (L' := [(0, .ref (q 0)), (1, .int (f_X7_ordered u)), (2, .int (b2i b6)), (3, .int 0), (4, .int 0)]) [1, 2, 3, 4, 0] rfl ?_
                      exact J55 2
                    · refine x_iconst C 0 dX7_tick_404 (by decide) ?_
                      refine x_lsub (L' := [(0, .ref (q 0)), (1, .int (f_X7_ordered u)), (2, .int (b2i b6)), (3, .int 0), (4, .int 0)]) [1, 2, 3, 4, 0] rfl ?_
                      exact J55 0
                · refine x_if_eqZ C 347 dX7_tick_340 (by decide) (fun c42 => ?_) (fun c42 => ?_)
                  · refine x_iconst C 1 dX7_tick_343 (by decide) ?_
                    refine x_goto C 348 dX7_tick_344 (by decide) ?_
                    refine x_lsub (L' := [(0, .ref (q 0)), (1, .int (f_X7_ordered u)), (2, .int (b2i b6)), (3, .int 0)]) [1, 2, 3, 0] rfl ?_
                    exact J56 true
                  · refine x_iconst C 0 dX7_tick_347 (by decide) ?_
                    refine x_lsub (L' := [(0, .ref (q 0)), (1, .int (f_X7_ordered u)), (2, .int (b2i b6)), (3, .int 0)]) [1, 2, 3, 0] rfl ?_
                    exact J56 false
              · refine x_lsub (L' := [(0, .ref (q 0)), (1, .int (f_X7_ordered u)), (2, .int (b2i b6)), (3, .int 0)]) [1, 2, 3, 0] rfl ?_
                exact J41 (put o20 8 0 0)
          · unfold f_X7_tick_t199
            refine x_iload_n C dX7_tick_199 3 rfl ?_
            refine x_iconst C 5 dX7_tick_200 (by decide) ?_
            refine x_icmp_ge_f C 252 dX7_tick_201 (by decide) (nI_lt (b := 5) hk57 (by omega)) ?_
            refine x_aload_n C dX7_tick_204 0 rfl ?_
            refine x_iload_n C dX7_tick_205 3 rfl ?_
            refine x_iload_n C dX7_tick_206 2 rfl ?_
            refine x_joinI (fun (b61 : Bool) => f_X7_tick_k243 i10 a11 b61) (fun (b61 : Bool) => LB 4 a11) 243 (fun (b61 : Bool) => [(0, .ref (q 0)), (1, .int (f_X7_ordered u)), (2, .int (b2i b6)), (3, .int (nI i10))]) (fun (b61 : Bool) => [.int (b2i b61), .int (nI i10), .ref (q 0)]) (fun (b61 : Bool) => wX7 cI cZ cO q a11) (fun b61 hIb61 => ?_) _ (fun J63 => ?_)
            · unfold f_X7_tick_k243
              refine x_cVvW (q0 := 0) (As := [.int (nI i10), .int (b2i b61)]) C mw_427 mw_428 mw_429 mw_337 mw_420 hd_X7_press rfl rfl ⟨Nat.le_of_ble_eq_true rfl, Nat.le_of_ble_eq_true rfl⟩ rfl rfl rfl (c_X7_press l D cI cZ cO q a11 i10 b61 (by omega)) rfl rfl (Nat.le_of_ble_eq_true rfl) (Nat.le_of_ble_eq_true rfl) (Nat.le_of_ble_eq_true rfl) dX7_tick_243 ?_
              unfold f_X7_tick_o243
              have hAo62 : LB 4 (f_X7_press a11 i10 b61) := LB_press (by (repeat (with_reducible refine LB_put ?_ ?_; decide)); first | with_reducible assumption | exact LB_lo (by with_reducible assumption) (by first | decide | omega))
              generalize f_X7_press a11 i10 b61 = o62 at hAo62 ⊢
              refine x_iinc (L' := [(3, .int (nI (i10 + 1))), (0, .ref (q 0)), (1, .int (f_X7_ordered u)), (2, .int (b2i b6))]) C (nI (i10 + 1)) dX7_tick_246 3 rfl (nI_add _ _) (by decide) rfl ?_
              refine x_goto C 199 dX7_tick_249 (by decide) ?_
              refine x_lsub (L' := [(0, .ref (q 0)), (1, .int (f_X7_ordered u)), (2, .int (b2i b6)), (3, .int (nI (i10 + 1)))]) [1, 2, 3, 0] rfl ?_
              exact ih58 o62 (by (repeat (with_reducible refine LB_put ?_ ?_; decide)); (try first | with_reducible refine LB_press ?_ | with_reducible refine LB_move ?_ | with_reducible refine LB_feel ?_ | with_reducible refine LB_act ?_); (repeat (with_reducible refine LB_put ?_ ?_; decide)); first | with_reducible assumption | exact LB_lo (by with_reducible assumption) (by first | decide | omega))
            · refine x_if_eqZ C 242 dX7_tick_207 (by decide) (fun c60 => ?_) (fun c60 => ?_)
              · refine x_aload_n C dX7_tick_210 0 rfl ?_
                refine x_get (v := .ref (q 2)) C hwsX70 11 mw_340 0 rfl rfl (by decide) rfl rfl dX7_tick_211 ?_
                refine x_iload_n C dX7_tick_214 3 rfl ?_
                refine x_iald C 2 0 rfl rfl i10 rfl (by omega) (by decide) (a11 11 i10) rfl dX7_tick_215 ?_
                refine x_iconst C 2 dX7_tick_216 (by decide) ?_
                refine x_icmp_eq C 238 dX7_tick_217 (by decide) (fun c64 => ?_) (fun c64 => ?_)
                · refine x_iconst C 1 dX7_tick_238 (by decide) ?_
                  refine x_goto C 243 dX7_tick_239 (by decide) ?_
                  exact J63 true (by (repeat (with_reducible refine LB_put ?_ ?_; decide)); (try first | with_reducible refine LB_press ?_ | with_reducible refine LB_move ?_ | with_reducible refine LB_feel ?_ | with_reducible refine LB_act ?_); (repeat (with_reducible refine LB_put ?_ ?_; decide)); first | with_reducible assumption | exact LB_lo (by with_reducible assumption) (by first | decide | omega))
                · refine x_aload_n C dX7_tick_220 0 rfl ?_
                  refine x_get (v := .ref (q 2)) C hwsX70 11 mw_340 0 rfl rfl (by decide) rfl rfl dX7_tick_221 ?_
                  refine x_iload_n C dX7_tick_224 3 rfl ?_
                  refine x_iald C 2 0 rfl rfl i10 rfl (by omega) (by decide) (a11 11 i10) rfl dX7_tick_225 ?_
                  refine x_if_ne C 242 dX7_tick_226 (by decide) (fun c65 => ?_) (fun c65 => ?_)
                  · refine x_iload_n C dX7_tick_229 1 rfl ?_
                    refine x_iload_n C dX7_tick_230 3 rfl ?_
                    refine x_ishr C dX7_tick_231 ?_
                    refine x_iconst C 1 dX7_tick_232 (by decide) ?_
                    refine x_iand C dX7_tick_233 ?_
                    refine x_iconst C 1 dX7_tick_234 (by decide) ?_
                    refine x_icmp_ne C 242 dX7_tick_235 (by decide) (fun c66 => ?_) (fun c66 => ?_)
                    · refine x_iconst C 1 dX7_tick_238 (by decide) ?_
                      refine x_goto C 243 dX7_tick_239 (by decide) ?_
                      exact J63 true (by (repeat (with_reducible refine LB_put ?_ ?_; decide)); (try first | with_reducible refine LB_press ?_ | with_reducible refine LB_move ?_ | with_reducible refine LB_feel ?_ | with_reducible refine LB_act ?_); (repeat (with_reducible refine LB_put ?_ ?_; decide)); first | with_reducible assumption | exact LB_lo (by with_reducible assumption) (by first | decide | omega))
                    · refine x_iconst C 0 dX7_tick_242 (by decide) ?_
                      exact J63 false (by (repeat (with_reducible refine LB_put ?_ ?_; decide)); (try first | with_reducible refine LB_press ?_ | with_reducible refine LB_move ?_ | with_reducible refine LB_feel ?_ | with_reducible refine LB_act ?_); (repeat (with_reducible refine LB_put ?_ ?_; decide)); first | with_reducible assumption | exact LB_lo (by with_reducible assumption) (by first | decide | omega))
                  · refine x_iconst C 0 dX7_tick_242 (by decide) ?_
                    exact J63 false (by (repeat (with_reducible refine LB_put ?_ ?_; decide)); (try first | with_reducible refine LB_press ?_ | with_reducible refine LB_move ?_ | with_reducible refine LB_feel ?_ | with_reducible refine LB_act ?_); (repeat (with_reducible refine LB_put ?_ ?_; decide)); first | with_reducible assumption | exact LB_lo (by with_reducible assumption) (by first | decide | omega))
              · refine x_iconst C 0 dX7_tick_242 (by decide) ?_
                exact J63 false (by (repeat (with_reducible refine LB_put ?_ ?_; decide)); (try first | with_reducible refine LB_press ?_ | with_reducible refine LB_move ?_ | with_reducible refine LB_feel ?_ | with_reducible refine LB_act ?_); (repeat (with_reducible refine LB_put ?_ ?_; decide)); first | with_reducible assumption | exact LB_lo (by with_reducible assumption) (by first | decide | omega))
        · refine x_icmp_eq C 189 dX7_tick_161 (by decide) (fun c7 => ?_) (fun c7 => ?_)
          · refine x_iconst C 1 dX7_tick_189 (by decide) ?_
            refine x_goto C 194 dX7_tick_190 (by decide) ?_
            refine x_lsub (L' := [(0, .ref (q 0)), (1, .int (f_X7_ordered u)), (2, .int (b2i b6))]) [1, 2, 0] rfl ?_
            exact J67 true (by (repeat (with_reducible refine LB_put ?_ ?_; decide)); (try first | with_reducible refine LB_press ?_ | with_reducible refine LB_move ?_ | with_reducible refine LB_feel ?_ | with_reducible refine LB_act ?_); (repeat (with_reducible refine LB_put ?_ ?_; decide)); first | with_reducible assumption | exact LB_lo (by with_reducible assumption) (by first | decide | omega))
          · refine x_aload_n C dX7_tick_164 1 rfl ?_
            refine x_get (v := .ref (q 2)) C hwsX70 11 mw_340 0 rfl rfl (by decide) rfl rfl dX7_tick_165 ?_
            refine x_iconst C 0 dX7_tick_168 (by decide) ?_
            refine x_iald C 2 0 rfl rfl 0 rfl (by omega) (by decide) (b4 11 0) rfl dX7_tick_169 ?_
            refine x_if_ne C 193 dX7_tick_170 (by decide) (fun c68 => ?_) (fun c68 => ?_)
            · refine x_iload_n C dX7_tick_173 2 rfl ?_
              refine x_iconst C 1 dX7_tick_174 (by decide) ?_
              refine x_iand C dX7_tick_175 ?_
              refine x_iconst C 1 dX7_tick_176 (by decide) ?_
              refine x_icmp_ne C 193 dX7_tick_177 (by decide) (fun c69 => ?_) (fun c69 => ?_)
              · refine x_aload_n C dX7_tick_180 1 rfl ?_
                refine x_get (v := .int (b4 2 0)) C hwsX70 2 mw_327 0 rfl rfl (by decide) rfl rfl dX7_tick_181 ?_
                refine x_bipush C 24 dX7_tick_184 (by decide) ?_
                refine x_icmp_ne C 193 dX7_tick_186 (by decide) (fun c70 => ?_) (fun c70 => ?_)
                · refine x_iconst C 1 dX7_tick_189 (by decide) ?_
                  refine x_goto C 194 dX7_tick_190 (by decide) ?_
                  refine x_lsub (L' := [(0, .ref (q 0)), (1, .int (f_X7_ordered u)), (2, .int (b2i b6))]) [1, 2, 0] rfl ?_
                  exact J67 true (by (repeat (with_reducible refine LB_put ?_ ?_; decide)); (try first | with_reducible refine LB_press ?_ | with_reducible refine LB_move ?_ | with_reducible refine LB_feel ?_ | with_reducible refine LB_act ?_); (repeat (with_reducible refine LB_put ?_ ?_; decide)); first | with_reducible assumption | exact LB_lo (by with_reducible assumption) (by first | decide | omega))
                · refine x_iconst C 0 dX7_tick_193 (by decide) ?_
                  refine x_lsub (L' := [(0, .ref (q 0)), (1, .int (f_X7_ordered u)), (2, .int (b2i b6))]) [1, 2, 0] rfl ?_
                  exact J67 false (by (repeat (with_reducible refine LB_put ?_ ?_; decide)); (try first | with_reducible refine LB_press ?_ | with_reducible refine LB_move ?_ | with_reducible refine LB_feel ?_ | with_reducible refine LB_act ?_); (repeat (with_reducible refine LB_put ?_ ?_; decide)); first | with_reducible assumption | exact LB_lo (by with_reducible assumption) (by first | decide | omega))
              · refine x_iconst C 0 dX7_tick_193 (by decide) ?_
                refine x_lsub (L' := [(0, .ref (q 0)), (1, .int (f_X7_ordered u)), (2, .int (b2i b6))]) [1, 2, 0] rfl ?_
                exact J67 false (by (repeat (with_reducible refine LB_put ?_ ?_; decide)); (try first | with_reducible refine LB_press ?_ | with_reducible refine LB_move ?_ | with_reducible refine LB_feel ?_ | with_reducible refine LB_act ?_); (repeat (with_reducible refine LB_put ?_ ?_; decide)); first | with_reducible assumption | exact LB_lo (by with_reducible assumption) (by first | decide | omega))
            · refine x_iconst C 0 dX7_tick_193 (by decide) ?_
              refine x_lsub (L' := [(0, .ref (q 0)), (1, .int (f_X7_ordered u)), (2, .int (b2i b6))]) [1, 2, 0] rfl ?_
              exact J67 false (by (repeat (with_reducible refine LB_put ?_ ?_; decide)); (try first | with_reducible refine LB_press ?_ | with_reducible refine LB_move ?_ | with_reducible refine LB_feel ?_ | with_reducible refine LB_act ?_); (repeat (with_reducible refine LB_put ?_ ?_; decide)); first | with_reducible assumption | exact LB_lo (by with_reducible assumption) (by first | decide | omega))
      · refine x_icmp_ne C 150 dX7_tick_143 (by decide) (fun c5 => ?_) (fun c5 => ?_)
        · refine x_iconst C 1 dX7_tick_146 (by decide) ?_
          refine x_goto C 151 dX7_tick_147 (by decide) ?_
          exact J71 true (by (repeat (with_reducible refine LB_put ?_ ?_; decide)); (try first | with_reducible refine LB_press ?_ | with_reducible refine LB_move ?_ | with_reducible refine LB_feel ?_ | with_reducible refine LB_act ?_); (repeat (with_reducible refine LB_put ?_ ?_; decide)); first | with_reducible assumption | exact LB_lo (by with_reducible assumption) (by first | decide | omega))
        · refine x_iconst C 0 dX7_tick_150 (by decide) ?_
          exact J71 false (by (repeat (with_reducible refine LB_put ?_ ?_; decide)); (try first | with_reducible refine LB_press ?_ | with_reducible refine LB_move ?_ | with_reducible refine LB_feel ?_ | with_reducible refine LB_act ?_); (repeat (with_reducible refine LB_put ?_ ?_; decide)); first | with_reducible assumption | exact LB_lo (by with_reducible assumption) (by first | decide | omega))
    · refine x_if_ne C 134 dX7_tick_53 (by decide) (fun c3 => ?_) (fun c3 => ?_)
      · refine x_aload_n C dX7_tick_56 0 rfl ?_
        refine x_get (v := .int (u 3 0)) C hwsX70 3 mw_366 0 rfl rfl (by decide) rfl rfl dX7_tick_57 ?_
        refine x_if_ne C 88 dX7_tick_60 (by decide) (fun c73 => ?_) (fun c73 => ?_)
        · refine x_aload_n C dX7_tick_63 0 rfl ?_
          refine x_aload_n C dX7_tick_64 0 rfl ?_
          refine x_get (v := .int (u 2 0)) C hwsX70 2 mw_327 0 rfl rfl (by decide) rfl rfl dX7_tick_65 ?_
          refine x_iconst C 2 dX7_tick_68 (by decide) ?_
          refine x_joinI (fun (b75 : Int32) => f_X7_tick_k82 u b2 b75) (fun (b75 : Int32) => LB 4 (put (put u 9 0 (b2i b2)) 6 0 ((u 6 0) + 1))) 82 (fun (b75 : Int32) => [(0, .ref (q 0)), (1, .int (f_X7_ordered u))]) (fun (b75 : Int32) => [.int b75, .ref (q 0)]) (fun (b75 : Int32) => wX7 cI cZ cO q (put (put u 9 0 (b2i b2)) 6 0 ((u 6 0) + 1))) (fun b75 hIb75 => ?_) _ (fun J76 => ?_)
          · unfold f_X7_tick_k82
            refine x_put (ws' := wX7 cI cZ cO q (put (put (put u 9 0 (b2i b2)) 6 0 ((u 6 0) + 1)) 2 0 b75)) C hwsX70 tyX7 tyX7_ok nmX7 2 mw_327 0 rfl rfl (by decide) rfl rfl rfl rfl (Nat.le_of_ble_eq_true rfl) dX7_tick_82 rfl ?_
            refine x_goto C 134 dX7_tick_85 (by decide) ?_
            exact J72 (put (put (put u 9 0 (b2i b2)) 6 0 ((u 6 0) + 1)) 2 0 b75) (by (repeat (with_reducible refine LB_put ?_ ?_; decide)); (try first | with_reducible refine LB_press ?_ | with_reducible refine LB_move ?_ | with_reducible refine LB_feel ?_ | with_reducible refine LB_act ?_); (repeat (with_reducible refine LB_put ?_ ?_; decide)); first | with_reducible assumption | exact LB_lo (by with_reducible assumption) (by first | decide | omega))
          · refine x_icmp_ge C 76 dX7_tick_69 (by decide) (fun c74 => ?_) (fun c74 => ?_)
            · refine x_iconst C 0 dX7_tick_72 (by decide) ?_
              refine x_goto C 82 dX7_tick_73 (by decide) ?_
              exact J76 0 (by (repeat (with_reducible refine LB_put ?_ ?_; decide)); (try first | with_reducible refine LB_press ?_ | with_reducible refine LB_move ?_ | with_reducible refine LB_feel ?_ | with_reducible refine LB_act ?_); (repeat (with_reducible refine LB_put ?_ ?_; decide)); first | with_reducible assumption | exact LB_lo (by with_reducible assumption) (by first | decide | omega))
            · refine x_aload_n C dX7_tick_76 0 rfl ?_
              refine x_get (v := .int (u 2 0)) C hwsX70 2 mw_327 0 rfl rfl (by decide) rfl rfl dX7_tick_77 ?_
              refine x_iconst C 2 dX7_tick_80 (by decide) ?_
              refine x_isub C dX7_tick_81 ?_
              exact J76 ((u 2 0) - 2) (by (repeat (with_reducible refine LB_put ?_ ?_; decide)); (try first | with_reducible refine LB_press ?_ | with_reducible refine LB_move ?_ | with_reducible refine LB_feel ?_ | with_reducible refine LB_act ?_); (repeat (with_reducible refine LB_put ?_ ?_; decide)); first | with_reducible assumption | exact LB_lo (by with_reducible assumption) (by first | decide | omega))
        · refine x_aload_n C dX7_tick_88 0 rfl ?_
          refine x_get (v := .int (u 2 0)) C hwsX70 2 mw_327 0 rfl rfl (by decide) rfl rfl dX7_tick_89 ?_
          refine x_bipush C 24 dX7_tick_92 (by decide) ?_
          refine x_icmp_ne C 110 dX7_tick_94 (by decide) (fun c77 => ?_) (fun c77 => ?_)
          · refine x_aload_n C dX7_tick_97 0 rfl ?_
            refine x_dup C dX7_tick_98 rfl ?_
            refine x_get (v := .int (u 3 0)) C hwsX70 3 mw_366 0 rfl rfl (by decide) rfl rfl dX7_tick_99 ?_
            refine x_iconst C 1 dX7_tick_102 (by decide) ?_
            refine x_isub C dX7_tick_103 ?_
            refine x_put (ws' := wX7 cI cZ cO q (put (put (put u 9 0 (b2i b2)) 6 0 ((u 6 0) + 1)) 3 0 ((u 3 0) - 1))) C hwsX70 tyX7 tyX7_ok nmX7 3 mw_366 0 rfl rfl (by decide) rfl rfl rfl rfl (Nat.le_of_ble_eq_true rfl) dX7_tick_104 rfl ?_
            refine x_goto C 134 dX7_tick_107 (by decide) ?_
            exact J72 (put (put (put u 9 0 (b2i b2)) 6 0 ((u 6 0) + 1)) 3 0 ((u 3 0) - 1)) (by (repeat (with_reducible refine LB_put ?_ ?_; decide)); (try first | with_reducible refine LB_press ?_ | with_reducible refine LB_move ?_ | with_reducible refine LB_feel ?_ | with_reducible refine LB_act ?_); (repeat (with_reducible refine LB_put ?_ ?_; decide)); first | with_reducible assumption | exact LB_lo (by with_reducible assumption) (by first | decide | omega))
          · refine x_aload_n C dX7_tick_110 0 rfl ?_
            refine x_aload_n C dX7_tick_111 0 rfl ?_
            refine x_get (v := .int (u 2 0)) C hwsX70 2 mw_327 0 rfl rfl (by decide) rfl rfl dX7_tick_112 ?_
            refine x_bipush C 21 dX7_tick_115 (by decide) ?_
            refine x_joinI (fun (b79 : Int32) => f_X7_tick_k131 u b2 b79) (fun (b79 : Int32) => LB 4 (put (put u 9 0 (b2i b2)) 6 0 ((u 6 0) + 1))) 131 (fun (b79 : Int32) => [(0, .ref (q 0)), (1, .int (f_X7_ordered u))]) (fun (b79 : Int32) => [.int b79, .ref (q 0)]) (fun (b79 : Int32) => wX7 cI cZ cO q (put (put u 9 0 (b2i b2)) 6 0 ((u 6 0) + 1))) (fun b79 hIb79 => ?_) _ (fun J80 => ?_)
            · unfold f_X7_tick_k131
              refine x_put (ws' := wX7 cI cZ cO q (put (put (put u 9 0 (b2i b2)) 6 0 ((u 6 0) + 1)) 2 0 b79)) C hwsX70 tyX7 tyX7_ok nmX7 2 mw_327 0 rfl rfl (by decide) rfl rfl rfl rfl (Nat.le_of_ble_eq_true rfl) dX7_tick_131 rfl ?_
              exact J72 (put (put (put u 9 0 (b2i b2)) 6 0 ((u 6 0) + 1)) 2 0 b79) (by (repeat (with_reducible refine LB_put ?_ ?_; decide)); (try first | with_reducible refine LB_press ?_ | with_reducible refine LB_move ?_ | with_reducible refine LB_feel ?_ | with_reducible refine LB_act ?_); (repeat (with_reducible refine LB_put ?_ ?_; decide)); first | with_reducible assumption | exact LB_lo (by with_reducible assumption) (by first | decide | omega))
            · refine x_icmp_le C 125 dX7_tick_117 (by decide) (fun c78 => ?_) (fun c78 => ?_)
              · refine x_bipush C 24 dX7_tick_120 (by decide) ?_
                refine x_goto C 131 dX7_tick_122 (by decide) ?_
                exact J80 24 (by (repeat (with_reducible refine LB_put ?_ ?_; decide)); (try first | with_reducible refine LB_press ?_ | with_reducible refine LB_move ?_ | with_reducible refine LB_feel ?_ | with_reducible refine LB_act ?_); (repeat (with_reducible refine LB_put ?_ ?_; decide)); first | with_reducible assumption | exact LB_lo (by with_reducible assumption) (by first | decide | omega))
              · refine x_aload_n C dX7_tick_125 0 rfl ?_
                refine x_get (v := .int (u 2 0)) C hwsX70 2 mw_327 0 rfl rfl (by decide) rfl rfl dX7_tick_126 ?_
                refine x_iconst C 3 dX7_tick_129 (by decide) ?_
                refine x_iadd C dX7_tick_130 ?_
                exact J80 ((u 2 0) + 3) (by (repeat (with_reducible refine LB_put ?_ ?_; decide)); (try first | with_reducible refine LB_press ?_ | with_reducible refine LB_move ?_ | with_reducible refine LB_feel ?_ | with_reducible refine LB_act ?_); (repeat (with_reducible refine LB_put ?_ ?_; decide)); first | with_reducible assumption | exact LB_lo (by with_reducible assumption) (by first | decide | omega))
      · exact J72 (put (put u 9 0 (b2i b2)) 6 0 ((u 6 0) + 1)) (by (repeat (with_reducible refine LB_put ?_ ?_; decide)); (try first | with_reducible refine LB_press ?_ | with_reducible refine LB_move ?_ | with_reducible refine LB_feel ?_ | with_reducible refine LB_act ?_); (repeat (with_reducible refine LB_put ?_ ?_; decide)); first | with_reducible assumption | exact LB_lo (by with_reducible assumption) (by first | decide | omega))
  · refine x_if_ne C 31 dX7_tick_10 (by decide) (fun c1 => ?_) (fun c1 => ?_)
    · refine x_iload_n C dX7_tick_13 0 rfl ?_
      refine x_bipush C 6 dX7_tick_14 (by decide) ?_
      refine x_iand C dX7_tick_16 ?_
      refine x_bipush C 6 dX7_tick_17 (by decide) ?_
      refine x_icmp_eq C 31 dX7_tick_19 (by decide) (fun c82 => ?_) (fun c82 => ?_)
      · refine x_iconst C 1 dX7_tick_31 (by decide) ?_
        refine x_goto C 36 dX7_tick_32 (by decide) ?_
        refine x_lsub (L' := [(0, .ref (q 0)), (1, .int (f_X7_ordered u))]) [1, 0] rfl ?_
        exact J81 true (by (repeat (with_reducible refine LB_put ?_ ?_; decide)); (try first | with_reducible refine LB_press ?_ | with_reducible refine LB_move ?_ | with_reducible refine LB_feel ?_ | with_reducible refine LB_act ?_); (repeat (with_reducible refine LB_put ?_ ?_; decide)); first | with_reducible assumption | exact LB_lo (by with_reducible assumption) (by first | decide | omega))
      · refine x_iload_n C dX7_tick_22 0 rfl ?_
        refine x_bipush C 24 dX7_tick_23 (by decide) ?_
        refine x_iand C dX7_tick_25 ?_
        refine x_bipush C 24 dX7_tick_26 (by decide) ?_
        refine x_icmp_ne C 35 dX7_tick_28 (by decide) (fun c83 => ?_) (fun c83 => ?_)
        · refine x_iconst C 1 dX7_tick_31 (by decide) ?_
          refine x_goto C 36 dX7_tick_32 (by decide) ?_
          refine x_lsub (L' := [(0, .ref (q 0)), (1, .int (f_X7_ordered u))]) [1, 0] rfl ?_
          exact J81 true (by (repeat (with_reducible refine LB_put ?_ ?_; decide)); (try first | with_reducible refine LB_press ?_ | with_reducible refine LB_move ?_ | with_reducible refine LB_feel ?_ | with_reducible refine LB_act ?_); (repeat (with_reducible refine LB_put ?_ ?_; decide)); first | with_reducible assumption | exact LB_lo (by with_reducible assumption) (by first | decide | omega))
        · refine x_iconst C 0 dX7_tick_35 (by decide) ?_
          refine x_lsub (L' := [(0, .ref (q 0)), (1, .int (f_X7_ordered u))]) [1, 0] rfl ?_
          exact J81 false (by (repeat (with_reducible refine LB_put ?_ ?_; decide)); (try first | with_reducible refine LB_press ?_ | with_reducible refine LB_move ?_ | with_reducible refine LB_feel ?_ | with_reducible refine LB_act ?_); (repeat (with_reducible refine LB_put ?_ ?_; decide)); first | with_reducible assumption | exact LB_lo (by with_reducible assumption) (by first | decide | omega))
    · refine x_iconst C 1 dX7_tick_31 (by decide) ?_
      refine x_goto C 36 dX7_tick_32 (by decide) ?_
      refine x_lsub (L' := [(0, .ref (q 0)), (1, .int (f_X7_ordered u))]) [1, 0] rfl ?_
      exact J81 true (by (repeat (with_reducible refine LB_put ?_ ?_; decide)); (try first | with_reducible refine LB_press ?_ | with_reducible refine LB_move ?_ | with_reducible refine LB_feel ?_ | with_reducible refine LB_act ?_); (repeat (with_reducible refine LB_put ?_ ?_; decide)); first | with_reducible assumption | exact LB_lo (by with_reducible assumption) (by first | decide | omega))
theorem LB_tick {n : Nat} {u : St} (h : LB (n + 4) u) : LB n (f_X7_tick u) := by
  have p : ∀ {N k i : Nat} {x : Int32} {v : St}, ¬ 29 = k → LB N v → LB N (put v k i x) := fun hk h => LB_put hk h
  have z : ¬ 29 = 8 := by decide
  have a1 : ∀ b b1 b2 b3 b4 b5, LB n b → LB n (f_X7_tick_k434 b b1 b2 b3 b4 b5) := fun b b1 b2 b3 b4 b5 h => by unfold f_X7_tick_k434; exact p z (p z (p z (p z (p z h))))
  have a2 : ∀ b b1, LB n b → LB n (f_X7_tick_k348 b b1) := fun b b1 h => by unfold f_X7_tick_k348 f_X7_tick_k405_3 f_X7_tick_k405_2 f_X7_tick_k405; exact a1 _ _ _ _ _ _ h
  have a3 : ∀ b, LB n b → LB n (f_X7_tick_k438_2 b) := fun b h => by unfold f_X7_tick_k438_2 f_X7_tick_k438; exact LB_ite (a2 _ _ h) h
  have b1 : ∀ b b1 b2 b3 b4 b5, LB n b → LB n (f_X7_tick_k434_2 b b1 b2 b3 b4 b5) := fun b b1 b2 b3 b4 b5 h => by unfold f_X7_tick_k434_2; exact p z (p z (p z (p z (p z (p z h)))))
  have b2 : ∀ b b1, LB n b → LB n (f_X7_tick_k348_2 b b1) := fun b x h => by unfold f_X7_tick_k348_2 f_X7_tick_k405_6 f_X7_tick_k405_5 f_X7_tick_k405_4; exact b1 _ _ _ _ _ _ h
  have c : ∀ b, LB n b → LB n (f_X7_tick_o304 b) := fun b h => by unfold f_X7_tick_o304; exact a3 _ (LB_ite (b2 _ _ h) (p z h))
  have d : ∀ b, LB (n + 2) b → LB n (f_X7_tick_o299 b) := fun b h => by unfold f_X7_tick_o299; exact c _ (LB_act h)
  have e : ∀ b, LB (n + 4) b → LB n (f_X7_tick_o294 b) := fun b h => by unfold f_X7_tick_o294; exact d _ (LB_act h)
  have f : ∀ b, LB (n + 4) b → LB n (f_X7_tick_o284 b) := fun b h => by unfold f_X7_tick_o284; exact e _ (LB_feel h)
  have g : ∀ b, LB (n + 4) b → LB n (f_X7_tick_x199 b) := fun b h => by
    unfold f_X7_tick_x199 f_X7_tick_o263_3 f_X7_tick_o263_2 f_X7_tick_o263 f_X7_tick_o284_3 f_X7_tick_o284_2
    exact f _ (LB_move (LB_move (LB_move (LB_move (LB_move (LB_move h))))))
  have i : ∀ b b6, LB (n + 4) b → LB n (f_X7_tick_o194 u b6 b) := fun b b6 h => by
    unfold f_X7_tick_o194
    exact g _ (LB_up (I := LB (n + 4)) (fun k a h => by unfold f_X7_tick_t199 f_X7_tick_k243 f_X7_tick_o243; exact LB_press h) _ _ _ h)
  have j : ∀ b, LB (n + 4) b → LB n (f_X7_tick_k134 u b) := fun b h => by
    unfold f_X7_tick_k134 f_X7_tick_k151 f_X7_tick_k194
    exact i _ _ (LB_press h)
  unfold f_X7_tick f_X7_tick_k36 f_X7_tick_k82 f_X7_tick_k131
  refine j _ (LB_ite (LB_ite ?_ (LB_ite ?_ ?_)) ?_)
  all_goals first
    | exact p (by decide) (p (by decide) (p (by decide) h))
    | exact p (by decide) (p (by decide) h)
