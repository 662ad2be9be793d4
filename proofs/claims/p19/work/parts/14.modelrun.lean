def f_X7_run_x21 (a4 : St) : Int32 × St := (a4 8 0, a4)
def f_X7_run_o27 (o8 : St) : St := o8
def f_X7_run_t21 (i3 : Nat) (a4 : St) : St := f_X7_run_o27 (f_X7_tick a4)
def f_X7_run (u : St) (xn : Int32) : Int32 × St := if (f_X7_in xn 1 1000) = true then (f_X7_run_x21 (up f_X7_run_t21 0 (ixn xn) (put u 0 0 0))) else ((-2), put u 0 0 0)
theorem hd_X7_run : yX7_run.cls ≠ "java/lang/invoke/MethodHandle" ∧ yX7_run.cls ≠ "java/lang/invoke/VarHandle" ∧ (parseMethodDescriptor yX7_run.desc).map (fun d => d.parameters.length) = some 1 := by decide +kernel
set_option maxHeartbeats 4000000 in
set_option maxRecDepth 100000 in
theorem c_X7_run (l : Launch) (D : va_G) (cI cZ cO : ClassId) (q : Nat → Nat) (u : St) (xn : Int32) (hy0 : LB 4000 u) : CTi l D (T3 cI cZ cO) yX7_run (Cond.code yX7_run cX7_run 3 (some .int) :: WA) ({ frames := 5, cells := 0, slots := 0, locals := 116 } : Room) [.ref (q 0), .int xn] (wX7 cI cZ cO q u) ((f_X7_run u xn).1) (wX7 cI cZ cO q (f_X7_run u xn).2) := by
  refine ct_i (K := fun z => z) (t := f_X7_run u xn) (rf := fun o => o.1) (wf := fun o => wX7 cI cZ cO q o.2) (own := RX7) (nm := "run") (L0 := [(0, .ref (q 0)), (1, .int xn)]) (plainFor_of_name (by decide +kernel)) rfl rfl (Nat.le_of_ble_eq_true rfl) rfl ?_
  intro p e s m args below meth c A C
  unfold f_X7_run
  refine x_aload_n C dX7_run_0 0 rfl ?_
  refine x_iconst C 0 dX7_run_1 (by decide) ?_
  refine x_put (ws' := wX7 cI cZ cO q (put u 0 0 0)) C hwsX70 tyX7 tyX7_ok nmX7 0 mw_365 0 rfl rfl (by decide) rfl rfl rfl rfl (Nat.le_of_ble_eq_true rfl) dX7_run_2 rfl ?_
  refine x_iload_n C dX7_run_5 1 rfl ?_
  refine x_iconst C 1 dX7_run_6 (by decide) ?_
  refine x_sipush C 1000 dX7_run_7 (by decide) ?_
  refine x_cSi (As := [.int xn, .int 1, .int 1000]) (ws' := wX7 cI cZ cO q (put u 0 0 0)) C mw_367 mw_368 mw_337 mw_363 hd_X7_in rfl rfl ⟨Nat.le_of_ble_eq_true rfl, Nat.le_of_ble_eq_true rfl⟩ (c_X7_in l D cI cZ cO  xn 1 1000 ) [] [.inl 0, .inl 1, .inl 2, .inl 3, .inl 4, .inl 5, .inl 6, .inl 7, .inl 8, .inl 9, .inl 10, .inl 11, .inl 12, .inl 13, .inl 14, .inl 15, .inl 16, .inl 17, .inl 18, .inl 19, .inl 20] trivial rfl ⟨rfl, rfl, rfl, rfl, rfl, rfl, rfl, rfl, rfl, rfl, rfl, rfl, rfl, rfl, rfl, rfl, rfl, rfl, rfl, rfl, rfl, trivial⟩ rfl ⟨rfl, rfl, rfl, rfl, rfl, rfl, rfl, rfl, rfl, rfl, rfl, rfl, rfl, rfl, rfl, rfl, rfl, rfl, rfl, rfl, rfl, trivial⟩ rfl rfl (Nat.le_of_ble_eq_true rfl) (Nat.le_of_ble_eq_true rfl) (Nat.le_of_ble_eq_true rfl) dX7_run_10 ?_
  refine x_if_neZ C 19 dX7_run_13 (by decide) (fun c1 => ?_) (fun c1 => ?_)
  · have hN2 := in_run (by assumption)
    refine x_leq (congrArg (fun (z : Int32) => ([(0, .ref (q 0)), (1, .int z)] : List (Nat × Value))) hN2.1) ?_
    refine x_iconst C 0 dX7_run_19 (by decide) ?_
    refine x_istore_n (L' := [(2, .int 0), (0, .ref (q 0)), (1, .int (nI (ixn xn)))]) C dX7_run_20 (by decide) rfl ?_
    refine x_lsub (L' := [(0, .ref (q 0)), (1, .int (nI (ixn xn))), (2, .int 0)]) [1, 2, 0] rfl ?_
    refine x_loopI f_X7_run_t21 (fun (a4 : St) => f_X7_run_x21 a4) (fun (i3 : Nat) (a4 : St) => LB (4 * ((ixn xn) - i3)) a4) (ixn xn) 21 (fun (i3 : Nat) (a4 : St) => [(0, .ref (q 0)), (1, .int (nI (ixn xn))), (2, .int (nI i3))]) (fun (i3 : Nat) (a4 : St) => []) (fun (i3 : Nat) (a4 : St) => wX7 cI cZ cO q a4) (fun a4 hIa4 => ?_) (fun i3 a4 K7 hk5 hIa4 ih6 => ?_) (ixn xn) 0 (put u 0 0 0) (by omega) (by (repeat (with_reducible refine LB_put ?_ ?_; decide)); first | with_reducible assumption | exact LB_lo (by with_reducible assumption) (by first | decide | omega))
    · unfold f_X7_run_x21
      refine x_iload_n C dX7_run_21 2 rfl ?_
      refine x_iload_n C dX7_run_22 1 rfl ?_
      refine x_icmp_ge_t C 36 dX7_run_23 (by decide) Int32.lt_irrefl ?_
      refine x_aload_n C dX7_run_36 0 rfl ?_
      refine x_get (v := .int (a4 8 0)) C hwsX70 8 mw_339 0 rfl rfl (by decide) rfl rfl dX7_run_37 ?_
      exact x_iret C rfl dX7_run_40 rfl rfl
    · unfold f_X7_run_t21
      refine x_iload_n C dX7_run_21 2 rfl ?_
      refine x_iload_n C dX7_run_22 1 rfl ?_
      refine x_icmp_ge_f C 36 dX7_run_23 (by decide) (nI_lt (b := ixn xn) hk5 (by omega)) ?_
      refine x_aload_n C dX7_run_26 0 rfl ?_
      refine x_cVvW (q0 := 0) (As := []) C mw_437 mw_438 mw_439 mw_337 mw_436 hd_X7_tick rfl rfl ⟨Nat.le_of_ble_eq_true rfl, Nat.le_of_ble_eq_true rfl⟩ rfl rfl rfl (c_X7_tick l D cI cZ cO q a4 (by (repeat (with_reducible refine LB_put ?_ ?_; decide)); first | with_reducible assumption | exact LB_lo (by with_reducible assumption) (by first | decide | omega))) rfl rfl (Nat.le_of_ble_eq_true rfl) (Nat.le_of_ble_eq_true rfl) (Nat.le_of_ble_eq_true rfl) dX7_run_27 ?_
      unfold f_X7_run_o27
      have hAo8 : LB (4 * (ixn xn - (i3 + 1))) (f_X7_tick a4) := LB_tick (LB_lo (by with_reducible assumption) (by omega))
      generalize f_X7_tick a4 = o8 at hAo8 ⊢
      refine x_iinc (L' := [(2, .int (nI (i3 + 1))), (0, .ref (q 0)), (1, .int (nI (ixn xn)))]) C (nI (i3 + 1)) dX7_run_30 2 rfl (nI_add _ _) (by decide) rfl ?_
      refine x_goto C 21 dX7_run_33 (by decide) ?_
      refine x_lsub (L' := [(0, .ref (q 0)), (1, .int (nI (ixn xn))), (2, .int (nI (i3 + 1)))]) [1, 2, 0] rfl ?_
      exact ih6 o8 (by (repeat (with_reducible refine LB_put ?_ ?_; decide)); first | with_reducible assumption | exact LB_lo (by with_reducible assumption) (by first | decide | omega))
  · refine x_bipush C (-2) dX7_run_16 (by decide) ?_
    exact x_iret C rfl dX7_run_18 rfl rfl
def f_X7_settle_x21 (xn : Int32) (a4 : St) : Int32 × St := (nI (ixn xn), a4)
def f_X7_settle_o43 (g7 : (St) → Int32 × St) (o9 : St) : Int32 × St := g7 o9
def f_X7_settle_o43_2 (g7 : (St) → Int32 × St) (o11 : St) : Int32 × St := g7 o11
def f_X7_settle_t21 (i3 : Nat) (a4 : St) (g7 : (St) → Int32 × St) : Int32 × St := if (f_X7_isBusy a4 0) = true then (f_X7_settle_o43 g7 (f_X7_tick a4)) else (if (f_X7_isBusy a4 1) = true then (f_X7_settle_o43_2 g7 (f_X7_tick a4)) else (nI i3, a4))
def f_X7_settle (u : St) (xn : Int32) : Int32 × St := if (f_X7_in xn 1 1000) = true then (upr f_X7_settle_t21 (fun (a4 : St) => f_X7_settle_x21 xn a4) 0 (ixn xn) (put u 0 0 0)) else ((-2), put u 0 0 0)
theorem hd_X7_settle : yX7_settle.cls ≠ "java/lang/invoke/MethodHandle" ∧ yX7_settle.cls ≠ "java/lang/invoke/VarHandle" ∧ (parseMethodDescriptor yX7_settle.desc).map (fun d => d.parameters.length) = some 1 := by decide +kernel
set_option maxHeartbeats 4000000 in
set_option maxRecDepth 100000 in
theorem c_X7_settle (l : Launch) (D : va_G) (cI cZ cO : ClassId) (q : Nat → Nat) (u : St) (xn : Int32) (hy0 : LB 4000 u) : CTi l D (T3 cI cZ cO) yX7_settle (Cond.code yX7_settle cX7_settle 3 (some .int) :: WA) ({ frames := 5, cells := 0, slots := 0, locals := 116 } : Room) [.ref (q 0), .int xn] (wX7 cI cZ cO q u) ((f_X7_settle u xn).1) (wX7 cI cZ cO q (f_X7_settle u xn).2) := by
  refine ct_i (K := fun z => z) (t := f_X7_settle u xn) (rf := fun o => o.1) (wf := fun o => wX7 cI cZ cO q o.2) (own := RX7) (nm := "settle") (L0 := [(0, .ref (q 0)), (1, .int xn)]) (plainFor_of_name (by decide +kernel)) rfl rfl (Nat.le_of_ble_eq_true rfl) rfl ?_
  intro p e s m args below meth c A C
  unfold f_X7_settle
  refine x_aload_n C dX7_settle_0 0 rfl ?_
  refine x_iconst C 0 dX7_settle_1 (by decide) ?_
  refine x_put (ws' := wX7 cI cZ cO q (put u 0 0 0)) C hwsX70 tyX7 tyX7_ok nmX7 0 mw_365 0 rfl rfl (by decide) rfl rfl rfl rfl (Nat.le_of_ble_eq_true rfl) dX7_settle_2 rfl ?_
  refine x_iload_n C dX7_settle_5 1 rfl ?_
  refine x_iconst C 1 dX7_settle_6 (by decide) ?_
  refine x_sipush C 1000 dX7_settle_7 (by decide) ?_
  refine x_cSi (As := [.int xn, .int 1, .int 1000]) (ws' := wX7 cI cZ cO q (put u 0 0 0)) C mw_367 mw_368 mw_337 mw_363 hd_X7_in rfl rfl ⟨Nat.le_of_ble_eq_true rfl, Nat.le_of_ble_eq_true rfl⟩ (c_X7_in l D cI cZ cO  xn 1 1000 ) [] [.inl 0, .inl 1, .inl 2, .inl 3, .inl 4, .inl 5, .inl 6, .inl 7, .inl 8, .inl 9, .inl 10, .inl 11, .inl 12, .inl 13, .inl 14, .inl 15, .inl 16, .inl 17, .inl 18, .inl 19, .inl 20] trivial rfl ⟨rfl, rfl, rfl, rfl, rfl, rfl, rfl, rfl, rfl, rfl, rfl, rfl, rfl, rfl, rfl, rfl, rfl, rfl, rfl, rfl, rfl, trivial⟩ rfl ⟨rfl, rfl, rfl, rfl, rfl, rfl, rfl, rfl, rfl, rfl, rfl, rfl, rfl, rfl, rfl, rfl, rfl, rfl, rfl, rfl, rfl, trivial⟩ rfl rfl (Nat.le_of_ble_eq_true rfl) (Nat.le_of_ble_eq_true rfl) (Nat.le_of_ble_eq_true rfl) dX7_settle_10 ?_
  refine x_if_neZ C 19 dX7_settle_13 (by decide) (fun c1 => ?_) (fun c1 => ?_)
  · have hN2 := in_run (by assumption)
    refine x_leq (congrArg (fun (z : Int32) => ([(0, .ref (q 0)), (1, .int z)] : List (Nat × Value))) hN2.1) ?_
    refine x_iconst C 0 dX7_settle_19 (by decide) ?_
    refine x_istore_n (L' := [(2, .int 0), (0, .ref (q 0)), (1, .int (nI (ixn xn)))]) C dX7_settle_20 (by decide) rfl ?_
    refine x_lsub (L' := [(0, .ref (q 0)), (1, .int (nI (ixn xn))), (2, .int 0)]) [1, 2, 0] rfl ?_
    refine x_loopRI f_X7_settle_t21 (fun (a4 : St) => f_X7_settle_x21 xn a4) (fun (i3 : Nat) (a4 : St) => LB (4 * ((ixn xn) - i3)) a4) (ixn xn) 21 (fun (i3 : Nat) (a4 : St) => [(0, .ref (q 0)), (1, .int (nI (ixn xn))), (2, .int (nI i3))]) (fun (i3 : Nat) (a4 : St) => []) (fun (i3 : Nat) (a4 : St) => wX7 cI cZ cO q a4) (fun a4 hIa4 => ?_) (fun i3 a4 g7 hk5 hIa4 ih6 => ?_) (ixn xn) 0 (put u 0 0 0) (by omega) (by (repeat (with_reducible refine LB_put ?_ ?_; decide)); first | with_reducible assumption | exact LB_lo (by with_reducible assumption) (by first | decide | omega))
    · unfold f_X7_settle_x21
      refine x_iload_n C dX7_settle_21 2 rfl ?_
      refine x_iload_n C dX7_settle_22 1 rfl ?_
      refine x_icmp_ge_t C 52 dX7_settle_23 (by decide) Int32.lt_irrefl ?_
      refine x_iload_n C dX7_settle_52 2 rfl ?_
      exact x_iret C rfl dX7_settle_53 rfl rfl
    · unfold f_X7_settle_t21
      refine x_iload_n C dX7_settle_21 2 rfl ?_
      refine x_iload_n C dX7_settle_22 1 rfl ?_
      refine x_icmp_ge_f C 52 dX7_settle_23 (by decide) (nI_lt (b := ixn xn) hk5 (by omega)) ?_
      refine x_aload_n C dX7_settle_26 0 rfl ?_
      refine x_iconst C 0 dX7_settle_27 (by decide) ?_
      refine x_cViW (q0 := 0) (As := [.int 0]) C mw_442 mw_443 mw_444 mw_337 mw_441 hd_X7_isBusy rfl rfl ⟨Nat.le_of_ble_eq_true rfl, Nat.le_of_ble_eq_true rfl⟩ rfl rfl rfl (c_X7_isBusy l D cI cZ cO q a4 0 (by omega)) rfl rfl (Nat.le_of_ble_eq_true rfl) (Nat.le_of_ble_eq_true rfl) (Nat.le_of_ble_eq_true rfl) dX7_settle_28 ?_
      refine x_if_neZ C 42 dX7_settle_31 (by decide) (fun c8 => ?_) (fun c8 => ?_)
      · refine x_aload_n C dX7_settle_42 0 rfl ?_
        refine x_cVvW (q0 := 0) (As := []) C mw_437 mw_438 mw_439 mw_337 mw_436 hd_X7_tick rfl rfl ⟨Nat.le_of_ble_eq_true rfl, Nat.le_of_ble_eq_true rfl⟩ rfl rfl rfl (c_X7_tick l D cI cZ cO q a4 (by (repeat (with_reducible refine LB_put ?_ ?_; decide)); first | with_reducible assumption | exact LB_lo (by with_reducible assumption) (by first | decide | omega))) rfl rfl (Nat.le_of_ble_eq_true rfl) (Nat.le_of_ble_eq_true rfl) (Nat.le_of_ble_eq_true rfl) dX7_settle_43 ?_
        unfold f_X7_settle_o43
        have hAo9 : LB (4 * (ixn xn - (i3 + 1))) (f_X7_tick a4) := LB_tick (LB_lo (by with_reducible assumption) (by omega))
        generalize f_X7_tick a4 = o9 at hAo9 ⊢
        refine x_iinc (L' := [(2, .int (nI (i3 + 1))), (0, .ref (q 0)), (1, .int (nI (ixn xn)))]) C (nI (i3 + 1)) dX7_settle_46 2 rfl (nI_add _ _) (by decide) rfl ?_
        refine x_goto C 21 dX7_settle_49 (by decide) ?_
        refine x_lsub (L' := [(0, .ref (q 0)), (1, .int (nI (ixn xn))), (2, .int (nI (i3 + 1)))]) [1, 2, 0] rfl ?_
        exact ih6 o9 (by (repeat (with_reducible refine LB_put ?_ ?_; decide)); first | with_reducible assumption | exact LB_lo (by with_reducible assumption) (by first | decide | omega))
      · refine x_aload_n C dX7_settle_34 0 rfl ?_
        refine x_iconst C 1 dX7_settle_35 (by decide) ?_
        refine x_cViW (q0 := 0) (As := [.int 1]) C mw_442 mw_443 mw_444 mw_337 mw_441 hd_X7_isBusy rfl rfl ⟨Nat.le_of_ble_eq_true rfl, Nat.le_of_ble_eq_true rfl⟩ rfl rfl rfl (c_X7_isBusy l D cI cZ cO q a4 1 (by omega)) rfl rfl (Nat.le_of_ble_eq_true rfl) (Nat.le_of_ble_eq_true rfl) (Nat.le_of_ble_eq_true rfl) dX7_settle_36 ?_
        refine x_if_eqZ C 52 dX7_settle_39 (by decide) (fun c10 => ?_) (fun c10 => ?_)
        · refine x_aload_n C dX7_settle_42 0 rfl ?_
          refine x_cVvW (q0 := 0) (As := []) C mw_437 mw_438 mw_439 mw_337 mw_436 hd_X7_tick rfl rfl ⟨Nat.le_of_ble_eq_true rfl, Nat.le_of_ble_eq_true rfl⟩ rfl rfl rfl (c_X7_tick l D cI cZ cO q a4 (by (repeat (with_reducible refine LB_put ?_ ?_; decide)); first | with_reducible assumption | exact LB_lo (by with_reducible assumption) (by first | decide | omega))) rfl rfl (Nat.le_of_ble_eq_true rfl) (Nat.le_of_ble_eq_true rfl) (Nat.le_of_ble_eq_true rfl) dX7_settle_43 ?_
          unfold f_X7_settle_o43_2
          have hAo11 : LB (4 * (ixn xn - (i3 + 1))) (f_X7_tick a4) := LB_tick (LB_lo (by with_reducible assumption) (by omega))
          generalize f_X7_tick a4 = o11 at hAo11 ⊢
          refine x_iinc (L' := [(2, .int (nI (i3 + 1))), (0, .ref (q 0)), (1, .int (nI (ixn xn)))]) C (nI (i3 + 1)) dX7_settle_46 2 rfl (nI_add _ _) (by decide) rfl ?_
          refine x_goto C 21 dX7_settle_49 (by decide) ?_
          refine x_lsub (L' := [(0, .ref (q 0)), (1, .int (nI (ixn xn))), (2, .int (nI (i3 + 1)))]) [1, 2, 0] rfl ?_
          exact ih6 o11 (by (repeat (with_reducible refine LB_put ?_ ?_; decide)); first | with_reducible assumption | exact LB_lo (by with_reducible assumption) (by first | decide | omega))
        · refine x_iload_n C dX7_settle_52 2 rfl ?_
          exact x_iret C rfl dX7_settle_53 rfl rfl
  · refine x_bipush C (-2) dX7_settle_16 (by decide) ?_
    exact x_iret C rfl dX7_settle_18 rfl rfl
