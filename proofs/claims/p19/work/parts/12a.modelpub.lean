def f_X7_handle_k43 (u : St) (xd : Int32) (b3 : Int32) : Int32 × St := (u 1 0, put (put (put u 0 0 0) 1 0 xd) 3 0 b3)
def f_X7_handle (u : St) (xd : Int32) : Int32 × St := if (f_X7_in xd 0 1) = true then (f_X7_handle_k43 u xd (if (u 1 0) = xd then (u 3 0) else 200)) else ((-2), put u 0 0 0)
theorem hd_X7_handle : yX7_handle.cls ≠ "java/lang/invoke/MethodHandle" ∧ yX7_handle.cls ≠ "java/lang/invoke/VarHandle" ∧ (parseMethodDescriptor yX7_handle.desc).map (fun d => d.parameters.length) = some 1 := by decide +kernel
set_option maxHeartbeats 4000000 in
set_option maxRecDepth 100000 in
theorem c_X7_handle (l : Launch) (D : va_G) (cI cZ cO : ClassId) (q : Nat → Nat) (u : St) (xd : Int32)  : CTi l D (T3 cI cZ cO) yX7_handle (Cond.code yX7_handle cX7_handle 3 (some .int) :: WA) ({ frames := 1, cells := 0, slots := 0, locals := 22 } : Room) [.ref (q 0), .int xd] (wX7 cI cZ cO q u) ((f_X7_handle u xd).1) (wX7 cI cZ cO q (f_X7_handle u xd).2) := by
  refine ct_i (K := fun z => z) (t := f_X7_handle u xd) (rf := fun o => o.1) (wf := fun o => wX7 cI cZ cO q o.2) (own := RX7) (nm := "handle") (L0 := [(0, .ref (q 0)), (1, .int xd)]) (plainFor_of_name (by decide +kernel)) rfl rfl (Nat.le_of_ble_eq_true rfl) rfl ?_
  intro p e s m args below meth c A C
  unfold f_X7_handle
  refine x_aload_n C dX7_handle_0 0 rfl ?_
  refine x_iconst C 0 dX7_handle_1 (by decide) ?_
  refine x_put (ws' := wX7 cI cZ cO q (put u 0 0 0)) C hwsX70 tyX7 tyX7_ok nmX7 0 mw_365 0 rfl rfl (by decide) rfl rfl rfl rfl (Nat.le_of_ble_eq_true rfl) dX7_handle_2 rfl ?_
  refine x_iload_n C dX7_handle_5 1 rfl ?_
  refine x_iconst C 0 dX7_handle_6 (by decide) ?_
  refine x_iconst C 1 dX7_handle_7 (by decide) ?_
  refine x_cSi (As := [.int xd, .int 0, .int 1]) (ws' := wX7 cI cZ cO q (put u 0 0 0)) C mw_367 mw_368 mw_337 mw_363 hd_X7_in rfl rfl ⟨Nat.le_of_ble_eq_true rfl, Nat.le_of_ble_eq_true rfl⟩ (c_X7_in l D cI cZ cO  xd 0 1 ) [] [.inl 0, .inl 1, .inl 2, .inl 3, .inl 4, .inl 5, .inl 6, .inl 7, .inl 8, .inl 9, .inl 10, .inl 11, .inl 12, .inl 13, .inl 14, .inl 15, .inl 16, .inl 17, .inl 18, .inl 19, .inl 20] trivial rfl ⟨rfl, rfl, rfl, rfl, rfl, rfl, rfl, rfl, rfl, rfl, rfl, rfl, rfl, rfl, rfl, rfl, rfl, rfl, rfl, rfl, rfl, trivial⟩ rfl ⟨rfl, rfl, rfl, rfl, rfl, rfl, rfl, rfl, rfl, rfl, rfl, rfl, rfl, rfl, rfl, rfl, rfl, rfl, rfl, rfl, rfl, trivial⟩ rfl rfl (Nat.le_of_ble_eq_true rfl) (Nat.le_of_ble_eq_true rfl) (Nat.le_of_ble_eq_true rfl) dX7_handle_8 ?_
  refine x_if_neZ C 17 dX7_handle_11 (by decide) (fun c1 => ?_) (fun c1 => ?_)
  · refine x_aload_n C dX7_handle_17 0 rfl ?_
    refine x_get (v := .int (u 1 0)) C hwsX70 1 mw_326 0 rfl rfl (by decide) rfl rfl dX7_handle_18 ?_
    refine x_istore_n (L' := [(2, .int (u 1 0)), (0, .ref (q 0)), (1, .int xd)]) C dX7_handle_21 (by decide) rfl ?_
    refine x_aload_n C dX7_handle_22 1 rfl ?_
    refine x_iload_n C dX7_handle_23 2 rfl ?_
    refine x_put (ws' := wX7 cI cZ cO q (put (put u 0 0 0) 1 0 xd)) C hwsX70 tyX7 tyX7_ok nmX7 1 mw_326 0 rfl rfl (by decide) rfl rfl rfl rfl (Nat.le_of_ble_eq_true rfl) dX7_handle_24 rfl ?_
    refine x_aload_n C dX7_handle_27 1 rfl ?_
    refine x_iload_n C dX7_handle_28 0 rfl ?_
    refine x_iload_n C dX7_handle_29 2 rfl ?_
    refine x_join (fun (b3 : Int32) => f_X7_handle_k43 u xd b3) 43 (fun (b3 : Int32) => [(0, .ref (q 0)), (1, .int xd), (2, .int (u 1 0))]) (fun (b3 : Int32) => [.int b3, .ref (q 0)]) (fun (b3 : Int32) => wX7 cI cZ cO q (put (put u 0 0 0) 1 0 xd)) (fun b3 => ?_) _ (fun J4 => ?_)
    · unfold f_X7_handle_k43
      refine x_put (ws' := wX7 cI cZ cO q (put (put (put u 0 0 0) 1 0 xd) 3 0 b3)) C hwsX70 tyX7 tyX7_ok nmX7 3 mw_366 0 rfl rfl (by decide) rfl rfl rfl rfl (Nat.le_of_ble_eq_true rfl) dX7_handle_43 rfl ?_
      refine x_iload_n C dX7_handle_46 2 rfl ?_
      exact x_iret C rfl dX7_handle_47 rfl rfl
    · refine x_icmp_eq C 39 dX7_handle_30 (by decide) (fun c2 => ?_) (fun c2 => ?_)
      · refine x_aload_n C dX7_handle_39 1 rfl ?_
        refine x_get (v := .int (u 3 0)) C hwsX70 3 mw_366 0 rfl rfl (by decide) rfl rfl dX7_handle_40 ?_
        refine x_lsub (L' := [(0, .ref (q 0)), (1, .int xd), (2, .int (u 1 0))]) [1, 2, 0] rfl ?_
        exact J4 (u 3 0)
      · refine x_sipush C 200 dX7_handle_33 (by decide) ?_
        refine x_goto C 43 dX7_handle_36 (by decide) ?_
        refine x_lsub (L' := [(0, .ref (q 0)), (1, .int xd), (2, .int (u 1 0))]) [1, 2, 0] rfl ?_
        exact J4 200
  · refine x_bipush C (-2) dX7_handle_14 (by decide) ?_
    exact x_iret C rfl dX7_handle_16 rfl rfl
def f_X7_ground (u : St) (xb : Int32) : Int32 × St := if (f_X7_in xb 0 7) = true then (u 5 0, put (put u 0 0 0) 5 0 xb) else ((-2), put u 0 0 0)
theorem hd_X7_ground : yX7_ground.cls ≠ "java/lang/invoke/MethodHandle" ∧ yX7_ground.cls ≠ "java/lang/invoke/VarHandle" ∧ (parseMethodDescriptor yX7_ground.desc).map (fun d => d.parameters.length) = some 1 := by decide +kernel
set_option maxHeartbeats 4000000 in
set_option maxRecDepth 100000 in
theorem c_X7_ground (l : Launch) (D : va_G) (cI cZ cO : ClassId) (q : Nat → Nat) (u : St) (xb : Int32)  : CTi l D (T3 cI cZ cO) yX7_ground (Cond.code yX7_ground cX7_ground 3 (some .int) :: WA) ({ frames := 1, cells := 0, slots := 0, locals := 22 } : Room) [.ref (q 0), .int xb] (wX7 cI cZ cO q u) ((f_X7_ground u xb).1) (wX7 cI cZ cO q (f_X7_ground u xb).2) := by
  refine ct_i (K := fun z => z) (t := f_X7_ground u xb) (rf := fun o => o.1) (wf := fun o => wX7 cI cZ cO q o.2) (own := RX7) (nm := "ground") (L0 := [(0, .ref (q 0)), (1, .int xb)]) (plainFor_of_name (by decide +kernel)) rfl rfl (Nat.le_of_ble_eq_true rfl) rfl ?_
  intro p e s m args below meth c A C
  unfold f_X7_ground
  refine x_aload_n C dX7_ground_0 0 rfl ?_
  refine x_iconst C 0 dX7_ground_1 (by decide) ?_
  refine x_put (ws' := wX7 cI cZ cO q (put u 0 0 0)) C hwsX70 tyX7 tyX7_ok nmX7 0 mw_365 0 rfl rfl (by decide) rfl rfl rfl rfl (Nat.le_of_ble_eq_true rfl) dX7_ground_2 rfl ?_
  refine x_iload_n C dX7_ground_5 1 rfl ?_
  refine x_iconst C 0 dX7_ground_6 (by decide) ?_
  refine x_bipush C 7 dX7_ground_7 (by decide) ?_
  refine x_cSi (As := [.int xb, .int 0, .int 7]) (ws' := wX7 cI cZ cO q (put u 0 0 0)) C mw_367 mw_368 mw_337 mw_363 hd_X7_in rfl rfl ⟨Nat.le_of_ble_eq_true rfl, Nat.le_of_ble_eq_true rfl⟩ (c_X7_in l D cI cZ cO  xb 0 7 ) [] [.inl 0, .inl 1, .inl 2, .inl 3, .inl 4, .inl 5, .inl 6, .inl 7, .inl 8, .inl 9, .inl 10, .inl 11, .inl 12, .inl 13, .inl 14, .inl 15, .inl 16, .inl 17, .inl 18, .inl 19, .inl 20] trivial rfl ⟨rfl, rfl, rfl, rfl, rfl, rfl, rfl, rfl, rfl, rfl, rfl, rfl, rfl, rfl, rfl, rfl, rfl, rfl, rfl, rfl, rfl, trivial⟩ rfl ⟨rfl, rfl, rfl, rfl, rfl, rfl, rfl, rfl, rfl, rfl, rfl, rfl, rfl, rfl, rfl, rfl, rfl, rfl, rfl, rfl, rfl, trivial⟩ rfl rfl (Nat.le_of_ble_eq_true rfl) (Nat.le_of_ble_eq_true rfl) (Nat.le_of_ble_eq_true rfl) dX7_ground_9 ?_
  refine x_if_neZ C 18 dX7_ground_12 (by decide) (fun c1 => ?_) (fun c1 => ?_)
  · refine x_aload_n C dX7_ground_18 0 rfl ?_
    refine x_get (v := .int (u 5 0)) C hwsX70 5 mw_331 0 rfl rfl (by decide) rfl rfl dX7_ground_19 ?_
    refine x_istore_n (L' := [(2, .int (u 5 0)), (0, .ref (q 0)), (1, .int xb)]) C dX7_ground_22 (by decide) rfl ?_
    refine x_aload_n C dX7_ground_23 1 rfl ?_
    refine x_iload_n C dX7_ground_24 2 rfl ?_
    refine x_put (ws' := wX7 cI cZ cO q (put (put u 0 0 0) 5 0 xb)) C hwsX70 tyX7 tyX7_ok nmX7 5 mw_331 0 rfl rfl (by decide) rfl rfl rfl rfl (Nat.le_of_ble_eq_true rfl) dX7_ground_25 rfl ?_
    refine x_iload_n C dX7_ground_28 0 rfl ?_
    exact x_iret C rfl dX7_ground_29 rfl rfl
  · refine x_bipush C (-2) dX7_ground_15 (by decide) ?_
    exact x_iret C rfl dX7_ground_17 rfl rfl
def f_X7_channel (u : St) (xs : Int32) (xc : Int32) (xf : Int32) : Int32 × St := if (f_X7_in xs 0 17) = true then (if (f_X7_in xc 0 2) = true then (if (f_X7_in xf 0 3) = true then (u 15 ((3 * (ixn xs)) + (ixn xc)), put (put u 0 0 0) 15 ((3 * (ixn xs)) + (ixn xc)) xf) else ((-2), put u 0 0 0)) else ((-2), put u 0 0 0)) else ((-2), put u 0 0 0)
theorem hd_X7_channel : yX7_channel.cls ≠ "java/lang/invoke/MethodHandle" ∧ yX7_channel.cls ≠ "java/lang/invoke/VarHandle" ∧ (parseMethodDescriptor yX7_channel.desc).map (fun d => d.parameters.length) = some 3 := by decide +kernel
set_option maxHeartbeats 4000000 in
set_option maxRecDepth 100000 in
theorem c_X7_channel (l : Launch) (D : va_G) (cI cZ cO : ClassId) (q : Nat → Nat) (u : St) (xs : Int32) (xc : Int32) (xf : Int32)  : CTi l D (T3 cI cZ cO) yX7_channel (Cond.code yX7_channel cX7_channel 5 (some .int) :: WA) ({ frames := 1, cells := 0, slots := 0, locals := 22 } : Room) [.ref (q 0), .int xs, .int xc, .int xf] (wX7 cI cZ cO q u) ((f_X7_channel u xs xc xf).1) (wX7 cI cZ cO q (f_X7_channel u xs xc xf).2) := by
  refine ct_i (K := fun z => z) (t := f_X7_channel u xs xc xf) (rf := fun o => o.1) (wf := fun o => wX7 cI cZ cO q o.2) (own := RX7) (nm := "channel") (L0 := [(0, .ref (q 0)), (1, .int xs), (2, .int xc), (3, .int xf)]) (plainFor_of_name (by decide +kernel)) rfl rfl (Nat.le_of_ble_eq_true rfl) rfl ?_
  intro p e s m args below meth c A C
  unfold f_X7_channel
  refine x_aload_n C dX7_channel_0 0 rfl ?_
  refine x_iconst C 0 dX7_channel_1 (by decide) ?_
  refine x_put (ws' := wX7 cI cZ cO q (put u 0 0 0)) C hwsX70 tyX7 tyX7_ok nmX7 0 mw_365 0 rfl rfl (by decide) rfl rfl rfl rfl (Nat.le_of_ble_eq_true rfl) dX7_channel_2 rfl ?_
  refine x_iload_n C dX7_channel_5 1 rfl ?_
  refine x_iconst C 0 dX7_channel_6 (by decide) ?_
  refine x_bipush C 17 dX7_channel_7 (by decide) ?_
  refine x_cSi (As := [.int xs, .int 0, .int 17]) (ws' := wX7 cI cZ cO q (put u 0 0 0)) C mw_367 mw_368 mw_337 mw_363 hd_X7_in rfl rfl ⟨Nat.le_of_ble_eq_true rfl, Nat.le_of_ble_eq_true rfl⟩ (c_X7_in l D cI cZ cO  xs 0 17 ) [] [.inl 0, .inl 1, .inl 2, .inl 3, .inl 4, .inl 5, .inl 6, .inl 7, .inl 8, .inl 9, .inl 10, .inl 11, .inl 12, .inl 13, .inl 14, .inl 15, .inl 16, .inl 17, .inl 18, .inl 19, .inl 20] trivial rfl ⟨rfl, rfl, rfl, rfl, rfl, rfl, rfl, rfl, rfl, rfl, rfl, rfl, rfl, rfl, rfl, rfl, rfl, rfl, rfl, rfl, rfl, trivial⟩ rfl ⟨rfl, rfl, rfl, rfl, rfl, rfl, rfl, rfl, rfl, rfl, rfl, rfl, rfl, rfl, rfl, rfl, rfl, rfl, rfl, rfl, rfl, trivial⟩ rfl rfl (Nat.le_of_ble_eq_true rfl) (Nat.le_of_ble_eq_true rfl) (Nat.le_of_ble_eq_true rfl) dX7_channel_9 ?_
  refine x_if_eqZ C 33 dX7_channel_12 (by decide) (fun c1 => ?_) (fun c1 => ?_)
  · refine x_iload_n C dX7_channel_15 2 rfl ?_
    refine x_iconst C 0 dX7_channel_16 (by decide) ?_
    refine x_iconst C 2 dX7_channel_17 (by decide) ?_
    refine x_cSi (As := [.int xc, .int 0, .int 2]) (ws' := wX7 cI cZ cO q (put u 0 0 0)) C mw_367 mw_368 mw_337 mw_363 hd_X7_in rfl rfl ⟨Nat.le_of_ble_eq_true rfl, Nat.le_of_ble_eq_true rfl⟩ (c_X7_in l D cI cZ cO  xc 0 2 ) [] [.inl 0, .inl 1, .inl 2, .inl 3, .inl 4, .inl 5, .inl 6, .inl 7, .inl 8, .inl 9, .inl 10, .inl 11, .inl 12, .inl 13, .inl 14, .inl 15, .inl 16, .inl 17, .inl 18, .inl 19, .inl 20] trivial rfl ⟨rfl, rfl, rfl, rfl, rfl, rfl, rfl, rfl, rfl, rfl, rfl, rfl, rfl, rfl, rfl, rfl, rfl, rfl, rfl, rfl, rfl, trivial⟩ rfl ⟨rfl, rfl, rfl, rfl, rfl, rfl, rfl, rfl, rfl, rfl, rfl, rfl, rfl, rfl, rfl, rfl, rfl, rfl, rfl, rfl, rfl, trivial⟩ rfl rfl (Nat.le_of_ble_eq_true rfl) (Nat.le_of_ble_eq_true rfl) (Nat.le_of_ble_eq_true rfl) dX7_channel_18 ?_
    refine x_if_eqZ C 33 dX7_channel_21 (by decide) (fun c2 => ?_) (fun c2 => ?_)
    · refine x_iload_n C dX7_channel_24 3 rfl ?_
      refine x_iconst C 0 dX7_channel_25 (by decide) ?_
      refine x_iconst C 3 dX7_channel_26 (by decide) ?_
      refine x_cSi (As := [.int xf, .int 0, .int 3]) (ws' := wX7 cI cZ cO q (put u 0 0 0)) C mw_367 mw_368 mw_337 mw_363 hd_X7_in rfl rfl ⟨Nat.le_of_ble_eq_true rfl, Nat.le_of_ble_eq_true rfl⟩ (c_X7_in l D cI cZ cO  xf 0 3 ) [] [.inl 0, .inl 1, .inl 2, .inl 3, .inl 4, .inl 5, .inl 6, .inl 7, .inl 8, .inl 9, .inl 10, .inl 11, .inl 12, .inl 13, .inl 14, .inl 15, .inl 16, .inl 17, .inl 18, .inl 19, .inl 20] trivial rfl ⟨rfl, rfl, rfl, rfl, rfl, rfl, rfl, rfl, rfl, rfl, rfl, rfl, rfl, rfl, rfl, rfl, rfl, rfl, rfl, rfl, rfl, trivial⟩ rfl ⟨rfl, rfl, rfl, rfl, rfl, rfl, rfl, rfl, rfl, rfl, rfl, rfl, rfl, rfl, rfl, rfl, rfl, rfl, rfl, rfl, rfl, trivial⟩ rfl rfl (Nat.le_of_ble_eq_true rfl) (Nat.le_of_ble_eq_true rfl) (Nat.le_of_ble_eq_true rfl) dX7_channel_27 ?_
      refine x_if_neZ C 36 dX7_channel_30 (by decide) (fun c3 => ?_) (fun c3 => ?_)
      · have hN4 := in_nat 17 (by decide) (g := 17) rfl (by assumption : f_X7_in xs 0 17 = true)
        refine x_leq (congrArg (fun (z : Int32) => ([(0, .ref (q 0)), (1, .int z), (2, .int xc), (3, .int xf)] : List (Nat × Value))) hN4.1) ?_
        have hN5 := in_nat 2 (by decide) (g := 2) rfl (by assumption : f_X7_in xc 0 2 = true)
        refine x_leq (congrArg (fun (z : Int32) => ([(0, .ref (q 0)), (1, .int (nI (ixn xs))), (2, .int z), (3, .int xf)] : List (Nat × Value))) hN5.1) ?_
        refine x_aload_n C dX7_channel_36 0 rfl ?_
        refine x_get (v := .ref (q 6)) C hwsX70 15 mw_342 0 rfl rfl (by decide) rfl rfl dX7_channel_37 ?_
        refine x_iconst C 3 dX7_channel_40 (by decide) ?_
        refine x_iload_n C dX7_channel_41 1 rfl ?_
        refine x_imul C dX7_channel_42 ?_
        refine x_top (nI (3 * (ixn xs))) (pk_mul _ _) ?_
        refine x_iload_n C dX7_channel_43 2 rfl ?_
        refine x_iadd C dX7_channel_44 ?_
        refine x_top (nI ((3 * (ixn xs)) + (ixn xc))) (nI_add _ _) ?_
        refine x_iald C 6 0 rfl rfl ((3 * (ixn xs)) + (ixn xc)) rfl (by omega) (by decide) (u 15 ((3 * (ixn xs)) + (ixn xc))) (by simp [put, upd]) dX7_channel_45 ?_
        refine x_istore (L' := [(4, .int (u 15 ((3 * (ixn xs)) + (ixn xc)))), (0, .ref (q 0)), (1, .int (nI (ixn xs))), (2, .int (nI (ixn xc))), (3, .int xf)]) C dX7_channel_46 (by decide) rfl ?_
        refine x_aload_n C dX7_channel_48 1 rfl ?_
        refine x_get (v := .ref (q 6)) C hwsX70 15 mw_342 0 rfl rfl (by decide) rfl rfl dX7_channel_49 ?_
        refine x_iconst C 3 dX7_channel_52 (by decide) ?_
        refine x_iload_n C dX7_channel_53 2 rfl ?_
        refine x_imul C dX7_channel_54 ?_
        refine x_top (nI (3 * (ixn xs))) (pk_mul _ _) ?_
        refine x_iload_n C dX7_channel_55 3 rfl ?_
        refine x_iadd C dX7_channel_56 ?_
        refine x_top (nI ((3 * (ixn xs)) + (ixn xc))) (nI_add _ _) ?_
        refine x_iload_n C dX7_channel_57 4 rfl ?_
        refine x_iast (ws' := wX7 cI cZ cO q (put (put u 0 0 0) 15 ((3 * (ixn xs)) + (ixn xc)) xf)) C 6 0 rfl rfl ((3 * (ixn xs)) + (ixn xc)) rfl (by omega) (by decide) dX7_channel_58 rfl ?_
        refine x_iload C dX7_channel_59 0 rfl ?_
        exact x_iret C rfl dX7_channel_61 rfl rfl
      · refine x_bipush C (-2) dX7_channel_33 (by decide) ?_
        exact x_iret C rfl dX7_channel_35 rfl rfl
    · refine x_bipush C (-2) dX7_channel_33 (by decide) ?_
      exact x_iret C rfl dX7_channel_35 rfl rfl
  · refine x_bipush C (-2) dX7_channel_33 (by decide) ?_
    exact x_iret C rfl dX7_channel_35 rfl rfl
def f_X7_cylinder (u : St) (xk : Int32) (xf : Int32) : Int32 × St := if (f_X7_in xk 0 5) = true then (if (f_X7_in xf 0 1) = true then (u 14 (ixn xk), put (put u 0 0 0) 14 (ixn xk) xf) else ((-2), put u 0 0 0)) else ((-2), put u 0 0 0)
theorem hd_X7_cylinder : yX7_cylinder.cls ≠ "java/lang/invoke/MethodHandle" ∧ yX7_cylinder.cls ≠ "java/lang/invoke/VarHandle" ∧ (parseMethodDescriptor yX7_cylinder.desc).map (fun d => d.parameters.length) = some 2 := by decide +kernel
set_option maxHeartbeats 4000000 in
set_option maxRecDepth 100000 in
theorem c_X7_cylinder (l : Launch) (D : va_G) (cI cZ cO : ClassId) (q : Nat → Nat) (u : St) (xk : Int32) (xf : Int32)  : CTi l D (T3 cI cZ cO) yX7_cylinder (Cond.code yX7_cylinder cX7_cylinder 4 (some .int) :: WA) ({ frames := 1, cells := 0, slots := 0, locals := 22 } : Room) [.ref (q 0), .int xk, .int xf] (wX7 cI cZ cO q u) ((f_X7_cylinder u xk xf).1) (wX7 cI cZ cO q (f_X7_cylinder u xk xf).2) := by
  refine ct_i (K := fun z => z) (t := f_X7_cylinder u xk xf) (rf := fun o => o.1) (wf := fun o => wX7 cI cZ cO q o.2) (own := RX7) (nm := "cylinder") (L0 := [(0, .ref (q 0)), (1, .int xk), (2, .int xf)]) (plainFor_of_name (by decide +kernel)) rfl rfl (Nat.le_of_ble_eq_true rfl) rfl ?_
  intro p e s m args below meth c A C
  unfold f_X7_cylinder
  refine x_aload_n C dX7_cylinder_0 0 rfl ?_
  refine x_iconst C 0 dX7_cylinder_1 (by decide) ?_
  refine x_put (ws' := wX7 cI cZ cO q (put u 0 0 0)) C hwsX70 tyX7 tyX7_ok nmX7 0 mw_365 0 rfl rfl (by decide) rfl rfl rfl rfl (Nat.le_of_ble_eq_true rfl) dX7_cylinder_2 rfl ?_
  refine x_iload_n C dX7_cylinder_5 1 rfl ?_
  refine x_iconst C 0 dX7_cylinder_6 (by decide) ?_
  refine x_iconst C 5 dX7_cylinder_7 (by decide) ?_
  refine x_cSi (As := [.int xk, .int 0, .int 5]) (ws' := wX7 cI cZ cO q (put u 0 0 0)) C mw_367 mw_368 mw_337 mw_363 hd_X7_in rfl rfl ⟨Nat.le_of_ble_eq_true rfl, Nat.le_of_ble_eq_true rfl⟩ (c_X7_in l D cI cZ cO  xk 0 5 ) [] [.inl 0, .inl 1, .inl 2, .inl 3, .inl 4, .inl 5, .inl 6, .inl 7, .inl 8, .inl 9, .inl 10, .inl 11, .inl 12, .inl 13, .inl 14, .inl 15, .inl 16, .inl 17, .inl 18, .inl 19, .inl 20] trivial rfl ⟨rfl, rfl, rfl, rfl, rfl, rfl, rfl, rfl, rfl, rfl, rfl, rfl, rfl, rfl, rfl, rfl, rfl, rfl, rfl, rfl, rfl, trivial⟩ rfl ⟨rfl, rfl, rfl, rfl, rfl, rfl, rfl, rfl, rfl, rfl, rfl, rfl, rfl, rfl, rfl, rfl, rfl, rfl, rfl, rfl, rfl, trivial⟩ rfl rfl (Nat.le_of_ble_eq_true rfl) (Nat.le_of_ble_eq_true rfl) (Nat.le_of_ble_eq_true rfl) dX7_cylinder_8 ?_
  refine x_if_eqZ C 23 dX7_cylinder_11 (by decide) (fun c1 => ?_) (fun c1 => ?_)
  · refine x_iload_n C dX7_cylinder_14 2 rfl ?_
    refine x_iconst C 0 dX7_cylinder_15 (by decide) ?_
    refine x_iconst C 1 dX7_cylinder_16 (by decide) ?_
    refine x_cSi (As := [.int xf, .int 0, .int 1]) (ws' := wX7 cI cZ cO q (put u 0 0 0)) C mw_367 mw_368 mw_337 mw_363 hd_X7_in rfl rfl ⟨Nat.le_of_ble_eq_true rfl, Nat.le_of_ble_eq_true rfl⟩ (c_X7_in l D cI cZ cO  xf 0 1 ) [] [.inl 0, .inl 1, .inl 2, .inl 3, .inl 4, .inl 5, .inl 6, .inl 7, .inl 8, .inl 9, .inl 10, .inl 11, .inl 12, .inl 13, .inl 14, .inl 15, .inl 16, .inl 17, .inl 18, .inl 19, .inl 20] trivial rfl ⟨rfl, rfl, rfl, rfl, rfl, rfl, rfl, rfl, rfl, rfl, rfl, rfl, rfl, rfl, rfl, rfl, rfl, rfl, rfl, rfl, rfl, trivial⟩ rfl ⟨rfl, rfl, rfl, rfl, rfl, rfl, rfl, rfl, rfl, rfl, rfl, rfl, rfl, rfl, rfl, rfl, rfl, rfl, rfl, rfl, rfl, trivial⟩ rfl rfl (Nat.le_of_ble_eq_true rfl) (Nat.le_of_ble_eq_true rfl) (Nat.le_of_ble_eq_true rfl) dX7_cylinder_17 ?_
    refine x_if_neZ C 26 dX7_cylinder_20 (by decide) (fun c2 => ?_) (fun c2 => ?_)
    · have hN3 := in_nat 5 (by decide) (g := 5) rfl (by assumption : f_X7_in xk 0 5 = true)
      refine x_leq (congrArg (fun (z : Int32) => ([(0, .ref (q 0)), (1, .int z), (2, .int xf)] : List (Nat × Value))) hN3.1) ?_
      refine x_aload_n C dX7_cylinder_26 0 rfl ?_
      refine x_get (v := .ref (q 5)) C hwsX70 14 mw_341 0 rfl rfl (by decide) rfl rfl dX7_cylinder_27 ?_
      refine x_iload_n C dX7_cylinder_30 1 rfl ?_
      refine x_iald C 5 0 rfl rfl (ixn xk) rfl (by omega) (by decide) (u 14 (ixn xk)) (by simp [put, upd]) dX7_cylinder_31 ?_
      refine x_istore_n (L' := [(3, .int (u 14 (ixn xk))), (0, .ref (q 0)), (1, .int (nI (ixn xk))), (2, .int xf)]) C dX7_cylinder_32 (by decide) rfl ?_
      refine x_aload_n C dX7_cylinder_33 1 rfl ?_
      refine x_get (v := .ref (q 5)) C hwsX70 14 mw_341 0 rfl rfl (by decide) rfl rfl dX7_cylinder_34 ?_
      refine x_iload_n C dX7_cylinder_37 2 rfl ?_
      refine x_iload_n C dX7_cylinder_38 3 rfl ?_
      refine x_iast (ws' := wX7 cI cZ cO q (put (put u 0 0 0) 14 (ixn xk) xf)) C 5 0 rfl rfl (ixn xk) rfl (by omega) (by decide) dX7_cylinder_39 rfl ?_
      refine x_iload_n C dX7_cylinder_40 0 rfl ?_
      exact x_iret C rfl dX7_cylinder_41 rfl rfl
    · refine x_bipush C (-2) dX7_cylinder_23 (by decide) ?_
      exact x_iret C rfl dX7_cylinder_25 rfl rfl
  · refine x_bipush C (-2) dX7_cylinder_23 (by decide) ?_
    exact x_iret C rfl dX7_cylinder_25 rfl rfl
def f_X7_valve (u : St) (xk : Int32) (xf : Int32) : Int32 × St := if (f_X7_in xk 0 4) = true then (if (f_X7_in xf 0 2) = true then (u 11 (ixn xk), put (put u 0 0 0) 11 (ixn xk) xf) else ((-2), put u 0 0 0)) else ((-2), put u 0 0 0)
theorem hd_X7_valve : yX7_valve.cls ≠ "java/lang/invoke/MethodHandle" ∧ yX7_valve.cls ≠ "java/lang/invoke/VarHandle" ∧ (parseMethodDescriptor yX7_valve.desc).map (fun d => d.parameters.length) = some 2 := by decide +kernel
set_option maxHeartbeats 4000000 in
set_option maxRecDepth 100000 in
theorem c_X7_valve (l : Launch) (D : va_G) (cI cZ cO : ClassId) (q : Nat → Nat) (u : St) (xk : Int32) (xf : Int32)  : CTi l D (T3 cI cZ cO) yX7_valve (Cond.code yX7_valve cX7_valve 4 (some .int) :: WA) ({ frames := 1, cells := 0, slots := 0, locals := 22 } : Room) [.ref (q 0), .int xk, .int xf] (wX7 cI cZ cO q u) ((f_X7_valve u xk xf).1) (wX7 cI cZ cO q (f_X7_valve u xk xf).2) := by
  refine ct_i (K := fun z => z) (t := f_X7_valve u xk xf) (rf := fun o => o.1) (wf := fun o => wX7 cI cZ cO q o.2) (own := RX7) (nm := "valve") (L0 := [(0, .ref (q 0)), (1, .int xk), (2, .int xf)]) (plainFor_of_name (by decide +kernel)) rfl rfl (Nat.le_of_ble_eq_true rfl) rfl ?_
  intro p e s m args below meth c A C
  unfold f_X7_valve
  refine x_aload_n C dX7_valve_0 0 rfl ?_
  refine x_iconst C 0 dX7_valve_1 (by decide) ?_
  refine x_put (ws' := wX7 cI cZ cO q (put u 0 0 0)) C hwsX70 tyX7 tyX7_ok nmX7 0 mw_365 0 rfl rfl (by decide) rfl rfl rfl rfl (Nat.le_of_ble_eq_true rfl) dX7_valve_2 rfl ?_
  refine x_iload_n C dX7_valve_5 1 rfl ?_
  refine x_iconst C 0 dX7_valve_6 (by decide) ?_
  refine x_iconst C 4 dX7_valve_7 (by decide) ?_
  refine x_cSi (As := [.int xk, .int 0, .int 4]) (ws' := wX7 cI cZ cO q (put u 0 0 0)) C mw_367 mw_368 mw_337 mw_363 hd_X7_in rfl rfl ⟨Nat.le_of_ble_eq_true rfl, Nat.le_of_ble_eq_true rfl⟩ (c_X7_in l D cI cZ cO  xk 0 4 ) [] [.inl 0, .inl 1, .inl 2, .inl 3, .inl 4, .inl 5, .inl 6, .inl 7, .inl 8, .inl 9, .inl 10, .inl 11, .inl 12, .inl 13, .inl 14, .inl 15, .inl 16, .inl 17, .inl 18, .inl 19, .inl 20] trivial rfl ⟨rfl, rfl, rfl, rfl, rfl, rfl, rfl, rfl, rfl, rfl, rfl, rfl, rfl, rfl, rfl, rfl, rfl, rfl, rfl, rfl, rfl, trivial⟩ rfl ⟨rfl, rfl, rfl, rfl, rfl, rfl, rfl, rfl, rfl, rfl, rfl, rfl, rfl, rfl, rfl, rfl, rfl, rfl, rfl, rfl, rfl, trivial⟩ rfl rfl (Nat.le_of_ble_eq_true rfl) (Nat.le_of_ble_eq_true rfl) (Nat.le_of_ble_eq_true rfl) dX7_valve_8 ?_
  refine x_if_eqZ C 23 dX7_valve_11 (by decide) (fun c1 => ?_) (fun c1 => ?_)
  · refine x_iload_n C dX7_valve_14 2 rfl ?_
    refine x_iconst C 0 dX7_valve_15 (by decide) ?_
    refine x_iconst C 2 dX7_valve_16 (by decide) ?_
    refine x_cSi (As := [.int xf, .int 0, .int 2]) (ws' := wX7 cI cZ cO q (put u 0 0 0)) C mw_367 mw_368 mw_337 mw_363 hd_X7_in rfl rfl ⟨Nat.le_of_ble_eq_true rfl, Nat.le_of_ble_eq_true rfl⟩ (c_X7_in l D cI cZ cO  xf 0 2 ) [] [.inl 0, .inl 1, .inl 2, .inl 3, .inl 4, .inl 5, .inl 6, .inl 7, .inl 8, .inl 9, .inl 10, .inl 11, .inl 12, .inl 13, .inl 14, .inl 15, .inl 16, .inl 17, .inl 18, .inl 19, .inl 20] trivial rfl ⟨rfl, rfl, rfl, rfl, rfl, rfl, rfl, rfl, rfl, rfl, rfl, rfl, rfl, rfl, rfl, rfl, rfl, rfl, rfl, rfl, rfl, trivial⟩ rfl ⟨rfl, rfl, rfl, rfl, rfl, rfl, rfl, rfl, rfl, rfl, rfl, rfl, rfl, rfl, rfl, rfl, rfl, rfl, rfl, rfl, rfl, trivial⟩ rfl rfl (Nat.le_of_ble_eq_true rfl) (Nat.le_of_ble_eq_true rfl) (Nat.le_of_ble_eq_true rfl) dX7_valve_17 ?_
    refine x_if_neZ C 26 dX7_valve_20 (by decide) (fun c2 => ?_) (fun c2 => ?_)
    · have hN3 := in_nat 4 (by decide) (g := 4) rfl (by assumption : f_X7_in xk 0 4 = true)
      refine x_leq (congrArg (fun (z : Int32) => ([(0, .ref (q 0)), (1, .int z), (2, .int xf)] : List (Nat × Value))) hN3.1) ?_
      refine x_aload_n C dX7_valve_26 0 rfl ?_
      refine x_get (v := .ref (q 2)) C hwsX70 11 mw_340 0 rfl rfl (by decide) rfl rfl dX7_valve_27 ?_
      refine x_iload_n C dX7_valve_30 1 rfl ?_
      refine x_iald C 2 0 rfl rfl (ixn xk) rfl (by omega) (by decide) (u 11 (ixn xk)) (by simp [put, upd]) dX7_valve_31 ?_
      refine x_istore_n (L' := [(3, .int (u 11 (ixn xk))), (0, .ref (q 0)), (1, .int (nI (ixn xk))), (2, .int xf)]) C dX7_valve_32 (by decide) rfl ?_
      refine x_aload_n C dX7_valve_33 1 rfl ?_
      refine x_get (v := .ref (q 2)) C hwsX70 11 mw_340 0 rfl rfl (by decide) rfl rfl dX7_valve_34 ?_
      refine x_iload_n C dX7_valve_37 2 rfl ?_
      refine x_iload_n C dX7_valve_38 3 rfl ?_
      refine x_iast (ws' := wX7 cI cZ cO q (put (put u 0 0 0) 11 (ixn xk) xf)) C 2 0 rfl rfl (ixn xk) rfl (by omega) (by decide) dX7_valve_39 rfl ?_
      refine x_iload_n C dX7_valve_40 0 rfl ?_
      exact x_iret C rfl dX7_valve_41 rfl rfl
    · refine x_bipush C (-2) dX7_valve_23 (by decide) ?_
      exact x_iret C rfl dX7_valve_25 rfl rfl
  · refine x_bipush C (-2) dX7_valve_23 (by decide) ?_
    exact x_iret C rfl dX7_valve_25 rfl rfl
def f_X7_stick (u : St) (xf : Int32) : Int32 × St := if (f_X7_in xf 0 1) = true then (u 4 0, put (put u 0 0 0) 4 0 xf) else ((-2), put u 0 0 0)
theorem hd_X7_stick : yX7_stick.cls ≠ "java/lang/invoke/MethodHandle" ∧ yX7_stick.cls ≠ "java/lang/invoke/VarHandle" ∧ (parseMethodDescriptor yX7_stick.desc).map (fun d => d.parameters.length) = some 1 := by decide +kernel
set_option maxHeartbeats 4000000 in
set_option maxRecDepth 100000 in
theorem c_X7_stick (l : Launch) (D : va_G) (cI cZ cO : ClassId) (q : Nat → Nat) (u : St) (xf : Int32)  : CTi l D (T3 cI cZ cO) yX7_stick (Cond.code yX7_stick cX7_stick 3 (some .int) :: WA) ({ frames := 1, cells := 0, slots := 0, locals := 22 } : Room) [.ref (q 0), .int xf] (wX7 cI cZ cO q u) ((f_X7_stick u xf).1) (wX7 cI cZ cO q (f_X7_stick u xf).2) := by
  refine ct_i (K := fun z => z) (t := f_X7_stick u xf) (rf := fun o => o.1) (wf := fun o => wX7 cI cZ cO q o.2) (own := RX7) (nm := "stick") (L0 := [(0, .ref (q 0)), (1, .int xf)]) (plainFor_of_name (by decide +kernel)) rfl rfl (Nat.le_of_ble_eq_true rfl) rfl ?_
  intro p e s m args below meth c A C
  unfold f_X7_stick
  refine x_aload_n C dX7_stick_0 0 rfl ?_
  refine x_iconst C 0 dX7_stick_1 (by decide) ?_
  refine x_put (ws' := wX7 cI cZ cO q (put u 0 0 0)) C hwsX70 tyX7 tyX7_ok nmX7 0 mw_365 0 rfl rfl (by decide) rfl rfl rfl rfl (Nat.le_of_ble_eq_true rfl) dX7_stick_2 rfl ?_
  refine x_iload_n C dX7_stick_5 1 rfl ?_
  refine x_iconst C 0 dX7_stick_6 (by decide) ?_
  refine x_iconst C 1 dX7_stick_7 (by decide) ?_
  refine x_cSi (As := [.int xf, .int 0, .int 1]) (ws' := wX7 cI cZ cO q (put u 0 0 0)) C mw_367 mw_368 mw_337 mw_363 hd_X7_in rfl rfl ⟨Nat.le_of_ble_eq_true rfl, Nat.le_of_ble_eq_true rfl⟩ (c_X7_in l D cI cZ cO  xf 0 1 ) [] [.inl 0, .inl 1, .inl 2, .inl 3, .inl 4, .inl 5, .inl 6, .inl 7, .inl 8, .inl 9, .inl 10, .inl 11, .inl 12, .inl 13, .inl 14, .inl 15, .inl 16, .inl 17, .inl 18, .inl 19, .inl 20] trivial rfl ⟨rfl, rfl, rfl, rfl, rfl, rfl, rfl, rfl, rfl, rfl, rfl, rfl, rfl, rfl, rfl, rfl, rfl, rfl, rfl, rfl, rfl, trivial⟩ rfl ⟨rfl, rfl, rfl, rfl, rfl, rfl, rfl, rfl, rfl, rfl, rfl, rfl, rfl, rfl, rfl, rfl, rfl, rfl, rfl, rfl, rfl, trivial⟩ rfl rfl (Nat.le_of_ble_eq_true rfl) (Nat.le_of_ble_eq_true rfl) (Nat.le_of_ble_eq_true rfl) dX7_stick_8 ?_
  refine x_if_neZ C 17 dX7_stick_11 (by decide) (fun c1 => ?_) (fun c1 => ?_)
  · refine x_aload_n C dX7_stick_17 0 rfl ?_
    refine x_get (v := .int (u 4 0)) C hwsX70 4 mw_374 0 rfl rfl (by decide) rfl rfl dX7_stick_18 ?_
    refine x_istore_n (L' := [(2, .int (u 4 0)), (0, .ref (q 0)), (1, .int xf)]) C dX7_stick_21 (by decide) rfl ?_
    refine x_aload_n C dX7_stick_22 1 rfl ?_
    refine x_iload_n C dX7_stick_23 2 rfl ?_
    refine x_put (ws' := wX7 cI cZ cO q (put (put u 0 0 0) 4 0 xf)) C hwsX70 tyX7 tyX7_ok nmX7 4 mw_374 0 rfl rfl (by decide) rfl rfl rfl rfl (Nat.le_of_ble_eq_true rfl) dX7_stick_24 rfl ?_
    refine x_iload_n C dX7_stick_27 0 rfl ?_
    exact x_iret C rfl dX7_stick_28 rfl rfl
  · refine x_bipush C (-2) dX7_stick_14 (by decide) ?_
    exact x_iret C rfl dX7_stick_16 rfl rfl
def f_X7_module (u : St) (xm : Int32) (xf : Int32) : Int32 × St := if (f_X7_in xm 0 1) = true then (if (f_X7_in xf 0 1) = true then (u 21 (ixn xm), put (put u 0 0 0) 21 (ixn xm) xf) else ((-2), put u 0 0 0)) else ((-2), put u 0 0 0)
theorem hd_X7_module : yX7_module.cls ≠ "java/lang/invoke/MethodHandle" ∧ yX7_module.cls ≠ "java/lang/invoke/VarHandle" ∧ (parseMethodDescriptor yX7_module.desc).map (fun d => d.parameters.length) = some 2 := by decide +kernel
set_option maxHeartbeats 4000000 in
set_option maxRecDepth 100000 in
theorem c_X7_module (l : Launch) (D : va_G) (cI cZ cO : ClassId) (q : Nat → Nat) (u : St) (xm : Int32) (xf : Int32)  : CTi l D (T3 cI cZ cO) yX7_module (Cond.code yX7_module cX7_module 4 (some .int) :: WA) ({ frames := 1, cells := 0, slots := 0, locals := 22 } : Room) [.ref (q 0), .int xm, .int xf] (wX7 cI cZ cO q u) ((f_X7_module u xm xf).1) (wX7 cI cZ cO q (f_X7_module u xm xf).2) := by
  refine ct_i (K := fun z => z) (t := f_X7_module u xm xf) (rf := fun o => o.1) (wf := fun o => wX7 cI cZ cO q o.2) (own := RX7) (nm := "module") (L0 := [(0, .ref (q 0)), (1, .int xm), (2, .int xf)]) (plainFor_of_name (by decide +kernel)) rfl rfl (Nat.le_of_ble_eq_true rfl) rfl ?_
  intro p e s m args below meth c A C
  unfold f_X7_module
  refine x_aload_n C dX7_module_0 0 rfl ?_
  refine x_iconst C 0 dX7_module_1 (by decide) ?_
  refine x_put (ws' := wX7 cI cZ cO q (put u 0 0 0)) C hwsX70 tyX7 tyX7_ok nmX7 0 mw_365 0 rfl rfl (by decide) rfl rfl rfl rfl (Nat.le_of_ble_eq_true rfl) dX7_module_2 rfl ?_
  refine x_iload_n C dX7_module_5 1 rfl ?_
  refine x_iconst C 0 dX7_module_6 (by decide) ?_
  refine x_iconst C 1 dX7_module_7 (by decide) ?_
  refine x_cSi (As := [.int xm, .int 0, .int 1]) (ws' := wX7 cI cZ cO q (put u 0 0 0)) C mw_367 mw_368 mw_337 mw_363 hd_X7_in rfl rfl ⟨Nat.le_of_ble_eq_true rfl, Nat.le_of_ble_eq_true rfl⟩ (c_X7_in l D cI cZ cO  xm 0 1 ) [] [.inl 0, .inl 1, .inl 2, .inl 3, .inl 4, .inl 5, .inl 6, .inl 7, .inl 8, .inl 9, .inl 10, .inl 11, .inl 12, .inl 13, .inl 14, .inl 15, .inl 16, .inl 17, .inl 18, .inl 19, .inl 20] trivial rfl ⟨rfl, rfl, rfl, rfl, rfl, rfl, rfl, rfl, rfl, rfl, rfl, rfl, rfl, rfl, rfl, rfl, rfl, rfl, rfl, rfl, rfl, trivial⟩ rfl ⟨rfl, rfl, rfl, rfl, rfl, rfl, rfl, rfl, rfl, rfl, rfl, rfl, rfl, rfl, rfl, rfl, rfl, rfl, rfl, rfl, rfl, trivial⟩ rfl rfl (Nat.le_of_ble_eq_true rfl) (Nat.le_of_ble_eq_true rfl) (Nat.le_of_ble_eq_true rfl) dX7_module_8 ?_
  refine x_if_eqZ C 23 dX7_module_11 (by decide) (fun c1 => ?_) (fun c1 => ?_)
  · refine x_iload_n C dX7_module_14 2 rfl ?_
    refine x_iconst C 0 dX7_module_15 (by decide) ?_
    refine x_iconst C 1 dX7_module_16 (by decide) ?_
    refine x_cSi (As := [.int xf, .int 0, .int 1]) (ws' := wX7 cI cZ cO q (put u 0 0 0)) C mw_367 mw_368 mw_337 mw_363 hd_X7_in rfl rfl ⟨Nat.le_of_ble_eq_true rfl, Nat.le_of_ble_eq_true rfl⟩ (c_X7_in l D cI cZ cO  xf 0 1 ) [] [.inl 0, .inl 1, .inl 2, .inl 3, .inl 4, .inl 5, .inl 6, .inl 7, .inl 8, .inl 9, .inl 10, .inl 11, .inl 12, .inl 13, .inl 14, .inl 15, .inl 16, .inl 17, .inl 18, .inl 19, .inl 20] trivial rfl ⟨rfl, rfl, rfl, rfl, rfl, rfl, rfl, rfl, rfl, rfl, rfl, rfl, rfl, rfl, rfl, rfl, rfl, rfl, rfl, rfl, rfl, trivial⟩ rfl ⟨rfl, rfl, rfl, rfl, rfl, rfl, rfl, rfl, rfl, rfl, rfl, rfl, rfl, rfl, rfl, rfl, rfl, rfl, rfl, rfl, rfl, trivial⟩ rfl rfl (Nat.le_of_ble_eq_true rfl) (Nat.le_of_ble_eq_true rfl) (Nat.le_of_ble_eq_true rfl) dX7_module_17 ?_
    refine x_if_neZ C 26 dX7_module_20 (by decide) (fun c2 => ?_) (fun c2 => ?_)
    · have hN3 := in_nat 1 (by decide) (g := 1) rfl (by assumption : f_X7_in xm 0 1 = true)
      refine x_leq (congrArg (fun (z : Int32) => ([(0, .ref (q 0)), (1, .int z), (2, .int xf)] : List (Nat × Value))) hN3.1) ?_
      refine x_aload_n C dX7_module_26 0 rfl ?_
      refine x_get (v := .ref (q 12)) C hwsX70 21 mw_349 0 rfl rfl (by decide) rfl rfl dX7_module_27 ?_
      refine x_iload_n C dX7_module_30 1 rfl ?_
      refine x_iald C 12 0 rfl rfl (ixn xm) rfl (by omega) (by decide) (u 21 (ixn xm)) (by simp [put, upd]) dX7_module_31 ?_
      refine x_istore_n (L' := [(3, .int (u 21 (ixn xm))), (0, .ref (q 0)), (1, .int (nI (ixn xm))), (2, .int xf)]) C dX7_module_32 (by decide) rfl ?_
      refine x_aload_n C dX7_module_33 1 rfl ?_
      refine x_get (v := .ref (q 12)) C hwsX70 21 mw_349 0 rfl rfl (by decide) rfl rfl dX7_module_34 ?_
      refine x_iload_n C dX7_module_37 2 rfl ?_
      refine x_iload_n C dX7_module_38 3 rfl ?_
      refine x_iast (ws' := wX7 cI cZ cO q (put (put u 0 0 0) 21 (ixn xm) xf)) C 12 0 rfl rfl (ixn xm) rfl (by omega) (by decide) dX7_module_39 rfl ?_
      refine x_iload_n C dX7_module_40 0 rfl ?_
      exact x_iret C rfl dX7_module_41 rfl rfl
    · refine x_bipush C (-2) dX7_module_23 (by decide) ?_
      exact x_iret C rfl dX7_module_25 rfl rfl
  · refine x_bipush C (-2) dX7_module_23 (by decide) ?_
    exact x_iret C rfl dX7_module_25 rfl rfl
def f_X7_plant (u : St) (xw : Int32) : Int32 × St := if (f_X7_in xw 0 17) = true then (if xw < 11 then (if xw < 6 then (u 13 (ixn xw), put u 0 0 0) else (u 10 (ixn (xw - 6)), put u 0 0 0)) else (if xw = 11 then (u 2 0, put u 0 0 0) else (if xw = 12 then (u 3 0, put u 0 0 0) else (if xw = 13 then (u 1 0, put u 0 0 0) else (if xw = 14 then (u 5 0, put u 0 0 0) else (if xw = 15 then (u 6 0, put u 0 0 0) else (if xw = 16 then (u 7 0, put u 0 0 0) else ((f_X7_ordered (put u 0 0 0)), put u 0 0 0)))))))) else ((-2), put u 0 0 0)
theorem hd_X7_plant : yX7_plant.cls ≠ "java/lang/invoke/MethodHandle" ∧ yX7_plant.cls ≠ "java/lang/invoke/VarHandle" ∧ (parseMethodDescriptor yX7_plant.desc).map (fun d => d.parameters.length) = some 1 := by decide +kernel
set_option maxHeartbeats 4000000 in
set_option maxRecDepth 100000 in
theorem c_X7_plant (l : Launch) (D : va_G) (cI cZ cO : ClassId) (q : Nat → Nat) (u : St) (xw : Int32)  : CTi l D (T3 cI cZ cO) yX7_plant (Cond.code yX7_plant cX7_plant 2 (some .int) :: WA) ({ frames := 2, cells := 0, slots := 0, locals := 41 } : Room) [.ref (q 0), .int xw] (wX7 cI cZ cO q u) ((f_X7_plant u xw).1) (wX7 cI cZ cO q (f_X7_plant u xw).2) := by
  refine ct_i (K := fun z => z) (t := f_X7_plant u xw) (rf := fun o => o.1) (wf := fun o => wX7 cI cZ cO q o.2) (own := RX7) (nm := "plant") (L0 := [(0, .ref (q 0)), (1, .int xw)]) (plainFor_of_name (by decide +kernel)) rfl rfl (Nat.le_of_ble_eq_true rfl) rfl ?_
  intro p e s m args below meth c A C
  unfold f_X7_plant
  refine x_aload_n C dX7_plant_0 0 rfl ?_
  refine x_iconst C 0 dX7_plant_1 (by decide) ?_
  refine x_put (ws' := wX7 cI cZ cO q (put u 0 0 0)) C hwsX70 tyX7 tyX7_ok nmX7 0 mw_365 0 rfl rfl (by decide) rfl rfl rfl rfl (Nat.le_of_ble_eq_true rfl) dX7_plant_2 rfl ?_
  refine x_iload_n C dX7_plant_5 1 rfl ?_
  refine x_iconst C 0 dX7_plant_6 (by decide) ?_
  refine x_bipush C 17 dX7_plant_7 (by decide) ?_
  refine x_cSi (As := [.int xw, .int 0, .int 17]) (ws' := wX7 cI cZ cO q (put u 0 0 0)) C mw_367 mw_368 mw_337 mw_363 hd_X7_in rfl rfl ⟨Nat.le_of_ble_eq_true rfl, Nat.le_of_ble_eq_true rfl⟩ (c_X7_in l D cI cZ cO  xw 0 17 ) [] [.inl 0, .inl 1, .inl 2, .inl 3, .inl 4, .inl 5, .inl 6, .inl 7, .inl 8, .inl 9, .inl 10, .inl 11, .inl 12, .inl 13, .inl 14, .inl 15, .inl 16, .inl 17, .inl 18, .inl 19, .inl 20] trivial rfl ⟨rfl, rfl, rfl, rfl, rfl, rfl, rfl, rfl, rfl, rfl, rfl, rfl, rfl, rfl, rfl, rfl, rfl, rfl, rfl, rfl, rfl, trivial⟩ rfl ⟨rfl, rfl, rfl, rfl, rfl, rfl, rfl, rfl, rfl, rfl, rfl, rfl, rfl, rfl, rfl, rfl, rfl, rfl, rfl, rfl, rfl, trivial⟩ rfl rfl (Nat.le_of_ble_eq_true rfl) (Nat.le_of_ble_eq_true rfl) (Nat.le_of_ble_eq_true rfl) dX7_plant_9 ?_
  refine x_if_neZ C 18 dX7_plant_12 (by decide) (fun c1 => ?_) (fun c1 => ?_)
  · refine x_iload_n C dX7_plant_18 1 rfl ?_
    refine x_bipush C 11 dX7_plant_19 (by decide) ?_
    refine x_icmp_ge C 49 dX7_plant_21 (by decide) (fun c2 => ?_) (fun c2 => ?_)
    · refine x_iload_n C dX7_plant_24 1 rfl ?_
      refine x_bipush C 6 dX7_plant_25 (by decide) ?_
      refine x_icmp_ge C 39 dX7_plant_27 (by decide) (fun c3 => ?_) (fun c3 => ?_)
      · refine x_aload_n C dX7_plant_30 0 rfl ?_
        refine x_get (v := .ref (q 4)) C hwsX70 13 mw_329 0 rfl rfl (by decide) rfl rfl dX7_plant_31 ?_
        refine x_iload_n C dX7_plant_34 1 rfl ?_
        have hN4 := in_lt 6 (by decide) (by assumption : f_X7_in xw 0 17 = true) (by assumption)
        refine x_top (nI (ixn xw)) hN4.1 ?_
        refine x_iald C 4 0 rfl rfl (ixn xw) rfl (by omega) (by decide) (u 13 (ixn xw)) (by simp [put, upd]) dX7_plant_35 ?_
        refine x_goto C 48 dX7_plant_36 (by decide) ?_
        exact x_iret C rfl dX7_plant_48 rfl rfl
      · refine x_aload_n C dX7_plant_39 0 rfl ?_
        refine x_get (v := .ref (q 1)) C hwsX70 10 mw_328 0 rfl rfl (by decide) rfl rfl dX7_plant_40 ?_
        refine x_iload_n C dX7_plant_43 1 rfl ?_
        refine x_bipush C 6 dX7_plant_44 (by decide) ?_
        refine x_isub C dX7_plant_46 ?_
        have hN5 := sub_nat (by assumption) (by assumption)
        refine x_top (nI (ixn (xw - 6))) hN5.1 ?_
        refine x_iald C 1 0 rfl rfl (ixn (xw - 6)) rfl (by omega) (by decide) (u 10 (ixn (xw - 6))) (by simp [put, upd]) dX7_plant_47 ?_
        exact x_iret C rfl dX7_plant_48 rfl rfl
    · refine x_iload_n C dX7_plant_49 1 rfl ?_
      refine x_split (fun c6 => ?_) (fun c6 => ?_)
      · refine x_tsI C 11 88 dX7_plant_50 (i_eq c6 (by decide : (11 : Int32).toInt = 11)) (by decide) (by decide) rfl (by decide) ?_
        refine x_aload_n C dX7_plant_88 0 rfl ?_
        refine x_get (v := .int (u 2 0)) C hwsX70 2 mw_327 0 rfl rfl (by decide) rfl rfl dX7_plant_89 ?_
        exact x_iret C rfl dX7_plant_92 rfl rfl
      · refine x_split (fun c7 => ?_) (fun c7 => ?_)
        · refine x_tsI C 12 93 dX7_plant_50 (i_eq c7 (by decide : (12 : Int32).toInt = 12)) (by decide) (by decide) rfl (by decide) ?_
          refine x_aload_n C dX7_plant_93 0 rfl ?_
          refine x_get (v := .int (u 3 0)) C hwsX70 3 mw_366 0 rfl rfl (by decide) rfl rfl dX7_plant_94 ?_
          exact x_iret C rfl dX7_plant_97 rfl rfl
        · refine x_split (fun c8 => ?_) (fun c8 => ?_)
          · refine x_tsI C 13 98 dX7_plant_50 (i_eq c8 (by decide : (13 : Int32).toInt = 13)) (by decide) (by decide) rfl (by decide) ?_
            refine x_aload_n C dX7_plant_98 0 rfl ?_
            refine x_get (v := .int (u 1 0)) C hwsX70 1 mw_326 0 rfl rfl (by decide) rfl rfl dX7_plant_99 ?_
            exact x_iret C rfl dX7_plant_102 rfl rfl
          · refine x_split (fun c9 => ?_) (fun c9 => ?_)
            · refine x_tsI C 14 103 dX7_plant_50 (i_eq c9 (by decide : (14 : Int32).toInt = 14)) (by decide) (by decide) rfl (by decide) ?_
              refine x_aload_n C dX7_plant_103 0 rfl ?_
              refine x_get (v := .int (u 5 0)) C hwsX70 5 mw_331 0 rfl rfl (by decide) rfl rfl dX7_plant_104 ?_
              exact x_iret C rfl dX7_plant_107 rfl rfl
            · refine x_split (fun c10 => ?_) (fun c10 => ?_)
              · refine x_tsI C 15 108 dX7_plant_50 (i_eq c10 (by decide : (15 : Int32).toInt = 15)) (by decide) (by decide) rfl (by decide) ?_
                refine x_aload_n C dX7_plant_108 0 rfl ?_
                refine x_get (v := .int (u 6 0)) C hwsX70 6 mw_390 0 rfl rfl (by decide) rfl rfl dX7_plant_109 ?_
                exact x_iret C rfl dX7_plant_112 rfl rfl
              · refine x_split (fun c11 => ?_) (fun c11 => ?_)
                · refine x_tsI C 16 113 dX7_plant_50 (i_eq c11 (by decide : (16 : Int32).toInt = 16)) (by decide) (by decide) rfl (by decide) ?_
                  refine x_aload_n C dX7_plant_113 0 rfl ?_
                  refine x_get (v := .int (u 7 0)) C hwsX70 7 mw_422 0 rfl rfl (by decide) rfl rfl dX7_plant_114 ?_
                  exact x_iret C rfl dX7_plant_117 rfl rfl
                · refine x_tsO C 118 dX7_plant_50 (by have g0 := i_ne c6 (by decide : (11 : Int32).toInt = 11); have g1 := i_ne c7 (by decide : (12 : Int32).toInt = 12); have g2 := i_ne c8 (by decide : (13 : Int32).toInt = 13); have g3 := i_ne c9 (by decide : (14 : Int32).toInt = 14); have g4 := i_ne c10 (by decide : (15 : Int32).toInt = 15); have g5 := i_ne c11 (by decide : (16 : Int32).toInt = 16); omega) (by decide) ?_
                  refine x_aload_n C dX7_plant_118 0 rfl ?_
                  refine x_cViW (q0 := 0) (As := []) C mw_424 mw_425 mw_426 mw_337 mw_384 hd_X7_ordered rfl rfl ⟨Nat.le_of_ble_eq_true rfl, Nat.le_of_ble_eq_true rfl⟩ rfl rfl rfl (c_X7_ordered l D cI cZ cO q (put u 0 0 0) ) rfl rfl (Nat.le_of_ble_eq_true rfl) (Nat.le_of_ble_eq_true rfl) (Nat.le_of_ble_eq_true rfl) dX7_plant_119 ?_
                  exact x_iret C rfl dX7_plant_122 rfl rfl
  · refine x_bipush C (-2) dX7_plant_15 (by decide) ?_
    exact x_iret C rfl dX7_plant_17 rfl rfl
def f_X7_about (u : St) (xm : Int32) (xw : Int32) : Int32 × St := if (f_X7_in xm 0 1) = true then (if (f_X7_in xw 0 6) = true then (if xw = 0 then (u 16 (ixn xm), put u 0 0 0) else (if xw = 1 then (u 17 (ixn xm), put u 0 0 0) else (if xw = 2 then (u 18 (ixn xm), put u 0 0 0) else (if xw = 3 then ((f_X7_orders (put u 0 0 0) (ixn xm)), put u 0 0 0) else (if xw = 4 then (u 19 (ixn xm), put u 0 0 0) else (if xw = 5 then (if (u 20 (ixn xm)) = 0 then (0, put u 0 0 0) else (1, put u 0 0 0)) else (u 21 (ixn xm), put u 0 0 0))))))) else ((-2), put u 0 0 0)) else ((-2), put u 0 0 0)
theorem hd_X7_about : yX7_about.cls ≠ "java/lang/invoke/MethodHandle" ∧ yX7_about.cls ≠ "java/lang/invoke/VarHandle" ∧ (parseMethodDescriptor yX7_about.desc).map (fun d => d.parameters.length) = some 2 := by decide +kernel
set_option maxHeartbeats 4000000 in
set_option maxRecDepth 100000 in
theorem c_X7_about (l : Launch) (D : va_G) (cI cZ cO : ClassId) (q : Nat → Nat) (u : St) (xm : Int32) (xw : Int32)  : CTi l D (T3 cI cZ cO) yX7_about (Cond.code yX7_about cX7_about 3 (some .int) :: WA) ({ frames := 1, cells := 0, slots := 0, locals := 22 } : Room) [.ref (q 0), .int xm, .int xw] (wX7 cI cZ cO q u) ((f_X7_about u xm xw).1) (wX7 cI cZ cO q (f_X7_about u xm xw).2) := by
  refine ct_i (K := fun z => z) (t := f_X7_about u xm xw) (rf := fun o => o.1) (wf := fun o => wX7 cI cZ cO q o.2) (own := RX7) (nm := "about") (L0 := [(0, .ref (q 0)), (1, .int xm), (2, .int xw)]) (plainFor_of_name (by decide +kernel)) rfl rfl (Nat.le_of_ble_eq_true rfl) rfl ?_
  intro p e s m args below meth c A C
  unfold f_X7_about
  refine x_aload_n C dX7_about_0 0 rfl ?_
  refine x_iconst C 0 dX7_about_1 (by decide) ?_
  refine x_put (ws' := wX7 cI cZ cO q (put u 0 0 0)) C hwsX70 tyX7 tyX7_ok nmX7 0 mw_365 0 rfl rfl (by decide) rfl rfl rfl rfl (Nat.le_of_ble_eq_true rfl) dX7_about_2 rfl ?_
  refine x_iload_n C dX7_about_5 1 rfl ?_
  refine x_iconst C 0 dX7_about_6 (by decide) ?_
  refine x_iconst C 1 dX7_about_7 (by decide) ?_
  refine x_cSi (As := [.int xm, .int 0, .int 1]) (ws' := wX7 cI cZ cO q (put u 0 0 0)) C mw_367 mw_368 mw_337 mw_363 hd_X7_in rfl rfl ⟨Nat.le_of_ble_eq_true rfl, Nat.le_of_ble_eq_true rfl⟩ (c_X7_in l D cI cZ cO  xm 0 1 ) [] [.inl 0, .inl 1, .inl 2, .inl 3, .inl 4, .inl 5, .inl 6, .inl 7, .inl 8, .inl 9, .inl 10, .inl 11, .inl 12, .inl 13, .inl 14, .inl 15, .inl 16, .inl 17, .inl 18, .inl 19, .inl 20] trivial rfl ⟨rfl, rfl, rfl, rfl, rfl, rfl, rfl, rfl, rfl, rfl, rfl, rfl, rfl, rfl, rfl, rfl, rfl, rfl, rfl, rfl, rfl, trivial⟩ rfl ⟨rfl, rfl, rfl, rfl, rfl, rfl, rfl, rfl, rfl, rfl, rfl, rfl, rfl, rfl, rfl, rfl, rfl, rfl, rfl, rfl, rfl, trivial⟩ rfl rfl (Nat.le_of_ble_eq_true rfl) (Nat.le_of_ble_eq_true rfl) (Nat.le_of_ble_eq_true rfl) dX7_about_8 ?_
  refine x_if_eqZ C 24 dX7_about_11 (by decide) (fun c1 => ?_) (fun c1 => ?_)
  · refine x_iload_n C dX7_about_14 2 rfl ?_
    refine x_iconst C 0 dX7_about_15 (by decide) ?_
    refine x_bipush C 6 dX7_about_16 (by decide) ?_
    refine x_cSi (As := [.int xw, .int 0, .int 6]) (ws' := wX7 cI cZ cO q (put u 0 0 0)) C mw_367 mw_368 mw_337 mw_363 hd_X7_in rfl rfl ⟨Nat.le_of_ble_eq_true rfl, Nat.le_of_ble_eq_true rfl⟩ (c_X7_in l D cI cZ cO  xw 0 6 ) [] [.inl 0, .inl 1, .inl 2, .inl 3, .inl 4, .inl 5, .inl 6, .inl 7, .inl 8, .inl 9, .inl 10, .inl 11, .inl 12, .inl 13, .inl 14, .inl 15, .inl 16, .inl 17, .inl 18, .inl 19, .inl 20] trivial rfl ⟨rfl, rfl, rfl, rfl, rfl, rfl, rfl, rfl, rfl, rfl, rfl, rfl, rfl, rfl, rfl, rfl, rfl, rfl, rfl, rfl, rfl, trivial⟩ rfl ⟨rfl, rfl, rfl, rfl, rfl, rfl, rfl, rfl, rfl, rfl, rfl, rfl, rfl, rfl, rfl, rfl, rfl, rfl, rfl, rfl, rfl, trivial⟩ rfl rfl (Nat.le_of_ble_eq_true rfl) (Nat.le_of_ble_eq_true rfl) (Nat.le_of_ble_eq_true rfl) dX7_about_18 ?_
    refine x_if_neZ C 27 dX7_about_21 (by decide) (fun c2 => ?_) (fun c2 => ?_)
    · have hN3 := in_nat 1 (by decide) (g := 1) rfl (by assumption : f_X7_in xm 0 1 = true)
      refine x_leq (congrArg (fun (z : Int32) => ([(0, .ref (q 0)), (1, .int z), (2, .int xw)] : List (Nat × Value))) hN3.1) ?_
      refine x_iload_n C dX7_about_27 2 rfl ?_
      refine x_split (fun c4 => ?_) (fun c4 => ?_)
      · refine x_tsI C 0 68 dX7_about_28 (i_eq c4 (by decide : (0 : Int32).toInt = 0)) (by decide) (by decide) rfl (by decide) ?_
        refine x_aload_n C dX7_about_68 0 rfl ?_
        refine x_get (v := .ref (q 7)) C hwsX70 16 mw_343 0 rfl rfl (by decide) rfl rfl dX7_about_69 ?_
        refine x_iload_n C dX7_about_72 1 rfl ?_
        refine x_iald C 7 0 rfl rfl (ixn xm) rfl (by omega) (by decide) (u 16 (ixn xm)) (by simp [put, upd]) dX7_about_73 ?_
        exact x_iret C rfl dX7_about_74 rfl rfl
      · refine x_split (fun c5 => ?_) (fun c5 => ?_)
        · refine x_tsI C 1 75 dX7_about_28 (i_eq c5 (by decide : (1 : Int32).toInt = 1)) (by decide) (by decide) rfl (by decide) ?_
          refine x_aload_n C dX7_about_75 0 rfl ?_
          refine x_get (v := .ref (q 8)) C hwsX70 17 mw_344 0 rfl rfl (by decide) rfl rfl dX7_about_76 ?_
          refine x_iload_n C dX7_about_79 1 rfl ?_
          refine x_iald C 8 0 rfl rfl (ixn xm) rfl (by omega) (by decide) (u 17 (ixn xm)) (by simp [put, upd]) dX7_about_80 ?_
          exact x_iret C rfl dX7_about_81 rfl rfl
        · refine x_split (fun c6 => ?_) (fun c6 => ?_)
          · refine x_tsI C 2 82 dX7_about_28 (i_eq c6 (by decide : (2 : Int32).toInt = 2)) (by decide) (by decide) rfl (by decide) ?_
            refine x_aload_n C dX7_about_82 0 rfl ?_
            refine x_get (v := .ref (q 9)) C hwsX70 18 mw_345 0 rfl rfl (by decide) rfl rfl dX7_about_83 ?_
            refine x_iload_n C dX7_about_86 1 rfl ?_
            refine x_iald C 9 0 rfl rfl (ixn xm) rfl (by omega) (by decide) (u 18 (ixn xm)) (by simp [put, upd]) dX7_about_87 ?_
            exact x_iret C rfl dX7_about_88 rfl rfl
          · refine x_split (fun c7 => ?_) (fun c7 => ?_)
            · refine x_tsI C 3 89 dX7_about_28 (i_eq c7 (by decide : (3 : Int32).toInt = 3)) (by decide) (by decide) rfl (by decide) ?_
              refine x_aload_n C dX7_about_89 0 rfl ?_
              refine x_iload_n C dX7_about_90 1 rfl ?_
              refine x_cViW (q0 := 0) (As := [.int (nI (ixn xm))]) C mw_385 mw_386 mw_387 mw_337 mw_383 hd_X7_orders rfl rfl ⟨Nat.le_of_ble_eq_true rfl, Nat.le_of_ble_eq_true rfl⟩ rfl rfl rfl (c_X7_orders l D cI cZ cO q (put u 0 0 0) (ixn xm) (by omega)) rfl rfl (Nat.le_of_ble_eq_true rfl) (Nat.le_of_ble_eq_true rfl) (Nat.le_of_ble_eq_true rfl) dX7_about_91 ?_
              exact x_iret C rfl dX7_about_94 rfl rfl
            · refine x_split (fun c8 => ?_) (fun c8 => ?_)
              · refine x_tsI C 4 95 dX7_about_28 (i_eq c8 (by decide : (4 : Int32).toInt = 4)) (by decide) (by decide) rfl (by decide) ?_
                refine x_aload_n C dX7_about_95 0 rfl ?_
                refine x_get (v := .ref (q 10)) C hwsX70 19 mw_346 0 rfl rfl (by decide) rfl rfl dX7_about_96 ?_
                refine x_iload_n C dX7_about_99 1 rfl ?_
                refine x_iald C 10 0 rfl rfl (ixn xm) rfl (by omega) (by decide) (u 19 (ixn xm)) (by simp [put, upd]) dX7_about_100 ?_
                exact x_iret C rfl dX7_about_101 rfl rfl
              · refine x_split (fun c9 => ?_) (fun c9 => ?_)
                · refine x_tsI C 5 102 dX7_about_28 (i_eq c9 (by decide : (5 : Int32).toInt = 5)) (by decide) (by decide) rfl (by decide) ?_
                  refine x_aload_n C dX7_about_102 0 rfl ?_
                  refine x_get (v := .ref (q 11)) C hwsX70 20 mw_348 0 rfl rfl (by decide) rfl rfl dX7_about_103 ?_
                  refine x_iload_n C dX7_about_106 1 rfl ?_
                  refine x_zald C 11 1 rfl rfl (ixn xm) rfl (by omega) (by decide) (u 20 (ixn xm)) (by simp [put, upd]) dX7_about_107 ?_
                  refine x_if_eq C 115 dX7_about_108 (by decide) (fun c10 => ?_) (fun c10 => ?_)
                  · refine x_iconst C 0 dX7_about_115 (by decide) ?_
                    exact x_iret C rfl dX7_about_116 rfl rfl
                  · refine x_iconst C 1 dX7_about_111 (by decide) ?_
                    refine x_goto C 116 dX7_about_112 (by decide) ?_
                    exact x_iret C rfl dX7_about_116 rfl rfl
                · refine x_tsO C 117 dX7_about_28 (by have g0 := i_ne c4 (by decide : (0 : Int32).toInt = 0); have g1 := i_ne c5 (by decide : (1 : Int32).toInt = 1); have g2 := i_ne c6 (by decide : (2 : Int32).toInt = 2); have g3 := i_ne c7 (by decide : (3 : Int32).toInt = 3); have g4 := i_ne c8 (by decide : (4 : Int32).toInt = 4); have g5 := i_ne c9 (by decide : (5 : Int32).toInt = 5); omega) (by decide) ?_
                  refine x_aload_n C dX7_about_117 0 rfl ?_
                  refine x_get (v := .ref (q 12)) C hwsX70 21 mw_349 0 rfl rfl (by decide) rfl rfl dX7_about_118 ?_
                  refine x_iload_n C dX7_about_121 1 rfl ?_
                  refine x_iald C 12 0 rfl rfl (ixn xm) rfl (by omega) (by decide) (u 21 (ixn xm)) (by simp [put, upd]) dX7_about_122 ?_
                  exact x_iret C rfl dX7_about_123 rfl rfl
    · refine x_bipush C (-2) dX7_about_24 (by decide) ?_
      exact x_iret C rfl dX7_about_26 rfl rfl
  · refine x_bipush C (-2) dX7_about_24 (by decide) ?_
    exact x_iret C rfl dX7_about_26 rfl rfl
def f_X7_sees (u : St) (xm : Int32) (xs : Int32) (xw : Int32) : Int32 × St := if (f_X7_in xm 0 1) = true then (if (f_X7_in xs 0 17) = true then (if (f_X7_in xw 0 1) = true then (if xw = 0 then (u 25 ((18 * (ixn xm)) + (ixn xs)), put u 0 0 0) else (u 26 ((18 * (ixn xm)) + (ixn xs)), put u 0 0 0)) else ((-2), put u 0 0 0)) else ((-2), put u 0 0 0)) else ((-2), put u 0 0 0)
theorem hd_X7_sees : yX7_sees.cls ≠ "java/lang/invoke/MethodHandle" ∧ yX7_sees.cls ≠ "java/lang/invoke/VarHandle" ∧ (parseMethodDescriptor yX7_sees.desc).map (fun d => d.parameters.length) = some 3 := by decide +kernel
set_option maxHeartbeats 4000000 in
set_option maxRecDepth 100000 in
theorem c_X7_sees (l : Launch) (D : va_G) (cI cZ cO : ClassId) (q : Nat → Nat) (u : St) (xm : Int32) (xs : Int32) (xw : Int32)  : CTi l D (T3 cI cZ cO) yX7_sees (Cond.code yX7_sees cX7_sees 4 (some .int) :: WA) ({ frames := 1, cells := 0, slots := 0, locals := 22 } : Room) [.ref (q 0), .int xm, .int xs, .int xw] (wX7 cI cZ cO q u) ((f_X7_sees u xm xs xw).1) (wX7 cI cZ cO q (f_X7_sees u xm xs xw).2) := by
  refine ct_i (K := fun z => z) (t := f_X7_sees u xm xs xw) (rf := fun o => o.1) (wf := fun o => wX7 cI cZ cO q o.2) (own := RX7) (nm := "sees") (L0 := [(0, .ref (q 0)), (1, .int xm), (2, .int xs), (3, .int xw)]) (plainFor_of_name (by decide +kernel)) rfl rfl (Nat.le_of_ble_eq_true rfl) rfl ?_
  intro p e s m args below meth c A C
  unfold f_X7_sees
  refine x_aload_n C dX7_sees_0 0 rfl ?_
  refine x_iconst C 0 dX7_sees_1 (by decide) ?_
  refine x_put (ws' := wX7 cI cZ cO q (put u 0 0 0)) C hwsX70 tyX7 tyX7_ok nmX7 0 mw_365 0 rfl rfl (by decide) rfl rfl rfl rfl (Nat.le_of_ble_eq_true rfl) dX7_sees_2 rfl ?_
  refine x_iload_n C dX7_sees_5 1 rfl ?_
  refine x_iconst C 0 dX7_sees_6 (by decide) ?_
  refine x_iconst C 1 dX7_sees_7 (by decide) ?_
  refine x_cSi (As := [.int xm, .int 0, .int 1]) (ws' := wX7 cI cZ cO q (put u 0 0 0)) C mw_367 mw_368 mw_337 mw_363 hd_X7_in rfl rfl ⟨Nat.le_of_ble_eq_true rfl, Nat.le_of_ble_eq_true rfl⟩ (c_X7_in l D cI cZ cO  xm 0 1 ) [] [.inl 0, .inl 1, .inl 2, .inl 3, .inl 4, .inl 5, .inl 6, .inl 7, .inl 8, .inl 9, .inl 10, .inl 11, .inl 12, .inl 13, .inl 14, .inl 15, .inl 16, .inl 17, .inl 18, .inl 19, .inl 20] trivial rfl ⟨rfl, rfl, rfl, rfl, rfl, rfl, rfl, rfl, rfl, rfl, rfl, rfl, rfl, rfl, rfl, rfl, rfl, rfl, rfl, rfl, rfl, trivial⟩ rfl ⟨rfl, rfl, rfl, rfl, rfl, rfl, rfl, rfl, rfl, rfl, rfl, rfl, rfl, rfl, rfl, rfl, rfl, rfl, rfl, rfl, rfl, trivial⟩ rfl rfl (Nat.le_of_ble_eq_true rfl) (Nat.le_of_ble_eq_true rfl) (Nat.le_of_ble_eq_true rfl) dX7_sees_8 ?_
  refine x_if_eqZ C 33 dX7_sees_11 (by decide) (fun c1 => ?_) (fun c1 => ?_)
  · refine x_iload_n C dX7_sees_14 2 rfl ?_
    refine x_iconst C 0 dX7_sees_15 (by decide) ?_
    refine x_bipush C 17 dX7_sees_16 (by decide) ?_
    refine x_cSi (As := [.int xs, .int 0, .int 17]) (ws' := wX7 cI cZ cO q (put u 0 0 0)) C mw_367 mw_368 mw_337 mw_363 hd_X7_in rfl rfl ⟨Nat.le_of_ble_eq_true rfl, Nat.le_of_ble_eq_true rfl⟩ (c_X7_in l D cI cZ cO  xs 0 17 ) [] [.inl 0, .inl 1, .inl 2, .inl 3, .inl 4, .inl 5, .inl 6, .inl 7, .inl 8, .inl 9, .inl 10, .inl 11, .inl 12, .inl 13, .inl 14, .inl 15, .inl 16, .inl 17, .inl 18, .inl 19, .inl 20] trivial rfl ⟨rfl, rfl, rfl, rfl, rfl, rfl, rfl, rfl, rfl, rfl, rfl, rfl, rfl, rfl, rfl, rfl, rfl, rfl, rfl, rfl, rfl, trivial⟩ rfl ⟨rfl, rfl, rfl, rfl, rfl, rfl, rfl, rfl, rfl, rfl, rfl, rfl, rfl, rfl, rfl, rfl, rfl, rfl, rfl, rfl, rfl, trivial⟩ rfl rfl (Nat.le_of_ble_eq_true rfl) (Nat.le_of_ble_eq_true rfl) (Nat.le_of_ble_eq_true rfl) dX7_sees_18 ?_
    refine x_if_eqZ C 33 dX7_sees_21 (by decide) (fun c2 => ?_) (fun c2 => ?_)
    · refine x_iload_n C dX7_sees_24 3 rfl ?_
      refine x_iconst C 0 dX7_sees_25 (by decide) ?_
      refine x_iconst C 1 dX7_sees_26 (by decide) ?_
      refine x_cSi (As := [.int xw, .int 0, .int 1]) (ws' := wX7 cI cZ cO q (put u 0 0 0)) C mw_367 mw_368 mw_337 mw_363 hd_X7_in rfl rfl ⟨Nat.le_of_ble_eq_true rfl, Nat.le_of_ble_eq_true rfl⟩ (c_X7_in l D cI cZ cO  xw 0 1 ) [] [.inl 0, .inl 1, .inl 2, .inl 3, .inl 4, .inl 5, .inl 6, .inl 7, .inl 8, .inl 9, .inl 10, .inl 11, .inl 12, .inl 13, .inl 14, .inl 15, .inl 16, .inl 17, .inl 18, .inl 19, .inl 20] trivial rfl ⟨rfl, rfl, rfl, rfl, rfl, rfl, rfl, rfl, rfl, rfl, rfl, rfl, rfl, rfl, rfl, rfl, rfl, rfl, rfl, rfl, rfl, trivial⟩ rfl ⟨rfl, rfl, rfl, rfl, rfl, rfl, rfl, rfl, rfl, rfl, rfl, rfl, rfl, rfl, rfl, rfl, rfl, rfl, rfl, rfl, rfl, trivial⟩ rfl rfl (Nat.le_of_ble_eq_true rfl) (Nat.le_of_ble_eq_true rfl) (Nat.le_of_ble_eq_true rfl) dX7_sees_27 ?_
      refine x_if_neZ C 36 dX7_sees_30 (by decide) (fun c3 => ?_) (fun c3 => ?_)
      · have hN4 := in_nat 1 (by decide) (g := 1) rfl (by assumption : f_X7_in xm 0 1 = true)
        refine x_leq (congrArg (fun (z : Int32) => ([(0, .ref (q 0)), (1, .int z), (2, .int xs), (3, .int xw)] : List (Nat × Value))) hN4.1) ?_
        have hN5 := in_nat 17 (by decide) (g := 17) rfl (by assumption : f_X7_in xs 0 17 = true)
        refine x_leq (congrArg (fun (z : Int32) => ([(0, .ref (q 0)), (1, .int (nI (ixn xm))), (2, .int z), (3, .int xw)] : List (Nat × Value))) hN5.1) ?_
        refine x_iload_n C dX7_sees_36 3 rfl ?_
        refine x_if_ne C 54 dX7_sees_37 (by decide) (fun c6 => ?_) (fun c6 => ?_)
        · refine x_aload_n C dX7_sees_40 0 rfl ?_
          refine x_get (v := .ref (q 16)) C hwsX70 25 mw_353 0 rfl rfl (by decide) rfl rfl dX7_sees_41 ?_
          refine x_bipush C 18 dX7_sees_44 (by decide) ?_
          refine x_iload_n C dX7_sees_46 1 rfl ?_
          refine x_imul C dX7_sees_47 ?_
          refine x_top (nI (18 * (ixn xm))) (pk_mul _ _) ?_
          refine x_iload_n C dX7_sees_48 2 rfl ?_
          refine x_iadd C dX7_sees_49 ?_
          refine x_top (nI ((18 * (ixn xm)) + (ixn xs))) (nI_add _ _) ?_
          refine x_iald C 16 0 rfl rfl ((18 * (ixn xm)) + (ixn xs)) rfl (by omega) (by decide) (u 25 ((18 * (ixn xm)) + (ixn xs))) (by simp [put, upd]) dX7_sees_50 ?_
          refine x_goto C 65 dX7_sees_51 (by decide) ?_
          exact x_iret C rfl dX7_sees_65 rfl rfl
        · refine x_aload_n C dX7_sees_54 0 rfl ?_
          refine x_get (v := .ref (q 17)) C hwsX70 26 mw_354 0 rfl rfl (by decide) rfl rfl dX7_sees_55 ?_
          refine x_bipush C 18 dX7_sees_58 (by decide) ?_
          refine x_iload_n C dX7_sees_60 1 rfl ?_
          refine x_imul C dX7_sees_61 ?_
          refine x_top (nI (18 * (ixn xm))) (pk_mul _ _) ?_
          refine x_iload_n C dX7_sees_62 2 rfl ?_
          refine x_iadd C dX7_sees_63 ?_
          refine x_top (nI ((18 * (ixn xm)) + (ixn xs))) (nI_add _ _) ?_
          refine x_iald C 17 0 rfl rfl ((18 * (ixn xm)) + (ixn xs)) rfl (by omega) (by decide) (u 26 ((18 * (ixn xm)) + (ixn xs))) (by simp [put, upd]) dX7_sees_64 ?_
          exact x_iret C rfl dX7_sees_65 rfl rfl
      · refine x_bipush C (-2) dX7_sees_33 (by decide) ?_
        exact x_iret C rfl dX7_sees_35 rfl rfl
    · refine x_bipush C (-2) dX7_sees_33 (by decide) ?_
      exact x_iret C rfl dX7_sees_35 rfl rfl
  · refine x_bipush C (-2) dX7_sees_33 (by decide) ?_
    exact x_iret C rfl dX7_sees_35 rfl rfl
def f_X7_tells (u : St) (xs : Int32) (xc : Int32) : Int32 × St := if (f_X7_in xs 0 17) = true then (if (f_X7_in xc 0 2) = true then ((f_X7_tell (put u 0 0 0) (ixn xs) (ixn xc)), put u 0 0 0) else ((-2), put u 0 0 0)) else ((-2), put u 0 0 0)
theorem hd_X7_tells : yX7_tells.cls ≠ "java/lang/invoke/MethodHandle" ∧ yX7_tells.cls ≠ "java/lang/invoke/VarHandle" ∧ (parseMethodDescriptor yX7_tells.desc).map (fun d => d.parameters.length) = some 2 := by decide +kernel
set_option maxHeartbeats 4000000 in
set_option maxRecDepth 100000 in
theorem c_X7_tells (l : Launch) (D : va_G) (cI cZ cO : ClassId) (q : Nat → Nat) (u : St) (xs : Int32) (xc : Int32)  : CTi l D (T3 cI cZ cO) yX7_tells (Cond.code yX7_tells cX7_tells 3 (some .int) :: WA) ({ frames := 1, cells := 0, slots := 0, locals := 23 } : Room) [.ref (q 0), .int xs, .int xc] (wX7 cI cZ cO q u) ((f_X7_tells u xs xc).1) (wX7 cI cZ cO q (f_X7_tells u xs xc).2) := by
  refine ct_i (K := fun z => z) (t := f_X7_tells u xs xc) (rf := fun o => o.1) (wf := fun o => wX7 cI cZ cO q o.2) (own := RX7) (nm := "tells") (L0 := [(0, .ref (q 0)), (1, .int xs), (2, .int xc)]) (plainFor_of_name (by decide +kernel)) rfl rfl (Nat.le_of_ble_eq_true rfl) rfl ?_
  intro p e s m args below meth c A C
  unfold f_X7_tells
  refine x_aload_n C dX7_tells_0 0 rfl ?_
  refine x_iconst C 0 dX7_tells_1 (by decide) ?_
  refine x_put (ws' := wX7 cI cZ cO q (put u 0 0 0)) C hwsX70 tyX7 tyX7_ok nmX7 0 mw_365 0 rfl rfl (by decide) rfl rfl rfl rfl (Nat.le_of_ble_eq_true rfl) dX7_tells_2 rfl ?_
  refine x_iload_n C dX7_tells_5 1 rfl ?_
  refine x_iconst C 0 dX7_tells_6 (by decide) ?_
  refine x_bipush C 17 dX7_tells_7 (by decide) ?_
  refine x_cSi (As := [.int xs, .int 0, .int 17]) (ws' := wX7 cI cZ cO q (put u 0 0 0)) C mw_367 mw_368 mw_337 mw_363 hd_X7_in rfl rfl ⟨Nat.le_of_ble_eq_true rfl, Nat.le_of_ble_eq_true rfl⟩ (c_X7_in l D cI cZ cO  xs 0 17 ) [] [.inl 0, .inl 1, .inl 2, .inl 3, .inl 4, .inl 5, .inl 6, .inl 7, .inl 8, .inl 9, .inl 10, .inl 11, .inl 12, .inl 13, .inl 14, .inl 15, .inl 16, .inl 17, .inl 18, .inl 19, .inl 20] trivial rfl ⟨rfl, rfl, rfl, rfl, rfl, rfl, rfl, rfl, rfl, rfl, rfl, rfl, rfl, rfl, rfl, rfl, rfl, rfl, rfl, rfl, rfl, trivial⟩ rfl ⟨rfl, rfl, rfl, rfl, rfl, rfl, rfl, rfl, rfl, rfl, rfl, rfl, rfl, rfl, rfl, rfl, rfl, rfl, rfl, rfl, rfl, trivial⟩ rfl rfl (Nat.le_of_ble_eq_true rfl) (Nat.le_of_ble_eq_true rfl) (Nat.le_of_ble_eq_true rfl) dX7_tells_9 ?_
  refine x_if_eqZ C 33 dX7_tells_12 (by decide) (fun c1 => ?_) (fun c1 => ?_)
  · refine x_iload_n C dX7_tells_15 2 rfl ?_
    refine x_iconst C 0 dX7_tells_16 (by decide) ?_
    refine x_iconst C 2 dX7_tells_17 (by decide) ?_
    refine x_cSi (As := [.int xc, .int 0, .int 2]) (ws' := wX7 cI cZ cO q (put u 0 0 0)) C mw_367 mw_368 mw_337 mw_363 hd_X7_in rfl rfl ⟨Nat.le_of_ble_eq_true rfl, Nat.le_of_ble_eq_true rfl⟩ (c_X7_in l D cI cZ cO  xc 0 2 ) [] [.inl 0, .inl 1, .inl 2, .inl 3, .inl 4, .inl 5, .inl 6, .inl 7, .inl 8, .inl 9, .inl 10, .inl 11, .inl 12, .inl 13, .inl 14, .inl 15, .inl 16, .inl 17, .inl 18, .inl 19, .inl 20] trivial rfl ⟨rfl, rfl, rfl, rfl, rfl, rfl, rfl, rfl, rfl, rfl, rfl, rfl, rfl, rfl, rfl, rfl, rfl, rfl, rfl, rfl, rfl, trivial⟩ rfl ⟨rfl, rfl, rfl, rfl, rfl, rfl, rfl, rfl, rfl, rfl, rfl, rfl, rfl, rfl, rfl, rfl, rfl, rfl, rfl, rfl, rfl, trivial⟩ rfl rfl (Nat.le_of_ble_eq_true rfl) (Nat.le_of_ble_eq_true rfl) (Nat.le_of_ble_eq_true rfl) dX7_tells_18 ?_
    refine x_if_eqZ C 33 dX7_tells_21 (by decide) (fun c2 => ?_) (fun c2 => ?_)
    · have hN3 := in_nat 17 (by decide) (g := 17) rfl (by assumption : f_X7_in xs 0 17 = true)
      refine x_leq (congrArg (fun (z : Int32) => ([(0, .ref (q 0)), (1, .int z), (2, .int xc)] : List (Nat × Value))) hN3.1) ?_
      have hN4 := in_nat 2 (by decide) (g := 2) rfl (by assumption : f_X7_in xc 0 2 = true)
      refine x_leq (congrArg (fun (z : Int32) => ([(0, .ref (q 0)), (1, .int (nI (ixn xs))), (2, .int z)] : List (Nat × Value))) hN4.1) ?_
      refine x_aload_n C dX7_tells_24 0 rfl ?_
      refine x_iload_n C dX7_tells_25 1 rfl ?_
      refine x_iload_n C dX7_tells_26 2 rfl ?_
      refine x_cViW (q0 := 0) (As := [.int (nI (ixn xs)), .int (nI (ixn xc))]) C mw_378 mw_379 mw_380 mw_337 mw_376 hd_X7_tell rfl rfl ⟨Nat.le_of_ble_eq_true rfl, Nat.le_of_ble_eq_true rfl⟩ rfl rfl rfl (c_X7_tell l D cI cZ cO q (put u 0 0 0) (ixn xs) (ixn xc) (by omega) (by omega)) rfl rfl (Nat.le_of_ble_eq_true rfl) (Nat.le_of_ble_eq_true rfl) (Nat.le_of_ble_eq_true rfl) dX7_tells_27 ?_
      refine x_goto C 35 dX7_tells_30 (by decide) ?_
      exact x_iret C rfl dX7_tells_35 rfl rfl
    · refine x_bipush C (-2) dX7_tells_33 (by decide) ?_
      exact x_iret C rfl dX7_tells_35 rfl rfl
  · refine x_bipush C (-2) dX7_tells_33 (by decide) ?_
    exact x_iret C rfl dX7_tells_35 rfl rfl
def f_X7_lights (u : St) : Int32 × St := (u 8 0, put u 0 0 0)
theorem hd_X7_lights : yX7_lights.cls ≠ "java/lang/invoke/MethodHandle" ∧ yX7_lights.cls ≠ "java/lang/invoke/VarHandle" ∧ (parseMethodDescriptor yX7_lights.desc).map (fun d => d.parameters.length) = some 0 := by decide +kernel
set_option maxHeartbeats 4000000 in
set_option maxRecDepth 100000 in
theorem c_X7_lights (l : Launch) (D : va_G) (cI cZ cO : ClassId) (q : Nat → Nat) (u : St)  : CTi l D (T3 cI cZ cO) yX7_lights (Cond.code yX7_lights cX7_lights 1 (some .int) :: WA) ({ frames := 0, cells := 0, slots := 0, locals := 0 } : Room) [.ref (q 0)] (wX7 cI cZ cO q u) ((f_X7_lights u).1) (wX7 cI cZ cO q (f_X7_lights u).2) := by
  refine ct_i (K := fun z => z) (t := f_X7_lights u) (rf := fun o => o.1) (wf := fun o => wX7 cI cZ cO q o.2) (own := RX7) (nm := "lights") (L0 := [(0, .ref (q 0))]) (plainFor_of_name (by decide +kernel)) rfl rfl (Nat.le_of_ble_eq_true rfl) rfl ?_
  intro p e s m args below meth c A C
  unfold f_X7_lights
  refine x_aload_n C dX7_lights_0 0 rfl ?_
  refine x_iconst C 0 dX7_lights_1 (by decide) ?_
  refine x_put (ws' := wX7 cI cZ cO q (put u 0 0 0)) C hwsX70 tyX7 tyX7_ok nmX7 0 mw_365 0 rfl rfl (by decide) rfl rfl rfl rfl (Nat.le_of_ble_eq_true rfl) dX7_lights_2 rfl ?_
  refine x_aload_n C dX7_lights_5 0 rfl ?_
  refine x_get (v := .int (u 8 0)) C hwsX70 8 mw_339 0 rfl rfl (by decide) rfl rfl dX7_lights_6 ?_
  exact x_iret C rfl dX7_lights_9 rfl rfl
def f_X7_log (u : St) (xi : Int32) (xw : Int32) : Int32 × St := if (f_X7_in xw 0 2) = true then (if xi < 0 then ((-1), put u 0 0 0) else (if xi < (u 29 0) then (if xi < ((u 29 0) - 64) then ((-1), put u 0 0 0) else (u 30 ((3 * (ixn (xi - xi / 64 * 64))) + (ixn xw)), put u 0 0 0)) else ((-1), put u 0 0 0))) else ((-2), put u 0 0 0)
theorem hd_X7_log : yX7_log.cls ≠ "java/lang/invoke/MethodHandle" ∧ yX7_log.cls ≠ "java/lang/invoke/VarHandle" ∧ (parseMethodDescriptor yX7_log.desc).map (fun d => d.parameters.length) = some 2 := by decide +kernel
set_option maxHeartbeats 4000000 in
set_option maxRecDepth 100000 in
theorem c_X7_log (l : Launch) (D : va_G) (cI cZ cO : ClassId) (q : Nat → Nat) (u : St) (xi : Int32) (xw : Int32)  : CTi l D (T3 cI cZ cO) yX7_log (Cond.code yX7_log cX7_log 3 (some .int) :: WA) ({ frames := 1, cells := 0, slots := 0, locals := 22 } : Room) [.ref (q 0), .int xi, .int xw] (wX7 cI cZ cO q u) ((f_X7_log u xi xw).1) (wX7 cI cZ cO q (f_X7_log u xi xw).2) := by
  refine ct_i (K := fun z => z) (t := f_X7_log u xi xw) (rf := fun o => o.1) (wf := fun o => wX7 cI cZ cO q o.2) (own := RX7) (nm := "log") (L0 := [(0, .ref (q 0)), (1, .int xi), (2, .int xw)]) (plainFor_of_name (by decide +kernel)) rfl rfl (Nat.le_of_ble_eq_true rfl) rfl ?_
  intro p e s m args below meth c A C
  unfold f_X7_log
  refine x_aload_n C dX7_log_0 0 rfl ?_
  refine x_iconst C 0 dX7_log_1 (by decide) ?_
  refine x_put (ws' := wX7 cI cZ cO q (put u 0 0 0)) C hwsX70 tyX7 tyX7_ok nmX7 0 mw_365 0 rfl rfl (by decide) rfl rfl rfl rfl (Nat.le_of_ble_eq_true rfl) dX7_log_2 rfl ?_
  refine x_iload_n C dX7_log_5 2 rfl ?_
  refine x_iconst C 0 dX7_log_6 (by decide) ?_
  refine x_iconst C 2 dX7_log_7 (by decide) ?_
  refine x_cSi (As := [.int xw, .int 0, .int 2]) (ws' := wX7 cI cZ cO q (put u 0 0 0)) C mw_367 mw_368 mw_337 mw_363 hd_X7_in rfl rfl ⟨Nat.le_of_ble_eq_true rfl, Nat.le_of_ble_eq_true rfl⟩ (c_X7_in l D cI cZ cO  xw 0 2 ) [] [.inl 0, .inl 1, .inl 2, .inl 3, .inl 4, .inl 5, .inl 6, .inl 7, .inl 8, .inl 9, .inl 10, .inl 11, .inl 12, .inl 13, .inl 14, .inl 15, .inl 16, .inl 17, .inl 18, .inl 19, .inl 20] trivial rfl ⟨rfl, rfl, rfl, rfl, rfl, rfl, rfl, rfl, rfl, rfl, rfl, rfl, rfl, rfl, rfl, rfl, rfl, rfl, rfl, rfl, rfl, trivial⟩ rfl ⟨rfl, rfl, rfl, rfl, rfl, rfl, rfl, rfl, rfl, rfl, rfl, rfl, rfl, rfl, rfl, rfl, rfl, rfl, rfl, rfl, rfl, trivial⟩ rfl rfl (Nat.le_of_ble_eq_true rfl) (Nat.le_of_ble_eq_true rfl) (Nat.le_of_ble_eq_true rfl) dX7_log_8 ?_
  refine x_if_neZ C 17 dX7_log_11 (by decide) (fun c1 => ?_) (fun c1 => ?_)
  · have hN2 := in_nat 2 (by decide) (g := 2) rfl (by assumption : f_X7_in xw 0 2 = true)
    refine x_leq (congrArg (fun (z : Int32) => ([(0, .ref (q 0)), (1, .int xi), (2, .int z)] : List (Nat × Value))) hN2.1) ?_
    refine x_iload_n C dX7_log_17 1 rfl ?_
    refine x_if_lt C 40 dX7_log_18 (by decide) (fun c3 => ?_) (fun c3 => ?_)
    · refine x_iconst C (-1) dX7_log_40 (by decide) ?_
      refine x_goto C 57 dX7_log_41 (by decide) ?_
      exact x_iret C rfl dX7_log_57 rfl rfl
    · refine x_iload_n C dX7_log_21 1 rfl ?_
      refine x_aload_n C dX7_log_22 0 rfl ?_
      refine x_get (v := .int (u 29 0)) C hwsX70 29 mw_389 0 rfl rfl (by decide) rfl rfl dX7_log_23 ?_
      refine x_icmp_ge C 40 dX7_log_26 (by decide) (fun c4 => ?_) (fun c4 => ?_)
      · refine x_iload_n C dX7_log_29 1 rfl ?_
        refine x_aload_n C dX7_log_30 0 rfl ?_
        refine x_get (v := .int (u 29 0)) C hwsX70 29 mw_389 0 rfl rfl (by decide) rfl rfl dX7_log_31 ?_
        refine x_bipush C 64 dX7_log_34 (by decide) ?_
        refine x_isub C dX7_log_36 ?_
        refine x_icmp_ge C 44 dX7_log_37 (by decide) (fun c5 => ?_) (fun c5 => ?_)
        · refine x_iconst C (-1) dX7_log_40 (by decide) ?_
          refine x_goto C 57 dX7_log_41 (by decide) ?_
          exact x_iret C rfl dX7_log_57 rfl rfl
        · refine x_aload_n C dX7_log_44 0 rfl ?_
          refine x_get (v := .ref (q 20)) C hwsX70 30 mw_356 0 rfl rfl (by decide) rfl rfl dX7_log_45 ?_
          refine x_iconst C 3 dX7_log_48 (by decide) ?_
          refine x_iload_n C dX7_log_49 1 rfl ?_
          refine x_bipush C 64 dX7_log_50 (by decide) ?_
          refine x_irem C dX7_log_52 (by first | decide | assumption) ?_
          have hN6 := rem64 (by assumption : ¬ xi < 0)
          refine x_top (nI (ixn (xi - xi / 64 * 64))) hN6.1 ?_
          refine x_imul C dX7_log_53 ?_
          refine x_top (nI (3 * (ixn (xi - xi / 64 * 64)))) (pk_mul _ _) ?_
          refine x_iload_n C dX7_log_54 2 rfl ?_
          refine x_iadd C dX7_log_55 ?_
          refine x_top (nI ((3 * (ixn (xi - xi / 64 * 64))) + (ixn xw))) (nI_add _ _) ?_
          refine x_iald C 20 0 rfl rfl ((3 * (ixn (xi - xi / 64 * 64))) + (ixn xw)) rfl (by omega) (by decide) (u 30 ((3 * (ixn (xi - xi / 64 * 64))) + (ixn xw))) (by simp [put, upd]) dX7_log_56 ?_
          exact x_iret C rfl dX7_log_57 rfl rfl
      · refine x_iconst C (-1) dX7_log_40 (by decide) ?_
        refine x_goto C 57 dX7_log_41 (by decide) ?_
        exact x_iret C rfl dX7_log_57 rfl rfl
  · refine x_bipush C (-2) dX7_log_14 (by decide) ?_
    exact x_iret C rfl dX7_log_16 rfl rfl
def f_X7_logged (u : St) : Int32 × St := (u 29 0, put u 0 0 0)
theorem hd_X7_logged : yX7_logged.cls ≠ "java/lang/invoke/MethodHandle" ∧ yX7_logged.cls ≠ "java/lang/invoke/VarHandle" ∧ (parseMethodDescriptor yX7_logged.desc).map (fun d => d.parameters.length) = some 0 := by decide +kernel
set_option maxHeartbeats 4000000 in
set_option maxRecDepth 100000 in
theorem c_X7_logged (l : Launch) (D : va_G) (cI cZ cO : ClassId) (q : Nat → Nat) (u : St)  : CTi l D (T3 cI cZ cO) yX7_logged (Cond.code yX7_logged cX7_logged 1 (some .int) :: WA) ({ frames := 0, cells := 0, slots := 0, locals := 0 } : Room) [.ref (q 0)] (wX7 cI cZ cO q u) ((f_X7_logged u).1) (wX7 cI cZ cO q (f_X7_logged u).2) := by
  refine ct_i (K := fun z => z) (t := f_X7_logged u) (rf := fun o => o.1) (wf := fun o => wX7 cI cZ cO q o.2) (own := RX7) (nm := "logged") (L0 := [(0, .ref (q 0))]) (plainFor_of_name (by decide +kernel)) rfl rfl (Nat.le_of_ble_eq_true rfl) rfl ?_
  intro p e s m args below meth c A C
  unfold f_X7_logged
  refine x_aload_n C dX7_logged_0 0 rfl ?_
  refine x_iconst C 0 dX7_logged_1 (by decide) ?_
  refine x_put (ws' := wX7 cI cZ cO q (put u 0 0 0)) C hwsX70 tyX7 tyX7_ok nmX7 0 mw_365 0 rfl rfl (by decide) rfl rfl rfl rfl (Nat.le_of_ble_eq_true rfl) dX7_logged_2 rfl ?_
  refine x_aload_n C dX7_logged_5 0 rfl ?_
  refine x_get (v := .int (u 29 0)) C hwsX70 29 mw_389 0 rfl rfl (by decide) rfl rfl dX7_logged_6 ?_
  exact x_iret C rfl dX7_logged_9 rfl rfl
def f_X7_bound_k72 (u : St) (b2 : Int32) (b4 : Int32) : Int32 × St := ((80 + (2 * b2)) + b4, put u 0 0 0)
def f_X7_bound_k35 (u : St) (b2 : Int32) : Int32 × St := f_X7_bound_k72 u b2 (if (u 12 4) < (u 12 3) then (u 12 3) else (u 12 4))
def f_X7_bound (u : St) : Int32 × St := f_X7_bound_k35 u (if (u 12 1) < (u 12 0) then (u 12 0) else (u 12 1))
theorem hd_X7_bound : yX7_bound.cls ≠ "java/lang/invoke/MethodHandle" ∧ yX7_bound.cls ≠ "java/lang/invoke/VarHandle" ∧ (parseMethodDescriptor yX7_bound.desc).map (fun d => d.parameters.length) = some 0 := by decide +kernel
set_option maxHeartbeats 4000000 in
set_option maxRecDepth 100000 in
theorem c_X7_bound (l : Launch) (D : va_G) (cI cZ cO : ClassId) (q : Nat → Nat) (u : St)  : CTi l D (T3 cI cZ cO) yX7_bound (Cond.code yX7_bound cX7_bound 2 (some .int) :: WA) ({ frames := 0, cells := 0, slots := 0, locals := 0 } : Room) [.ref (q 0)] (wX7 cI cZ cO q u) ((f_X7_bound u).1) (wX7 cI cZ cO q (f_X7_bound u).2) := by
  refine ct_i (K := fun z => z) (t := f_X7_bound u) (rf := fun o => o.1) (wf := fun o => wX7 cI cZ cO q o.2) (own := RX7) (nm := "bound") (L0 := [(0, .ref (q 0))]) (plainFor_of_name (by decide +kernel)) rfl rfl (Nat.le_of_ble_eq_true rfl) rfl ?_
  intro p e s m args below meth c A C
  unfold f_X7_bound
  refine x_aload_n C dX7_bound_0 0 rfl ?_
  refine x_iconst C 0 dX7_bound_1 (by decide) ?_
  refine x_put (ws' := wX7 cI cZ cO q (put u 0 0 0)) C hwsX70 tyX7 tyX7_ok nmX7 0 mw_365 0 rfl rfl (by decide) rfl rfl rfl rfl (Nat.le_of_ble_eq_true rfl) dX7_bound_2 rfl ?_
  refine x_aload_n C dX7_bound_5 0 rfl ?_
  refine x_get (v := .ref (q 3)) C hwsX70 12 mw_330 0 rfl rfl (by decide) rfl rfl dX7_bound_6 ?_
  refine x_iconst C 0 dX7_bound_9 (by decide) ?_
  refine x_iald C 3 0 rfl rfl 0 rfl (by omega) (by decide) (u 12 0) rfl dX7_bound_10 ?_
  refine x_aload_n C dX7_bound_11 0 rfl ?_
  refine x_get (v := .ref (q 3)) C hwsX70 12 mw_330 0 rfl rfl (by decide) rfl rfl dX7_bound_12 ?_
  refine x_iconst C 1 dX7_bound_15 (by decide) ?_
  refine x_iald C 3 0 rfl rfl 1 rfl (by omega) (by decide) (u 12 1) rfl dX7_bound_16 ?_
  refine x_join (fun (b2 : Int32) => f_X7_bound_k35 u b2) 35 (fun (b2 : Int32) => [(0, .ref (q 0))]) (fun (b2 : Int32) => [.int b2]) (fun (b2 : Int32) => wX7 cI cZ cO q (put u 0 0 0)) (fun b2 => ?_) _ (fun J6 => ?_)
  · unfold f_X7_bound_k35
    refine x_istore_n (L' := [(1, .int b2), (0, .ref (q 0))]) C dX7_bound_35 (by decide) rfl ?_
    refine x_bipush C 80 dX7_bound_36 (by decide) ?_
    refine x_iconst C 2 dX7_bound_38 (by decide) ?_
    refine x_iload_n C dX7_bound_39 0 rfl ?_
    refine x_imul C dX7_bound_40 ?_
    refine x_iadd C dX7_bound_41 ?_
    refine x_aload_n C dX7_bound_42 1 rfl ?_
    refine x_get (v := .ref (q 3)) C hwsX70 12 mw_330 0 rfl rfl (by decide) rfl rfl dX7_bound_43 ?_
    refine x_iconst C 3 dX7_bound_46 (by decide) ?_
    refine x_iald C 3 0 rfl rfl 3 rfl (by omega) (by decide) (u 12 3) rfl dX7_bound_47 ?_
    refine x_aload_n C dX7_bound_48 1 rfl ?_
    refine x_get (v := .ref (q 3)) C hwsX70 12 mw_330 0 rfl rfl (by decide) rfl rfl dX7_bound_49 ?_
    refine x_iconst C 4 dX7_bound_52 (by decide) ?_
    refine x_iald C 3 0 rfl rfl 4 rfl (by omega) (by decide) (u 12 4) rfl dX7_bound_53 ?_
    refine x_join (fun (b4 : Int32) => f_X7_bound_k72 u b2 b4) 72 (fun (b4 : Int32) => [(0, .ref (q 0)), (1, .int b2)]) (fun (b4 : Int32) => [.int b4, .int (80 + (2 * b2))]) (fun (b4 : Int32) => wX7 cI cZ cO q (put u 0 0 0)) (fun b4 => ?_) _ (fun J5 => ?_)
    · unfold f_X7_bound_k72
      refine x_iadd C dX7_bound_72 ?_
      exact x_iret C rfl dX7_bound_73 rfl rfl
    · refine x_icmp_le C 66 dX7_bound_54 (by decide) (fun c3 => ?_) (fun c3 => ?_)
      · refine x_aload_n C dX7_bound_57 1 rfl ?_
        refine x_get (v := .ref (q 3)) C hwsX70 12 mw_330 0 rfl rfl (by decide) rfl rfl dX7_bound_58 ?_
        refine x_iconst C 3 dX7_bound_61 (by decide) ?_
        refine x_iald C 3 0 rfl rfl 3 rfl (by omega) (by decide) (u 12 3) rfl dX7_bound_62 ?_
        refine x_goto C 72 dX7_bound_63 (by decide) ?_
        refine x_lsub (L' := [(0, .ref (q 0)), (1, .int b2)]) [1, 0] rfl ?_
        exact J5 (u 12 3)
      · refine x_aload_n C dX7_bound_66 1 rfl ?_
        refine x_get (v := .ref (q 3)) C hwsX70 12 mw_330 0 rfl rfl (by decide) rfl rfl dX7_bound_67 ?_
        refine x_iconst C 4 dX7_bound_70 (by decide) ?_
        refine x_iald C 3 0 rfl rfl 4 rfl (by omega) (by decide) (u 12 4) rfl dX7_bound_71 ?_
        refine x_lsub (L' := [(0, .ref (q 0)), (1, .int b2)]) [1, 0] rfl ?_
        exact J5 (u 12 4)
  · refine x_icmp_le C 29 dX7_bound_17 (by decide) (fun c1 => ?_) (fun c1 => ?_)
    · refine x_aload_n C dX7_bound_20 0 rfl ?_
      refine x_get (v := .ref (q 3)) C hwsX70 12 mw_330 0 rfl rfl (by decide) rfl rfl dX7_bound_21 ?_
      refine x_iconst C 0 dX7_bound_24 (by decide) ?_
      refine x_iald C 3 0 rfl rfl 0 rfl (by omega) (by decide) (u 12 0) rfl dX7_bound_25 ?_
      refine x_goto C 35 dX7_bound_26 (by decide) ?_
      exact J6 (u 12 0)
    · refine x_aload_n C dX7_bound_29 0 rfl ?_
      refine x_get (v := .ref (q 3)) C hwsX70 12 mw_330 0 rfl rfl (by decide) rfl rfl dX7_bound_30 ?_
      refine x_iconst C 1 dX7_bound_33 (by decide) ?_
      refine x_iald C 3 0 rfl rfl 1 rfl (by omega) (by decide) (u 12 1) rfl dX7_bound_34 ?_
      exact J6 (u 12 1)
def f_X7_safe (u : St) : Bool × St := if (u 7 0) = 0 then (if (u 9 0) = 0 then (true, put u 0 0 0) else (false, put u 0 0 0)) else (false, put u 0 0 0)
theorem hd_X7_safe : yX7_safe.cls ≠ "java/lang/invoke/MethodHandle" ∧ yX7_safe.cls ≠ "java/lang/invoke/VarHandle" ∧ (parseMethodDescriptor yX7_safe.desc).map (fun d => d.parameters.length) = some 0 := by decide +kernel
set_option maxHeartbeats 4000000 in
set_option maxRecDepth 100000 in
theorem c_X7_safe (l : Launch) (D : va_G) (cI cZ cO : ClassId) (q : Nat → Nat) (u : St)  : CTi l D (T3 cI cZ cO) yX7_safe (Cond.code yX7_safe cX7_safe 1 (some .boolean) :: WA) ({ frames := 0, cells := 0, slots := 0, locals := 0 } : Room) [.ref (q 0)] (wX7 cI cZ cO q u) (b2i (f_X7_safe u).1) (wX7 cI cZ cO q (f_X7_safe u).2) := by
  refine ct_i (K := fun z => z) (t := f_X7_safe u) (rf := fun o => b2i o.1) (wf := fun o => wX7 cI cZ cO q o.2) (own := RX7) (nm := "safe") (L0 := [(0, .ref (q 0))]) (plainFor_of_name (by decide +kernel)) rfl rfl (Nat.le_of_ble_eq_true rfl) rfl ?_
  intro p e s m args below meth c A C
  unfold f_X7_safe
  refine x_aload_n C dX7_safe_0 0 rfl ?_
  refine x_iconst C 0 dX7_safe_1 (by decide) ?_
  refine x_put (ws' := wX7 cI cZ cO q (put u 0 0 0)) C hwsX70 tyX7 tyX7_ok nmX7 0 mw_365 0 rfl rfl (by decide) rfl rfl rfl rfl (Nat.le_of_ble_eq_true rfl) dX7_safe_2 rfl ?_
  refine x_aload_n C dX7_safe_5 0 rfl ?_
  refine x_get (v := .int (u 7 0)) C hwsX70 7 mw_422 0 rfl rfl (by decide) rfl rfl dX7_safe_6 ?_
  refine x_if_ne C 23 dX7_safe_9 (by decide) (fun c1 => ?_) (fun c1 => ?_)
  · refine x_aload_n C dX7_safe_12 0 rfl ?_
    refine x_get (v := .int (u 9 0)) C hwsX70 9 mw_423 0 rfl rfl (by decide) rfl rfl dX7_safe_13 ?_
    refine x_if_ne C 23 dX7_safe_16 (by decide) (fun c2 => ?_) (fun c2 => ?_)
    · refine x_iconst C 1 dX7_safe_19 (by decide) ?_
      refine x_goto C 24 dX7_safe_20 (by decide) ?_
      exact x_zret C rfl (by decide) dX7_safe_24 rfl rfl
    · refine x_iconst C 0 dX7_safe_23 (by decide) ?_
      exact x_zret C rfl (by decide) dX7_safe_24 rfl rfl
  · refine x_iconst C 0 dX7_safe_23 (by decide) ?_
    exact x_zret C rfl (by decide) dX7_safe_24 rfl rfl
