def f_X7_come (u : St) (xm : Nat) (xt : Int32) : St := (f_X7_note (put (put u 16 xm xt) 17 xm 0) xm xt)
theorem hd_X7_come : yX7_come.cls ≠ "java/lang/invoke/MethodHandle" ∧ yX7_come.cls ≠ "java/lang/invoke/VarHandle" ∧ (parseMethodDescriptor yX7_come.desc).map (fun d => d.parameters.length) = some 2 := by decide +kernel
set_option maxHeartbeats 4000000 in
set_option maxRecDepth 100000 in
theorem c_X7_come (l : Launch) (D : va_G) (cI cZ cO : ClassId) (q : Nat → Nat) (u : St) (xm : Nat) (xt : Int32) (hy0 : xm < 2) (hy1 : LB 0 u) : CTv l D (T3 cI cZ cO) yX7_come (Cond.code yX7_come cX7_come 3 none :: WA) ({ frames := 1, cells := 0, slots := 0, locals := 23 } : Room) [.ref (q 0), .int (nI xm), .int xt] (wX7 cI cZ cO q u) (wX7 cI cZ cO q (f_X7_come u xm xt)) := by
  refine ct_v (K := fun z => z) (t := f_X7_come u xm xt) (wf := fun o => wX7 cI cZ cO q o) (own := RX7) (nm := "come") (L0 := [(0, .ref (q 0)), (1, .int (nI xm)), (2, .int xt)]) (plainFor_of_name (by decide +kernel)) rfl rfl (Nat.le_of_ble_eq_true rfl) rfl ?_
  intro p e s m args below meth c A C
  unfold f_X7_come
  refine x_aload_n C dX7_come_0 0 rfl ?_
  refine x_get (v := .ref (q 7)) C hwsX70 16 mw_343 0 rfl rfl (by decide) rfl rfl dX7_come_1 ?_
  refine x_iload_n C dX7_come_4 1 rfl ?_
  refine x_iload_n C dX7_come_5 2 rfl ?_
  refine x_iast (ws' := wX7 cI cZ cO q (put u 16 xm xt)) C 7 0 rfl rfl xm rfl (by omega) (by decide) dX7_come_6 rfl ?_
  refine x_aload_n C dX7_come_7 0 rfl ?_
  refine x_get (v := .ref (q 8)) C hwsX70 17 mw_344 0 rfl rfl (by decide) rfl rfl dX7_come_8 ?_
  refine x_iload_n C dX7_come_11 1 rfl ?_
  refine x_iconst C 0 dX7_come_12 (by decide) ?_
  refine x_iast (ws' := wX7 cI cZ cO q (put (put u 16 xm xt) 17 xm 0)) C 8 0 rfl rfl xm rfl (by omega) (by decide) dX7_come_13 rfl ?_
  refine x_aload_n C dX7_come_14 0 rfl ?_
  refine x_iload_n C dX7_come_15 1 rfl ?_
  refine x_iload_n C dX7_come_16 2 rfl ?_
  refine x_cVvW (q0 := 0) (As := [.int (nI xm), .int xt]) C mw_392 mw_393 mw_394 mw_337 mw_388 hd_X7_note rfl rfl ⟨Nat.le_of_ble_eq_true rfl, Nat.le_of_ble_eq_true rfl⟩ rfl rfl rfl (c_X7_note l D cI cZ cO q (put (put u 16 xm xt) 17 xm 0) xm xt (by (repeat (with_reducible refine LB_put ?_ ?_; decide)); first | with_reducible assumption | exact LB_lo (by with_reducible assumption) (by first | decide | omega))) rfl rfl (Nat.le_of_ble_eq_true rfl) (Nat.le_of_ble_eq_true rfl) (Nat.le_of_ble_eq_true rfl) dX7_come_17 ?_
  exact x_vret C rfl dX7_come_20 rfl
theorem LB_come {n : Nat} {u : St} {m : Nat} {w : Int32} (h : LB (n + 1) u) : LB n (f_X7_come u m w) := by
  unfold f_X7_come
  exact LB_note (LB_put (by decide) (LB_put (by decide) h))
def f_X7_change_o66 (o4 : St) : St := o4
def f_X7_change_o80 (o6 : St) : St := o6
def f_X7_change_k58 (u : St) (xm : Nat) (b2 : Bool) : St := if (u 16 xm) = 0 then (f_X7_change_o66 (f_X7_come (put (put u 18 xm (u 25 (18 * xm))) 20 xm (b2i b2)) xm 1)) else (if (u 16 xm) = 3 then (f_X7_change_o80 (f_X7_come (put (put u 18 xm (u 25 (18 * xm))) 20 xm (b2i b2)) xm 4)) else (if (u 16 xm) = 6 then (f_X7_come (put (put u 18 xm (u 25 (18 * xm))) 20 xm (b2i b2)) xm 5) else (if (u 16 xm) = 7 then (f_X7_come (put (put u 18 xm (u 25 (18 * xm))) 20 xm (b2i b2)) xm 5) else (put (put u 18 xm (u 25 (18 * xm))) 20 xm (b2i b2)))))
def f_X7_change (u : St) (xm : Nat) : St := f_X7_change_k58 u xm (if (u 20 xm) = 0 then (if (u 16 xm) = 5 then true else (if (u 16 xm) = 6 then true else (if (u 16 xm) = 7 then true else false))) else true)
theorem hd_X7_change : yX7_change.cls ≠ "java/lang/invoke/MethodHandle" ∧ yX7_change.cls ≠ "java/lang/invoke/VarHandle" ∧ (parseMethodDescriptor yX7_change.desc).map (fun d => d.parameters.length) = some 1 := by decide +kernel
set_option maxHeartbeats 4000000 in
set_option maxRecDepth 100000 in
theorem c_X7_change (l : Launch) (D : va_G) (cI cZ cO : ClassId) (q : Nat → Nat) (u : St) (xm : Nat) (hy0 : xm < 2) (hy1 : LB 0 u) : CTv l D (T3 cI cZ cO) yX7_change (Cond.code yX7_change cX7_change 3 none :: WA) ({ frames := 2, cells := 0, slots := 0, locals := 45 } : Room) [.ref (q 0), .int (nI xm)] (wX7 cI cZ cO q u) (wX7 cI cZ cO q (f_X7_change u xm)) := by
  refine ct_v (K := fun z => z) (t := f_X7_change u xm) (wf := fun o => wX7 cI cZ cO q o) (own := RX7) (nm := "change") (L0 := [(0, .ref (q 0)), (1, .int (nI xm))]) (plainFor_of_name (by decide +kernel)) rfl rfl (Nat.le_of_ble_eq_true rfl) rfl ?_
  intro p e s m args below meth c A C
  unfold f_X7_change
  refine x_aload_n C dX7_change_0 0 rfl ?_
  refine x_get (v := .ref (q 9)) C hwsX70 18 mw_345 0 rfl rfl (by decide) rfl rfl dX7_change_1 ?_
  refine x_iload_n C dX7_change_4 1 rfl ?_
  refine x_aload_n C dX7_change_5 0 rfl ?_
  refine x_get (v := .ref (q 16)) C hwsX70 25 mw_353 0 rfl rfl (by decide) rfl rfl dX7_change_6 ?_
  refine x_bipush C 18 dX7_change_9 (by decide) ?_
  refine x_iload_n C dX7_change_11 1 rfl ?_
  refine x_imul C dX7_change_12 ?_
  refine x_top (nI (18 * xm)) (pk_mul _ _) ?_
  refine x_iald C 16 0 rfl rfl (18 * xm) rfl (by omega) (by decide) (u 25 (18 * xm)) rfl dX7_change_13 ?_
  refine x_iast (ws' := wX7 cI cZ cO q (put u 18 xm (u 25 (18 * xm)))) C 9 0 rfl rfl xm rfl (by omega) (by decide) dX7_change_14 rfl ?_
  refine x_aload_n C dX7_change_15 0 rfl ?_
  refine x_get (v := .ref (q 7)) C hwsX70 16 mw_343 0 rfl rfl (by decide) rfl rfl dX7_change_16 ?_
  refine x_iload_n C dX7_change_19 1 rfl ?_
  refine x_iald C 7 0 rfl rfl xm rfl (by omega) (by decide) (u 16 xm) (by simp [put, upd]) dX7_change_20 ?_
  refine x_istore_n (L' := [(2, .int (u 16 xm)), (0, .ref (q 0)), (1, .int (nI xm))]) C dX7_change_21 (by decide) rfl ?_
  refine x_aload_n C dX7_change_22 1 rfl ?_
  refine x_get (v := .ref (q 11)) C hwsX70 20 mw_348 0 rfl rfl (by decide) rfl rfl dX7_change_23 ?_
  refine x_iload_n C dX7_change_26 2 rfl ?_
  refine x_aload_n C dX7_change_27 1 rfl ?_
  refine x_get (v := .ref (q 11)) C hwsX70 20 mw_348 0 rfl rfl (by decide) rfl rfl dX7_change_28 ?_
  refine x_iload_n C dX7_change_31 2 rfl ?_
  refine x_zald C 11 1 rfl rfl xm rfl (by omega) (by decide) (u 20 xm) (by simp [put, upd]) dX7_change_32 ?_
  refine x_join (fun (b2 : Bool) => f_X7_change_k58 u xm b2) 58 (fun (b2 : Bool) => [(0, .ref (q 0)), (1, .int (nI xm)), (2, .int (u 16 xm))]) (fun (b2 : Bool) => [.int (b2i b2), .int (nI xm), .ref (q 11)]) (fun (b2 : Bool) => wX7 cI cZ cO q (put u 18 xm (u 25 (18 * xm)))) (fun b2 => ?_) _ (fun J9 => ?_)
  · unfold f_X7_change_k58
    refine x_zast (ws' := wX7 cI cZ cO q (put (put u 18 xm (u 25 (18 * xm))) 20 xm (b2i b2))) C 11 1 rfl rfl xm rfl (by omega) (by decide) (nv_b _) dX7_change_58 rfl ?_
    refine x_iload_n C dX7_change_59 2 rfl ?_
    refine x_if_ne C 72 dX7_change_60 (by decide) (fun c3 => ?_) (fun c3 => ?_)
    · refine x_aload_n C dX7_change_63 0 rfl ?_
      refine x_iload_n C dX7_change_64 1 rfl ?_
      refine x_iconst C 1 dX7_change_65 (by decide) ?_
      refine x_cVvW (q0 := 0) (As := [.int (nI xm), .int 1]) C mw_396 mw_397 mw_398 mw_337 mw_391 hd_X7_come rfl rfl ⟨Nat.le_of_ble_eq_true rfl, Nat.le_of_ble_eq_true rfl⟩ rfl rfl rfl (c_X7_come l D cI cZ cO q (put (put u 18 xm (u 25 (18 * xm))) 20 xm (b2i b2)) xm 1 (by omega) (by (repeat (with_reducible refine LB_put ?_ ?_; decide)); first | with_reducible assumption | exact LB_lo (by with_reducible assumption) (by first | decide | omega))) rfl rfl (Nat.le_of_ble_eq_true rfl) (Nat.le_of_ble_eq_true rfl) (Nat.le_of_ble_eq_true rfl) dX7_change_66 ?_
      unfold f_X7_change_o66
      generalize f_X7_come (put (put u 18 xm (u 25 (18 * xm))) 20 xm (b2i b2)) xm 1 = o4
      refine x_goto C 104 dX7_change_69 (by decide) ?_
      exact x_vret C rfl dX7_change_104 rfl
    · refine x_iload_n C dX7_change_72 2 rfl ?_
      refine x_iconst C 3 dX7_change_73 (by decide) ?_
      refine x_icmp_ne C 86 dX7_change_74 (by decide) (fun c5 => ?_) (fun c5 => ?_)
      · refine x_aload_n C dX7_change_77 0 rfl ?_
        refine x_iload_n C dX7_change_78 1 rfl ?_
        refine x_iconst C 4 dX7_change_79 (by decide) ?_
        refine x_cVvW (q0 := 0) (As := [.int (nI xm), .int 4]) C mw_396 mw_397 mw_398 mw_337 mw_391 hd_X7_come rfl rfl ⟨Nat.le_of_ble_eq_true rfl, Nat.le_of_ble_eq_true rfl⟩ rfl rfl rfl (c_X7_come l D cI cZ cO q (put (put u 18 xm (u 25 (18 * xm))) 20 xm (b2i b2)) xm 4 (by omega) (by (repeat (with_reducible refine LB_put ?_ ?_; decide)); first | with_reducible assumption | exact LB_lo (by with_reducible assumption) (by first | decide | omega))) rfl rfl (Nat.le_of_ble_eq_true rfl) (Nat.le_of_ble_eq_true rfl) (Nat.le_of_ble_eq_true rfl) dX7_change_80 ?_
        unfold f_X7_change_o80
        generalize f_X7_come (put (put u 18 xm (u 25 (18 * xm))) 20 xm (b2i b2)) xm 4 = o6
        refine x_goto C 104 dX7_change_83 (by decide) ?_
        exact x_vret C rfl dX7_change_104 rfl
      · refine x_iload_n C dX7_change_86 2 rfl ?_
        refine x_bipush C 6 dX7_change_87 (by decide) ?_
        refine x_icmp_eq C 98 dX7_change_89 (by decide) (fun c7 => ?_) (fun c7 => ?_)
        · refine x_aload_n C dX7_change_98 0 rfl ?_
          refine x_iload_n C dX7_change_99 1 rfl ?_
          refine x_iconst C 5 dX7_change_100 (by decide) ?_
          refine x_cVvW (q0 := 0) (As := [.int (nI xm), .int 5]) C mw_396 mw_397 mw_398 mw_337 mw_391 hd_X7_come rfl rfl ⟨Nat.le_of_ble_eq_true rfl, Nat.le_of_ble_eq_true rfl⟩ rfl rfl rfl (c_X7_come l D cI cZ cO q (put (put u 18 xm (u 25 (18 * xm))) 20 xm (b2i b2)) xm 5 (by omega) (by (repeat (with_reducible refine LB_put ?_ ?_; decide)); first | with_reducible assumption | exact LB_lo (by with_reducible assumption) (by first | decide | omega))) rfl rfl (Nat.le_of_ble_eq_true rfl) (Nat.le_of_ble_eq_true rfl) (Nat.le_of_ble_eq_true rfl) dX7_change_101 ?_
          exact x_vret C rfl dX7_change_104 rfl
        · refine x_iload_n C dX7_change_92 2 rfl ?_
          refine x_bipush C 7 dX7_change_93 (by decide) ?_
          refine x_icmp_ne C 104 dX7_change_95 (by decide) (fun c8 => ?_) (fun c8 => ?_)
          · refine x_aload_n C dX7_change_98 0 rfl ?_
            refine x_iload_n C dX7_change_99 1 rfl ?_
            refine x_iconst C 5 dX7_change_100 (by decide) ?_
            refine x_cVvW (q0 := 0) (As := [.int (nI xm), .int 5]) C mw_396 mw_397 mw_398 mw_337 mw_391 hd_X7_come rfl rfl ⟨Nat.le_of_ble_eq_true rfl, Nat.le_of_ble_eq_true rfl⟩ rfl rfl rfl (c_X7_come l D cI cZ cO q (put (put u 18 xm (u 25 (18 * xm))) 20 xm (b2i b2)) xm 5 (by omega) (by (repeat (with_reducible refine LB_put ?_ ?_; decide)); first | with_reducible assumption | exact LB_lo (by with_reducible assumption) (by first | decide | omega))) rfl rfl (Nat.le_of_ble_eq_true rfl) (Nat.le_of_ble_eq_true rfl) (Nat.le_of_ble_eq_true rfl) dX7_change_101 ?_
            exact x_vret C rfl dX7_change_104 rfl
          · exact x_vret C rfl dX7_change_104 rfl
  · refine x_if_ne C 53 dX7_change_33 (by decide) (fun c1 => ?_) (fun c1 => ?_)
    · refine x_iload_n C dX7_change_36 0 rfl ?_
      refine x_iconst C 5 dX7_change_37 (by decide) ?_
      refine x_icmp_eq C 53 dX7_change_38 (by decide) (fun c10 => ?_) (fun c10 => ?_)
      · refine x_iconst C 1 dX7_change_53 (by decide) ?_
        refine x_goto C 58 dX7_change_54 (by decide) ?_
        refine x_lsub (L' := [(0, .ref (q 0)), (1, .int (nI xm)), (2, .int (u 16 xm))]) [1, 2, 0] rfl ?_
        exact J9 true
      · refine x_iload_n C dX7_change_41 0 rfl ?_
        refine x_bipush C 6 dX7_change_42 (by decide) ?_
        refine x_icmp_eq C 53 dX7_change_44 (by decide) (fun c11 => ?_) (fun c11 => ?_)
        · refine x_iconst C 1 dX7_change_53 (by decide) ?_
          refine x_goto C 58 dX7_change_54 (by decide) ?_
          refine x_lsub (L' := [(0, .ref (q 0)), (1, .int (nI xm)), (2, .int (u 16 xm))]) [1, 2, 0] rfl ?_
          exact J9 true
        · refine x_iload_n C dX7_change_47 0 rfl ?_
          refine x_bipush C 7 dX7_change_48 (by decide) ?_
          refine x_icmp_ne C 57 dX7_change_50 (by decide) (fun c12 => ?_) (fun c12 => ?_)
          · refine x_iconst C 1 dX7_change_53 (by decide) ?_
            refine x_goto C 58 dX7_change_54 (by decide) ?_
            refine x_lsub (L' := [(0, .ref (q 0)), (1, .int (nI xm)), (2, .int (u 16 xm))]) [1, 2, 0] rfl ?_
            exact J9 true
          · refine x_iconst C 0 dX7_change_57 (by decide) ?_
            refine x_lsub (L' := [(0, .ref (q 0)), (1, .int (nI xm)), (2, .int (u 16 xm))]) [1, 2, 0] rfl ?_
            exact J9 false
    · refine x_iconst C 1 dX7_change_53 (by decide) ?_
      refine x_goto C 58 dX7_change_54 (by decide) ?_
      refine x_lsub (L' := [(0, .ref (q 0)), (1, .int (nI xm)), (2, .int (u 16 xm))]) [1, 2, 0] rfl ?_
      exact J9 true
theorem LB_change {n : Nat} {u : St} {m : Nat} (h : LB (n + 1) u) : LB n (f_X7_change u m) := by
  have key : ∀ b : Bool, LB n (f_X7_change_k58 u m b) := by
    intro b
    have h2 : LB (n + 1) (put (put u 18 m (u 25 (18 * m))) 20 m (b2i b)) := LB_put (by decide) (LB_put (by decide) h)
    unfold f_X7_change_k58 f_X7_change_o66 f_X7_change_o80
    exact LB_ite (LB_come h2) (LB_ite (LB_come h2) (LB_ite (LB_come h2) (LB_ite (LB_come h2) (LB_lo h2 (by omega)))))
  unfold f_X7_change
  exact key _
def f_X7_advance_o85 (o11 : St) : St := o11
def f_X7_advance_o104 (o13 : St) : St := o13
def f_X7_advance_o117 (o15 : St) : St := o15
def f_X7_advance_o164 (o19 : St) : St := o19
def f_X7_advance_k164 (u : St) (xm : Nat) (b18 : Int32) : St := f_X7_advance_o164 (f_X7_come u xm b18)
def f_X7_advance_o206 (o26 : St) : St := o26
def f_X7_advance_k206 (u : St) (xm : Nat) (b25 : Int32) : St := f_X7_advance_o206 (f_X7_come (put u 20 xm 0) xm b25)
def f_X7_advance_o225 (o29 : St) : St := o29
def f_X7_advance_o245 (o31 : St) : St := o31
def f_X7_advance_k22 (u : St) (xm : Nat) (b2 : Bool) : St := if (u 16 xm) = 1 then (if (u 17 xm) < 2 then u else (f_X7_advance_o85 (f_X7_come u xm 2))) else (if (u 16 xm) = 2 then (if (f_X7_all u xm 6) = true then (f_X7_advance_o104 (f_X7_come u xm 4)) else u) else (if (u 16 xm) = 3 then (if b2 = true then (f_X7_advance_o117 (f_X7_come u xm 4)) else u) else (if (u 16 xm) = 4 then (if (u 17 xm) < 1 then u else (f_X7_advance_k164 u xm (if b2 = true then 5 else (if (u 18 xm) = 1 then 3 else (if (f_X7_some u xm 15) = true then 5 else 3))))) else (if (u 16 xm) = 5 then (if (u 17 xm) < 1 then u else (f_X7_advance_k206 u xm (if (u 20 xm) = 0 then 6 else 2))) else (if (u 16 xm) = 6 then (if (f_X7_all u xm 3) = true then (f_X7_advance_o225 (f_X7_come u xm 7)) else u) else (if (u 16 xm) = 7 then (if (u 17 xm) < 10 then u else (f_X7_advance_o245 (f_X7_come u xm 0))) else u))))))
def f_X7_advance (u : St) (xm : Nat) : St := f_X7_advance_k22 u xm (if (u 18 xm) = 1 then (f_X7_all u xm 9) else (f_X7_all u xm 12))
theorem hd_X7_advance : yX7_advance.cls ≠ "java/lang/invoke/MethodHandle" ∧ yX7_advance.cls ≠ "java/lang/invoke/VarHandle" ∧ (parseMethodDescriptor yX7_advance.desc).map (fun d => d.parameters.length) = some 1 := by decide +kernel
set_option maxHeartbeats 4000000 in
set_option maxRecDepth 100000 in
theorem c_X7_advance (l : Launch) (D : va_G) (cI cZ cO : ClassId) (q : Nat → Nat) (u : St) (xm : Nat) (hy0 : xm < 2) (hy1 : LB 0 u) : CTv l D (T3 cI cZ cO) yX7_advance (Cond.code yX7_advance cX7_advance 4 none :: WA) ({ frames := 2, cells := 0, slots := 0, locals := 45 } : Room) [.ref (q 0), .int (nI xm)] (wX7 cI cZ cO q u) (wX7 cI cZ cO q (f_X7_advance u xm)) := by
  refine ct_v (K := fun z => z) (t := f_X7_advance u xm) (wf := fun o => wX7 cI cZ cO q o) (own := RX7) (nm := "advance") (L0 := [(0, .ref (q 0)), (1, .int (nI xm))]) (plainFor_of_name (by decide +kernel)) rfl rfl (Nat.le_of_ble_eq_true rfl) rfl ?_
  intro p e s m args below meth c A C
  unfold f_X7_advance
  refine x_aload_n C dX7_advance_0 0 rfl ?_
  refine x_iload_n C dX7_advance_1 1 rfl ?_
  refine x_aload_n C dX7_advance_2 0 rfl ?_
  refine x_get (v := .ref (q 9)) C hwsX70 18 mw_345 0 rfl rfl (by decide) rfl rfl dX7_advance_3 ?_
  refine x_iload_n C dX7_advance_6 1 rfl ?_
  refine x_iald C 9 0 rfl rfl xm rfl (by omega) (by decide) (u 18 xm) rfl dX7_advance_7 ?_
  refine x_iconst C 1 dX7_advance_8 (by decide) ?_
  refine x_join (fun (b2 : Bool) => f_X7_advance_k22 u xm b2) 22 (fun (b2 : Bool) => [(0, .ref (q 0)), (1, .int (nI xm))]) (fun (b2 : Bool) => [.int (b2i b2)]) (fun (b2 : Bool) => wX7 cI cZ cO q u) (fun b2 => ?_) _ (fun J32 => ?_)
  · unfold f_X7_advance_k22
    refine x_istore_n (L' := [(2, .int (b2i b2)), (0, .ref (q 0)), (1, .int (nI xm))]) C dX7_advance_22 (by decide) rfl ?_
    refine x_aload_n C dX7_advance_23 1 rfl ?_
    refine x_get (v := .ref (q 7)) C hwsX70 16 mw_343 0 rfl rfl (by decide) rfl rfl dX7_advance_24 ?_
    refine x_iload_n C dX7_advance_27 2 rfl ?_
    refine x_iald C 7 0 rfl rfl xm rfl (by omega) (by decide) (u 16 xm) rfl dX7_advance_28 ?_
    refine x_split (fun c3 => ?_) (fun c3 => ?_)
    · refine x_tsI C 1 72 dX7_advance_29 (i_eq c3 (by decide : (1 : Int32).toInt = 1)) (by decide) (by decide) rfl (by decide) ?_
      refine x_aload_n C dX7_advance_72 1 rfl ?_
      refine x_get (v := .ref (q 8)) C hwsX70 17 mw_344 0 rfl rfl (by decide) rfl rfl dX7_advance_73 ?_
      refine x_iload_n C dX7_advance_76 2 rfl ?_
      refine x_iald C 8 0 rfl rfl xm rfl (by omega) (by decide) (u 17 xm) rfl dX7_advance_77 ?_
      refine x_iconst C 2 dX7_advance_78 (by decide) ?_
      refine x_icmp_lt C 251 dX7_advance_79 (by decide) (fun c10 => ?_) (fun c10 => ?_)
      · exact x_vret C rfl dX7_advance_251 rfl
      · refine x_aload_n C dX7_advance_82 1 rfl ?_
        refine x_iload_n C dX7_advance_83 2 rfl ?_
        refine x_iconst C 2 dX7_advance_84 (by decide) ?_
        refine x_cVvW (q0 := 0) (As := [.int (nI xm), .int 2]) C mw_396 mw_397 mw_398 mw_337 mw_391 hd_X7_come rfl rfl ⟨Nat.le_of_ble_eq_true rfl, Nat.le_of_ble_eq_true rfl⟩ rfl rfl rfl (c_X7_come l D cI cZ cO q u xm 2 (by omega) (by (repeat (with_reducible refine LB_put ?_ ?_; decide)); first | with_reducible assumption | exact LB_lo (by with_reducible assumption) (by first | decide | omega))) rfl rfl (Nat.le_of_ble_eq_true rfl) (Nat.le_of_ble_eq_true rfl) (Nat.le_of_ble_eq_true rfl) dX7_advance_85 ?_
        unfold f_X7_advance_o85
        generalize f_X7_come u xm 2 = o11
        refine x_lsub (L' := [(0, .ref (q 0)), (1, .int (nI xm)), (2, .int (b2i b2))]) [1, 2, 0] rfl ?_
        refine x_goto C 251 dX7_advance_88 (by decide) ?_
        exact x_vret C rfl dX7_advance_251 rfl
    · refine x_split (fun c4 => ?_) (fun c4 => ?_)
      · refine x_tsI C 2 91 dX7_advance_29 (i_eq c4 (by decide : (2 : Int32).toInt = 2)) (by decide) (by decide) rfl (by decide) ?_
        refine x_aload_n C dX7_advance_91 1 rfl ?_
        refine x_iload_n C dX7_advance_92 2 rfl ?_
        refine x_bipush C 6 dX7_advance_93 (by decide) ?_
        refine x_cViW (q0 := 0) (As := [.int (nI xm), .int 6]) C mw_399 mw_400 mw_401 mw_337 mw_381 hd_X7_all rfl rfl ⟨Nat.le_of_ble_eq_true rfl, Nat.le_of_ble_eq_true rfl⟩ rfl rfl rfl (c_X7_all l D cI cZ cO q u xm 6 (by omega) (by omega)) rfl rfl (Nat.le_of_ble_eq_true rfl) (Nat.le_of_ble_eq_true rfl) (Nat.le_of_ble_eq_true rfl) dX7_advance_95 ?_
        refine x_if_eqZ C 251 dX7_advance_98 (by decide) (fun c12 => ?_) (fun c12 => ?_)
        · refine x_aload_n C dX7_advance_101 1 rfl ?_
          refine x_iload_n C dX7_advance_102 2 rfl ?_
          refine x_iconst C 4 dX7_advance_103 (by decide) ?_
          refine x_cVvW (q0 := 0) (As := [.int (nI xm), .int 4]) C mw_396 mw_397 mw_398 mw_337 mw_391 hd_X7_come rfl rfl ⟨Nat.le_of_ble_eq_true rfl, Nat.le_of_ble_eq_true rfl⟩ rfl rfl rfl (c_X7_come l D cI cZ cO q u xm 4 (by omega) (by (repeat (with_reducible refine LB_put ?_ ?_; decide)); first | with_reducible assumption | exact LB_lo (by with_reducible assumption) (by first | decide | omega))) rfl rfl (Nat.le_of_ble_eq_true rfl) (Nat.le_of_ble_eq_true rfl) (Nat.le_of_ble_eq_true rfl) dX7_advance_104 ?_
          unfold f_X7_advance_o104
          generalize f_X7_come u xm 4 = o13
          refine x_lsub (L' := [(0, .ref (q 0)), (1, .int (nI xm)), (2, .int (b2i b2))]) [1, 2, 0] rfl ?_
          refine x_goto C 251 dX7_advance_107 (by decide) ?_
          exact x_vret C rfl dX7_advance_251 rfl
        · exact x_vret C rfl dX7_advance_251 rfl
      · refine x_split (fun c5 => ?_) (fun c5 => ?_)
        · refine x_tsI C 3 110 dX7_advance_29 (i_eq c5 (by decide : (3 : Int32).toInt = 3)) (by decide) (by decide) rfl (by decide) ?_
          refine x_iload_n C dX7_advance_110 0 rfl ?_
          refine x_if_eqZ C 251 dX7_advance_111 (by decide) (fun c14 => ?_) (fun c14 => ?_)
          · refine x_aload_n C dX7_advance_114 1 rfl ?_
            refine x_iload_n C dX7_advance_115 2 rfl ?_
            refine x_iconst C 4 dX7_advance_116 (by decide) ?_
            refine x_cVvW (q0 := 0) (As := [.int (nI xm), .int 4]) C mw_396 mw_397 mw_398 mw_337 mw_391 hd_X7_come rfl rfl ⟨Nat.le_of_ble_eq_true rfl, Nat.le_of_ble_eq_true rfl⟩ rfl rfl rfl (c_X7_come l D cI cZ cO q u xm 4 (by omega) (by (repeat (with_reducible refine LB_put ?_ ?_; decide)); first | with_reducible assumption | exact LB_lo (by with_reducible assumption) (by first | decide | omega))) rfl rfl (Nat.le_of_ble_eq_true rfl) (Nat.le_of_ble_eq_true rfl) (Nat.le_of_ble_eq_true rfl) dX7_advance_117 ?_
            unfold f_X7_advance_o117
            generalize f_X7_come u xm 4 = o15
            refine x_lsub (L' := [(0, .ref (q 0)), (1, .int (nI xm)), (2, .int (b2i b2))]) [1, 2, 0] rfl ?_
            refine x_goto C 251 dX7_advance_120 (by decide) ?_
            exact x_vret C rfl dX7_advance_251 rfl
          · exact x_vret C rfl dX7_advance_251 rfl
        · refine x_split (fun c6 => ?_) (fun c6 => ?_)
          · refine x_tsI C 4 123 dX7_advance_29 (i_eq c6 (by decide : (4 : Int32).toInt = 4)) (by decide) (by decide) rfl (by decide) ?_
            refine x_aload_n C dX7_advance_123 1 rfl ?_
            refine x_get (v := .ref (q 8)) C hwsX70 17 mw_344 0 rfl rfl (by decide) rfl rfl dX7_advance_124 ?_
            refine x_iload_n C dX7_advance_127 2 rfl ?_
            refine x_iald C 8 0 rfl rfl xm rfl (by omega) (by decide) (u 17 xm) rfl dX7_advance_128 ?_
            refine x_iconst C 1 dX7_advance_129 (by decide) ?_
            refine x_icmp_lt C 251 dX7_advance_130 (by decide) (fun c16 => ?_) (fun c16 => ?_)
            · exact x_vret C rfl dX7_advance_251 rfl
            · refine x_aload_n C dX7_advance_133 1 rfl ?_
              refine x_iload_n C dX7_advance_134 2 rfl ?_
              refine x_iload_n C dX7_advance_135 0 rfl ?_
              refine x_join (fun (b18 : Int32) => f_X7_advance_k164 u xm b18) 164 (fun (b18 : Int32) => [(0, .ref (q 0)), (1, .int (nI xm)), (2, .int (b2i b2))]) (fun (b18 : Int32) => [.int b18, .int (nI xm), .ref (q 0)]) (fun (b18 : Int32) => wX7 cI cZ cO q u) (fun b18 => ?_) _ (fun J20 => ?_)
              · unfold f_X7_advance_k164
                refine x_cVvW (q0 := 0) (As := [.int (nI xm), .int b18]) C mw_396 mw_397 mw_398 mw_337 mw_391 hd_X7_come rfl rfl ⟨Nat.le_of_ble_eq_true rfl, Nat.le_of_ble_eq_true rfl⟩ rfl rfl rfl (c_X7_come l D cI cZ cO q u xm b18 (by omega) (by (repeat (with_reducible refine LB_put ?_ ?_; decide)); first | with_reducible assumption | exact LB_lo (by with_reducible assumption) (by first | decide | omega))) rfl rfl (Nat.le_of_ble_eq_true rfl) (Nat.le_of_ble_eq_true rfl) (Nat.le_of_ble_eq_true rfl) dX7_advance_164 ?_
                unfold f_X7_advance_o164
                generalize f_X7_come u xm b18 = o19
                refine x_goto C 251 dX7_advance_167 (by decide) ?_
                exact x_vret C rfl dX7_advance_251 rfl
              · refine x_if_neZ C 163 dX7_advance_136 (by decide) (fun c17 => ?_) (fun c17 => ?_)
                · refine x_iconst C 5 dX7_advance_163 (by decide) ?_
                  refine x_lsub (L' := [(0, .ref (q 0)), (1, .int (nI xm)), (2, .int (b2i b2))]) [1, 2, 0] rfl ?_
                  exact J20 5
                · refine x_aload_n C dX7_advance_139 1 rfl ?_
                  refine x_get (v := .ref (q 9)) C hwsX70 18 mw_345 0 rfl rfl (by decide) rfl rfl dX7_advance_140 ?_
                  refine x_iload_n C dX7_advance_143 2 rfl ?_
                  refine x_iald C 9 0 rfl rfl xm rfl (by omega) (by decide) (u 18 xm) rfl dX7_advance_144 ?_
                  refine x_iconst C 1 dX7_advance_145 (by decide) ?_
                  refine x_icmp_eq C 159 dX7_advance_146 (by decide) (fun c21 => ?_) (fun c21 => ?_)
                  · refine x_iconst C 3 dX7_advance_159 (by decide) ?_
                    refine x_goto C 164 dX7_advance_160 (by decide) ?_
                    refine x_lsub (L' := [(0, .ref (q 0)), (1, .int (nI xm)), (2, .int (b2i b2))]) [1, 2, 0] rfl ?_
                    exact J20 3
                  · refine x_aload_n C dX7_advance_149 1 rfl ?_
                    refine x_iload_n C dX7_advance_150 2 rfl ?_
                    refine x_bipush C 15 dX7_advance_151 (by decide) ?_
                    refine x_cViW (q0 := 0) (As := [.int (nI xm), .int 15]) C mw_402 mw_403 mw_404 mw_337 mw_382 hd_X7_some rfl rfl ⟨Nat.le_of_ble_eq_true rfl, Nat.le_of_ble_eq_true rfl⟩ rfl rfl rfl (c_X7_some l D cI cZ cO q u xm 15 (by omega) (by omega)) rfl rfl (Nat.le_of_ble_eq_true rfl) (Nat.le_of_ble_eq_true rfl) (Nat.le_of_ble_eq_true rfl) dX7_advance_153 ?_
                    refine x_if_neZ C 163 dX7_advance_156 (by decide) (fun c22 => ?_) (fun c22 => ?_)
                    · refine x_iconst C 5 dX7_advance_163 (by decide) ?_
                      refine x_lsub (L' := [(0, .ref (q 0)), (1, .int (nI xm)), (2, .int (b2i b2))]) [1, 2, 0] rfl ?_
                      exact J20 5
                    · refine x_iconst C 3 dX7_advance_159 (by decide) ?_
                      refine x_goto C 164 dX7_advance_160 (by decide) ?_
                      refine x_lsub (L' := [(0, .ref (q 0)), (1, .int (nI xm)), (2, .int (b2i b2))]) [1, 2, 0] rfl ?_
                      exact J20 3
          · refine x_split (fun c7 => ?_) (fun c7 => ?_)
            · refine x_tsI C 5 170 dX7_advance_29 (i_eq c7 (by decide : (5 : Int32).toInt = 5)) (by decide) (by decide) rfl (by decide) ?_
              refine x_aload_n C dX7_advance_170 1 rfl ?_
              refine x_get (v := .ref (q 8)) C hwsX70 17 mw_344 0 rfl rfl (by decide) rfl rfl dX7_advance_171 ?_
              refine x_iload_n C dX7_advance_174 2 rfl ?_
              refine x_iald C 8 0 rfl rfl xm rfl (by omega) (by decide) (u 17 xm) rfl dX7_advance_175 ?_
              refine x_iconst C 1 dX7_advance_176 (by decide) ?_
              refine x_icmp_lt C 251 dX7_advance_177 (by decide) (fun c23 => ?_) (fun c23 => ?_)
              · exact x_vret C rfl dX7_advance_251 rfl
              · refine x_aload_n C dX7_advance_180 1 rfl ?_
                refine x_get (v := .ref (q 11)) C hwsX70 20 mw_348 0 rfl rfl (by decide) rfl rfl dX7_advance_181 ?_
                refine x_iload_n C dX7_advance_184 2 rfl ?_
                refine x_zald C 11 1 rfl rfl xm rfl (by omega) (by decide) (u 20 xm) rfl dX7_advance_185 ?_
                refine x_istore_n (L' := [(3, .int (u 20 xm)), (2, .int (b2i b2)), (0, .ref (q 0)), (1, .int (nI xm))]) C dX7_advance_186 (by decide) rfl ?_
                refine x_aload_n C dX7_advance_187 2 rfl ?_
                refine x_get (v := .ref (q 11)) C hwsX70 20 mw_348 0 rfl rfl (by decide) rfl rfl dX7_advance_188 ?_
                refine x_iload_n C dX7_advance_191 3 rfl ?_
                refine x_iconst C 0 dX7_advance_192 (by decide) ?_
                refine x_zast (ws' := wX7 cI cZ cO q (put u 20 xm 0)) C 11 1 rfl rfl xm rfl (by omega) (by decide) (by decide) dX7_advance_193 rfl ?_
                refine x_aload_n C dX7_advance_194 2 rfl ?_
                refine x_iload_n C dX7_advance_195 3 rfl ?_
                refine x_iload_n C dX7_advance_196 0 rfl ?_
                refine x_join (fun (b25 : Int32) => f_X7_advance_k206 u xm b25) 206 (fun (b25 : Int32) => [(0, .ref (q 0)), (1, .int (nI xm)), (2, .int (b2i b2)), (3, .int (u 20 xm))]) (fun (b25 : Int32) => [.int b25, .int (nI xm), .ref (q 0)]) (fun (b25 : Int32) => wX7 cI cZ cO q (put u 20 xm 0)) (fun b25 => ?_) _ (fun J27 => ?_)
                · unfold f_X7_advance_k206
                  refine x_cVvW (q0 := 0) (As := [.int (nI xm), .int b25]) C mw_396 mw_397 mw_398 mw_337 mw_391 hd_X7_come rfl rfl ⟨Nat.le_of_ble_eq_true rfl, Nat.le_of_ble_eq_true rfl⟩ rfl rfl rfl (c_X7_come l D cI cZ cO q (put u 20 xm 0) xm b25 (by omega) (by (repeat (with_reducible refine LB_put ?_ ?_; decide)); first | with_reducible assumption | exact LB_lo (by with_reducible assumption) (by first | decide | omega))) rfl rfl (Nat.le_of_ble_eq_true rfl) (Nat.le_of_ble_eq_true rfl) (Nat.le_of_ble_eq_true rfl) dX7_advance_206 ?_
                  unfold f_X7_advance_o206
                  generalize f_X7_come (put u 20 xm 0) xm b25 = o26
                  refine x_goto C 251 dX7_advance_209 (by decide) ?_
                  exact x_vret C rfl dX7_advance_251 rfl
                · refine x_if_eq C 204 dX7_advance_197 (by decide) (fun c24 => ?_) (fun c24 => ?_)
                  · refine x_bipush C 6 dX7_advance_204 (by decide) ?_
                    refine x_lsub (L' := [(0, .ref (q 0)), (1, .int (nI xm)), (2, .int (b2i b2)), (3, .int (u 20 xm))]) [2, 3, 1, 0] rfl ?_
                    exact J27 6
                  · refine x_iconst C 2 dX7_advance_200 (by decide) ?_
                    refine x_goto C 206 dX7_advance_201 (by decide) ?_
                    refine x_lsub (L' := [(0, .ref (q 0)), (1, .int (nI xm)), (2, .int (b2i b2)), (3, .int (u 20 xm))]) [2, 3, 1, 0] rfl ?_
                    exact J27 2
            · refine x_split (fun c8 => ?_) (fun c8 => ?_)
              · refine x_tsI C 6 212 dX7_advance_29 (i_eq c8 (by decide : (6 : Int32).toInt = 6)) (by decide) (by decide) rfl (by decide) ?_
                refine x_aload_n C dX7_advance_212 1 rfl ?_
                refine x_iload_n C dX7_advance_213 2 rfl ?_
                refine x_iconst C 3 dX7_advance_214 (by decide) ?_
                refine x_cViW (q0 := 0) (As := [.int (nI xm), .int 3]) C mw_399 mw_400 mw_401 mw_337 mw_381 hd_X7_all rfl rfl ⟨Nat.le_of_ble_eq_true rfl, Nat.le_of_ble_eq_true rfl⟩ rfl rfl rfl (c_X7_all l D cI cZ cO q u xm 3 (by omega) (by omega)) rfl rfl (Nat.le_of_ble_eq_true rfl) (Nat.le_of_ble_eq_true rfl) (Nat.le_of_ble_eq_true rfl) dX7_advance_215 ?_
                refine x_if_eqZ C 251 dX7_advance_218 (by decide) (fun c28 => ?_) (fun c28 => ?_)
                · refine x_aload_n C dX7_advance_221 1 rfl ?_
                  refine x_iload_n C dX7_advance_222 2 rfl ?_
                  refine x_bipush C 7 dX7_advance_223 (by decide) ?_
                  refine x_cVvW (q0 := 0) (As := [.int (nI xm), .int 7]) C mw_396 mw_397 mw_398 mw_337 mw_391 hd_X7_come rfl rfl ⟨Nat.le_of_ble_eq_true rfl, Nat.le_of_ble_eq_true rfl⟩ rfl rfl rfl (c_X7_come l D cI cZ cO q u xm 7 (by omega) (by (repeat (with_reducible refine LB_put ?_ ?_; decide)); first | with_reducible assumption | exact LB_lo (by with_reducible assumption) (by first | decide | omega))) rfl rfl (Nat.le_of_ble_eq_true rfl) (Nat.le_of_ble_eq_true rfl) (Nat.le_of_ble_eq_true rfl) dX7_advance_225 ?_
                  unfold f_X7_advance_o225
                  generalize f_X7_come u xm 7 = o29
                  refine x_lsub (L' := [(0, .ref (q 0)), (1, .int (nI xm)), (2, .int (b2i b2))]) [1, 2, 0] rfl ?_
                  refine x_goto C 251 dX7_advance_228 (by decide) ?_
                  exact x_vret C rfl dX7_advance_251 rfl
                · exact x_vret C rfl dX7_advance_251 rfl
              · refine x_split (fun c9 => ?_) (fun c9 => ?_)
                · refine x_tsI C 7 231 dX7_advance_29 (i_eq c9 (by decide : (7 : Int32).toInt = 7)) (by decide) (by decide) rfl (by decide) ?_
                  refine x_aload_n C dX7_advance_231 1 rfl ?_
                  refine x_get (v := .ref (q 8)) C hwsX70 17 mw_344 0 rfl rfl (by decide) rfl rfl dX7_advance_232 ?_
                  refine x_iload_n C dX7_advance_235 2 rfl ?_
                  refine x_iald C 8 0 rfl rfl xm rfl (by omega) (by decide) (u 17 xm) rfl dX7_advance_236 ?_
                  refine x_bipush C 10 dX7_advance_237 (by decide) ?_
                  refine x_icmp_lt C 251 dX7_advance_239 (by decide) (fun c30 => ?_) (fun c30 => ?_)
                  · exact x_vret C rfl dX7_advance_251 rfl
                  · refine x_aload_n C dX7_advance_242 1 rfl ?_
                    refine x_iload_n C dX7_advance_243 2 rfl ?_
                    refine x_iconst C 0 dX7_advance_244 (by decide) ?_
                    refine x_cVvW (q0 := 0) (As := [.int (nI xm), .int 0]) C mw_396 mw_397 mw_398 mw_337 mw_391 hd_X7_come rfl rfl ⟨Nat.le_of_ble_eq_true rfl, Nat.le_of_ble_eq_true rfl⟩ rfl rfl rfl (c_X7_come l D cI cZ cO q u xm 0 (by omega) (by (repeat (with_reducible refine LB_put ?_ ?_; decide)); first | with_reducible assumption | exact LB_lo (by with_reducible assumption) (by first | decide | omega))) rfl rfl (Nat.le_of_ble_eq_true rfl) (Nat.le_of_ble_eq_true rfl) (Nat.le_of_ble_eq_true rfl) dX7_advance_245 ?_
                    unfold f_X7_advance_o245
                    generalize f_X7_come u xm 0 = o31
                    refine x_lsub (L' := [(0, .ref (q 0)), (1, .int (nI xm)), (2, .int (b2i b2))]) [1, 2, 0] rfl ?_
                    refine x_goto C 251 dX7_advance_248 (by decide) ?_
                    exact x_vret C rfl dX7_advance_251 rfl
                · refine x_tsO C 251 dX7_advance_29 (by have g0 := i_ne c3 (by decide : (1 : Int32).toInt = 1); have g1 := i_ne c4 (by decide : (2 : Int32).toInt = 2); have g2 := i_ne c5 (by decide : (3 : Int32).toInt = 3); have g3 := i_ne c6 (by decide : (4 : Int32).toInt = 4); have g4 := i_ne c7 (by decide : (5 : Int32).toInt = 5); have g5 := i_ne c8 (by decide : (6 : Int32).toInt = 6); have g6 := i_ne c9 (by decide : (7 : Int32).toInt = 7); omega) (by decide) ?_
                  exact x_vret C rfl dX7_advance_251 rfl
  · refine x_icmp_ne C 17 dX7_advance_9 (by decide) (fun c1 => ?_) (fun c1 => ?_)
    · refine x_bipush C 9 dX7_advance_12 (by decide) ?_
      refine x_goto C 19 dX7_advance_14 (by decide) ?_
      refine x_cViW (q0 := 0) (As := [.int (nI xm), .int 9]) C mw_399 mw_400 mw_401 mw_337 mw_381 hd_X7_all rfl rfl ⟨Nat.le_of_ble_eq_true rfl, Nat.le_of_ble_eq_true rfl⟩ rfl rfl rfl (c_X7_all l D cI cZ cO q u xm 9 (by omega) (by omega)) rfl rfl (Nat.le_of_ble_eq_true rfl) (Nat.le_of_ble_eq_true rfl) (Nat.le_of_ble_eq_true rfl) dX7_advance_19 ?_
      exact J32 (f_X7_all u xm 9)
    · refine x_bipush C 12 dX7_advance_17 (by decide) ?_
      refine x_cViW (q0 := 0) (As := [.int (nI xm), .int 12]) C mw_399 mw_400 mw_401 mw_337 mw_381 hd_X7_all rfl rfl ⟨Nat.le_of_ble_eq_true rfl, Nat.le_of_ble_eq_true rfl⟩ rfl rfl rfl (c_X7_all l D cI cZ cO q u xm 12 (by omega) (by omega)) rfl rfl (Nat.le_of_ble_eq_true rfl) (Nat.le_of_ble_eq_true rfl) (Nat.le_of_ble_eq_true rfl) dX7_advance_19 ?_
      exact J32 (f_X7_all u xm 12)
theorem LB_advance {n : Nat} {u : St} {m : Nat} (h : LB (n + 1) u) : LB n (f_X7_advance u m) := by
  have key : ∀ b : Bool, LB n (f_X7_advance_k22 u m b) := by
    intro b
    have lo : LB n u := LB_lo h (by omega)
    have k1 : ∀ b18, LB n (f_X7_advance_k164 u m b18) := fun b18 => by unfold f_X7_advance_k164 f_X7_advance_o164; exact LB_come h
    have k2 : ∀ b25, LB n (f_X7_advance_k206 u m b25) := fun b25 => by unfold f_X7_advance_k206 f_X7_advance_o206; exact LB_come (LB_put (by decide) h)
    unfold f_X7_advance_k22 f_X7_advance_o85 f_X7_advance_o104 f_X7_advance_o117 f_X7_advance_o225 f_X7_advance_o245
    exact LB_ite (LB_ite lo (LB_come h)) (LB_ite (LB_ite (LB_come h) lo) (LB_ite (LB_ite (LB_come h) lo) (LB_ite (LB_ite lo (k1 _)) (LB_ite (LB_ite lo (k2 _)) (LB_ite (LB_ite (LB_come h) lo) (LB_ite (LB_ite lo (LB_come h)) lo))))))
  unfold f_X7_advance
  exact key _
