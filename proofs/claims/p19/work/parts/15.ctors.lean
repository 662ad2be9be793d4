def f_X2_init_k133 (b15 : St) : St := put (put (put b15 8 0 0) 9 0 7) 10 0 0
def f_X2_init_k94 (b14 : St) : St := f_X2_init_k133 (put (put (put (put b14 1 5 (b14 0 5)) 5 0 1) 6 0 0) 7 0 0)
def f_X2_init_k93 (b10 : St) (b11 : Int32) (b12 : Int32) (b13 : Int32) : St := f_X2_init_k94 (put (put (put (put b10 0 4 b11) 1 4 b11) 0 2 b12) 0 5 b13)
def f_X2_init_k70 (xd : Int32) (b10 : St) (b11 : Int32) (b12 : Int32) : St := f_X2_init_k93 b10 b11 b12 (f_X2_usableLength xd)
def f_X2_init_k93_2 (xb : Int32) (xd : Int32) (b10 : St) (b11 : Int32) : St := f_X2_init_k70 xd b10 b11 (f_X2_usableLength xb)
def f_X2_init_k71 (xb : Int32) (xd : Int32) (b10 : St) : St := f_X2_init_k93_2 xb xd b10 (f_X2_usableLength xd)
def f_X2_init_k70_2 (xb : Int32) (xd : Int32) (b6 : St) (b7 : Int32) (b8 : Int32) (b9 : Int32) : St := f_X2_init_k71 xb xd (put (put (put (put b6 0 0 b7) 0 3 b8) 1 3 b8) 0 1 b9)
def f_X2_init_k93_3 (xb : Int32) (xd : Int32) (b6 : St) (b7 : Int32) (b8 : Int32) : St := f_X2_init_k70_2 xb xd b6 b7 b8 (f_X2_usableLength xb)
def f_X2_init_k70_3 (xb : Int32) (xc : Int32) (xd : Int32) (b6 : St) (b7 : Int32) : St := f_X2_init_k93_3 xb xd b6 b7 (f_X2_usableLength xc)
def f_X2_init_k42 (xa : Int32) (xb : Int32) (xc : Int32) (xd : Int32) (b6 : St) : St := f_X2_init_k70_3 xb xc xd b6 (f_X2_usableLength xa)
def f_X2_init (xa : Int32) (xb : Int32) (xc : Int32) (xd : Int32) : St := f_X2_init_k42 xa xb xc xd z0
theorem hd_X2_init : yX2_init.cls ≠ "java/lang/invoke/MethodHandle" ∧ yX2_init.cls ≠ "java/lang/invoke/VarHandle" ∧ (parseMethodDescriptor yX2_init.desc).map (fun d => d.parameters.length) = some 4 := by decide +kernel
set_option maxHeartbeats 4000000 in
set_option maxRecDepth 100000 in
theorem c_X2_init (l : Launch) (D : va_G) (cI cZ cO : ClassId) (h : Nat) (xa : Int32) (xb : Int32) (xc : Int32) (xd : Int32) : CTn l D (T3 cI cZ cO) yX2_init (Cond.code yX2_init cX2_init 6 none :: WA) ({ frames := 1, cells := 5, slots := 28, locals := 20 } : Room) [.ref h, .int xa, .int xb, .int xc, .int xd] ([(h, .inr (2, [.null, .null, .null, .null, .null, .int (z0 5 0), .int (z0 6 0), .int (z0 7 0), .int (z0 8 0), .int (z0 9 0), .int (z0 10 0)]))]) h (fun q => [(h, .inr (2, [.ref (q 1), .ref (q 2), .ref (q 3), .ref (q 4), .ref (q 5), .int ((f_X2_init xa xb xc xd) 5 0), .int ((f_X2_init xa xb xc xd) 6 0), .int ((f_X2_init xa xb xc xd) 7 0), .int ((f_X2_init xa xb xc xd) 8 0), .int ((f_X2_init xa xb xc xd) 9 0), .int ((f_X2_init xa xb xc xd) 10 0)])), ((q 1), .inl (cI, 6, .inl ((f_X2_init xa xb xc xd) 0))), ((q 2), .inl (cI, 6, .inl ((f_X2_init xa xb xc xd) 1))), ((q 3), .inl (cI, 6, .inl ((f_X2_init xa xb xc xd) 2))), ((q 4), .inl (cI, 5, .inl ((f_X2_init xa xb xc xd) 3))), ((q 5), .inl (cI, 5, .inl ((f_X2_init xa xb xc xd) 4)))]) 5 28 := by
  refine ct_n (K := fun z => z) (t := f_X2_init xa xb xc xd) (wf := fun q o => [(h, .inr (2, [.ref (q 1), .ref (q 2), .ref (q 3), .ref (q 4), .ref (q 5), .int (o 5 0), .int (o 6 0), .int (o 7 0), .int (o 8 0), .int (o 9 0), .int (o 10 0)])), ((q 1), .inl (cI, 6, .inl (o 0))), ((q 2), .inl (cI, 6, .inl (o 1))), ((q 3), .inl (cI, 6, .inl (o 2))), ((q 4), .inl (cI, 5, .inl (o 3))), ((q 5), .inl (cI, 5, .inl (o 4)))]) (own := RX2) (nm := "<init>") (L0 := [(0, .ref h), (1, .int xa), (2, .int xb), (3, .int xc), (4, .int xd)]) (plainFor_of_name (by decide +kernel)) rfl rfl (Nat.le_of_ble_eq_true rfl) rfl ?_
  intro p e s m args below meth c A C
  unfold f_X2_init
  refine x_aload_n C dX2_init_0 0 rfl ?_
  refine x_obj C mw_157 mw_2 mw_3 (Nat.le_of_ble_eq_true rfl) (Nat.le_of_ble_eq_true rfl) dX2_init_1 ?_
  refine x_aload_n C dX2_init_4 0 rfl ?_
  refine x_bipush C 6 dX2_init_5 (by decide) ?_
  refine x_newI (N := 6) (ws' := fun q1 => [(h, .inr (2, [.null, .null, .null, .null, .null, .int (z0 5 0), .int (z0 6 0), .int (z0 7 0), .int (z0 8 0), .int (z0 9 0), .int (z0 10 0)])), (q1, .inl (cI, 6, .inl (z0 0)))]) C mw_4 0 rfl (by decide) (by decide) (by decide) (Nat.le_of_ble_eq_true rfl) (Nat.le_of_ble_eq_true rfl) dX2_init_7 (fun _ => rfl) (fun q1 => ?_)
  refine x_putF (ws' := [(h, .inr (2, [.ref q1, .null, .null, .null, .null, .int (z0 5 0), .int (z0 6 0), .int (z0 7 0), .int (z0 8 0), .int (z0 9 0), .int (z0 10 0)])), (q1, .inl (cI, 6, .inl (z0 0)))]) C hwsX20 tyX2 tyX2_ok nmX2 0 mw_158 0 rfl rfl (by decide) rfl rfl rfl rfl rfl rfl (Nat.le_of_ble_eq_true rfl) dX2_init_9 rfl ?_
  refine x_aload_n C dX2_init_12 0 rfl ?_
  refine x_bipush C 6 dX2_init_13 (by decide) ?_
  refine x_newI (N := 6) (ws' := fun q2 => [(h, .inr (2, [.ref q1, .null, .null, .null, .null, .int (z0 5 0), .int (z0 6 0), .int (z0 7 0), .int (z0 8 0), .int (z0 9 0), .int (z0 10 0)])), (q1, .inl (cI, 6, .inl (z0 0))), (q2, .inl (cI, 6, .inl (z0 1)))]) C mw_4 0 rfl (by decide) (by decide) (by decide) (Nat.le_of_ble_eq_true rfl) (Nat.le_of_ble_eq_true rfl) dX2_init_15 (fun _ => rfl) (fun q2 => ?_)
  refine x_putF (ws' := [(h, .inr (2, [.ref q1, .ref q2, .null, .null, .null, .int (z0 5 0), .int (z0 6 0), .int (z0 7 0), .int (z0 8 0), .int (z0 9 0), .int (z0 10 0)])), (q1, .inl (cI, 6, .inl (z0 0))), (q2, .inl (cI, 6, .inl (z0 1)))]) C hwsX20 tyX2 tyX2_ok nmX2 1 mw_159 0 rfl rfl (by decide) rfl rfl rfl rfl rfl rfl (Nat.le_of_ble_eq_true rfl) dX2_init_17 rfl ?_
  refine x_aload_n C dX2_init_20 0 rfl ?_
  refine x_bipush C 6 dX2_init_21 (by decide) ?_
  refine x_newI (N := 6) (ws' := fun q3 => [(h, .inr (2, [.ref q1, .ref q2, .null, .null, .null, .int (z0 5 0), .int (z0 6 0), .int (z0 7 0), .int (z0 8 0), .int (z0 9 0), .int (z0 10 0)])), (q1, .inl (cI, 6, .inl (z0 0))), (q2, .inl (cI, 6, .inl (z0 1))), (q3, .inl (cI, 6, .inl (z0 2)))]) C mw_4 0 rfl (by decide) (by decide) (by decide) (Nat.le_of_ble_eq_true rfl) (Nat.le_of_ble_eq_true rfl) dX2_init_23 (fun _ => rfl) (fun q3 => ?_)
  refine x_putF (ws' := [(h, .inr (2, [.ref q1, .ref q2, .ref q3, .null, .null, .int (z0 5 0), .int (z0 6 0), .int (z0 7 0), .int (z0 8 0), .int (z0 9 0), .int (z0 10 0)])), (q1, .inl (cI, 6, .inl (z0 0))), (q2, .inl (cI, 6, .inl (z0 1))), (q3, .inl (cI, 6, .inl (z0 2)))]) C hwsX20 tyX2 tyX2_ok nmX2 2 mw_160 0 rfl rfl (by decide) rfl rfl rfl rfl rfl rfl (Nat.le_of_ble_eq_true rfl) dX2_init_25 rfl ?_
  refine x_aload_n C dX2_init_28 0 rfl ?_
  refine x_iconst C 5 dX2_init_29 (by decide) ?_
  refine x_newI (N := 5) (ws' := fun q4 => [(h, .inr (2, [.ref q1, .ref q2, .ref q3, .null, .null, .int (z0 5 0), .int (z0 6 0), .int (z0 7 0), .int (z0 8 0), .int (z0 9 0), .int (z0 10 0)])), (q1, .inl (cI, 6, .inl (z0 0))), (q2, .inl (cI, 6, .inl (z0 1))), (q3, .inl (cI, 6, .inl (z0 2))), (q4, .inl (cI, 5, .inl (z0 3)))]) C mw_4 0 rfl (by decide) (by decide) (by decide) (Nat.le_of_ble_eq_true rfl) (Nat.le_of_ble_eq_true rfl) dX2_init_30 (fun _ => rfl) (fun q4 => ?_)
  refine x_putF (ws' := [(h, .inr (2, [.ref q1, .ref q2, .ref q3, .ref q4, .null, .int (z0 5 0), .int (z0 6 0), .int (z0 7 0), .int (z0 8 0), .int (z0 9 0), .int (z0 10 0)])), (q1, .inl (cI, 6, .inl (z0 0))), (q2, .inl (cI, 6, .inl (z0 1))), (q3, .inl (cI, 6, .inl (z0 2))), (q4, .inl (cI, 5, .inl (z0 3)))]) C hwsX20 tyX2 tyX2_ok nmX2 3 mw_161 0 rfl rfl (by decide) rfl rfl rfl rfl rfl rfl (Nat.le_of_ble_eq_true rfl) dX2_init_32 rfl ?_
  refine x_aload_n C dX2_init_35 0 rfl ?_
  refine x_iconst C 5 dX2_init_36 (by decide) ?_
  refine x_newI (N := 5) (ws' := fun q5 => [(h, .inr (2, [.ref q1, .ref q2, .ref q3, .ref q4, .null, .int (z0 5 0), .int (z0 6 0), .int (z0 7 0), .int (z0 8 0), .int (z0 9 0), .int (z0 10 0)])), (q1, .inl (cI, 6, .inl (z0 0))), (q2, .inl (cI, 6, .inl (z0 1))), (q3, .inl (cI, 6, .inl (z0 2))), (q4, .inl (cI, 5, .inl (z0 3))), (q5, .inl (cI, 5, .inl (z0 4)))]) C mw_4 0 rfl (by decide) (by decide) (by decide) (Nat.le_of_ble_eq_true rfl) (Nat.le_of_ble_eq_true rfl) dX2_init_37 (fun _ => rfl) (fun q5 => ?_)
  refine x_putF (ws' := [(h, .inr (2, [.ref q1, .ref q2, .ref q3, .ref q4, .ref q5, .int (z0 5 0), .int (z0 6 0), .int (z0 7 0), .int (z0 8 0), .int (z0 9 0), .int (z0 10 0)])), (q1, .inl (cI, 6, .inl (z0 0))), (q2, .inl (cI, 6, .inl (z0 1))), (q3, .inl (cI, 6, .inl (z0 2))), (q4, .inl (cI, 5, .inl (z0 3))), (q5, .inl (cI, 5, .inl (z0 4)))]) C hwsX20 tyX2 tyX2_ok nmX2 4 mw_162 0 rfl rfl (by decide) rfl rfl rfl rfl rfl rfl (Nat.le_of_ble_eq_true rfl) dX2_init_39 rfl ?_
  refine x_join (fun (b6 : St) => f_X2_init_k42 xa xb xc xd b6) 42 (fun (b6 : St) => [(0, .ref h), (1, .int xa), (2, .int xb), (3, .int xc), (4, .int xd)]) (fun (b6 : St) => []) (fun (b6 : St) => [(h, .inr (2, [.ref q1, .ref q2, .ref q3, .ref q4, .ref q5, .int (b6 5 0), .int (b6 6 0), .int (b6 7 0), .int (b6 8 0), .int (b6 9 0), .int (b6 10 0)])), (q1, .inl (cI, 6, .inl (b6 0))), (q2, .inl (cI, 6, .inl (b6 1))), (q3, .inl (cI, 6, .inl (b6 2))), (q4, .inl (cI, 5, .inl (b6 3))), (q5, .inl (cI, 5, .inl (b6 4)))]) (fun b6 => ?_) z0 (fun J25 => ?_)
  · unfold f_X2_init_k42
    refine x_iconst C 0 dX2_init_42 (by decide) ?_
    refine x_istore (L' := [(5, .int 0), (0, .ref h), (1, .int xa), (2, .int xb), (3, .int xc), (4, .int xd)]) C dX2_init_43 (by decide) rfl ?_
    refine x_iload C dX2_init_45 0 rfl ?_
    refine x_iconst C 3 dX2_init_47 (by decide) ?_
    refine x_icmp_ge_f C 118 dX2_init_48 (by decide) (by decide) ?_
    refine x_aload_n C dX2_init_51 1 rfl ?_
    refine x_get (v := .ref q1) C hwsX20 0 mw_158 0 rfl rfl (by decide) rfl rfl dX2_init_52 ?_
    refine x_iload C dX2_init_55 0 rfl ?_
    refine x_iload C dX2_init_57 0 rfl ?_
    refine x_if_ne_f C 66 dX2_init_59 (by decide) (by decide) ?_
    refine x_iload_n C dX2_init_62 2 rfl ?_
    refine x_goto C 67 dX2_init_63 (by decide) ?_
    refine x_cSi (As := [.int xa]) (ws' := [(h, .inr (2, [.ref q1, .ref q2, .ref q3, .ref q4, .ref q5, .int (b6 5 0), .int (b6 6 0), .int (b6 7 0), .int (b6 8 0), .int (b6 9 0), .int (b6 10 0)])), (q1, .inl (cI, 6, .inl (b6 0))), (q2, .inl (cI, 6, .inl (b6 1))), (q3, .inl (cI, 6, .inl (b6 2))), (q4, .inl (cI, 5, .inl (b6 3))), (q5, .inl (cI, 5, .inl (b6 4)))]) C mw_169 mw_170 mw_171 mw_155 hd_X2_usableLength rfl rfl ⟨Nat.le_of_ble_eq_true rfl, Nat.le_of_ble_eq_true rfl⟩ (c_X2_usableLength l D cI cZ cO  xa ) [] [.inl 0, .inl 1, .inl 2, .inl 3, .inl 4, .inl 5] trivial rfl ⟨rfl, rfl, rfl, rfl, rfl, rfl, trivial⟩ rfl ⟨rfl, rfl, rfl, rfl, rfl, rfl, trivial⟩ rfl rfl (Nat.le_of_ble_eq_true rfl) (Nat.le_of_ble_eq_true rfl) (Nat.le_of_ble_eq_true rfl) dX2_init_67 ?_
    refine x_join (fun (b7 : Int32) => f_X2_init_k70_3 xb xc xd b6 b7) 70 (fun (b7 : Int32) => [(0, .ref h), (1, .int xa), (2, .int xb), (3, .int xc), (4, .int xd), (5, .int 0)]) (fun (b7 : Int32) => [.int b7, .int 0, .ref q1]) (fun (b7 : Int32) => [(h, .inr (2, [.ref q1, .ref q2, .ref q3, .ref q4, .ref q5, .int (b6 5 0), .int (b6 6 0), .int (b6 7 0), .int (b6 8 0), .int (b6 9 0), .int (b6 10 0)])), (q1, .inl (cI, 6, .inl (b6 0))), (q2, .inl (cI, 6, .inl (b6 1))), (q3, .inl (cI, 6, .inl (b6 2))), (q4, .inl (cI, 5, .inl (b6 3))), (q5, .inl (cI, 5, .inl (b6 4)))]) (fun b7 => ?_) (f_X2_usableLength xa) (fun J24 => ?_)
    · unfold f_X2_init_k70_3
      refine x_iast (ws' := [(h, .inr (2, [.ref q1, .ref q2, .ref q3, .ref q4, .ref q5, .int (b6 5 0), .int (b6 6 0), .int (b6 7 0), .int (b6 8 0), .int (b6 9 0), .int (b6 10 0)])), (q1, .inl (cI, 6, .inl ((put b6 0 0 b7) 0))), (q2, .inl (cI, 6, .inl ((put b6 0 0 b7) 1))), (q3, .inl (cI, 6, .inl ((put b6 0 0 b7) 2))), (q4, .inl (cI, 5, .inl ((put b6 0 0 b7) 3))), (q5, .inl (cI, 5, .inl ((put b6 0 0 b7) 4)))]) C 1 0 rfl rfl 0 rfl (by omega) (by decide) dX2_init_70 rfl ?_
      refine x_aload_n C dX2_init_71 0 rfl ?_
      refine x_get (v := .ref q1) C hwsX20 0 mw_158 0 rfl rfl (by decide) rfl rfl dX2_init_72 ?_
      refine x_iconst C 3 dX2_init_75 (by decide) ?_
      refine x_iload C dX2_init_76 5 rfl ?_
      refine x_iadd C dX2_init_78 ?_
      refine x_top 3 (by decide) ?_
      refine x_iload C dX2_init_79 5 rfl ?_
      refine x_if_ne_f C 88 dX2_init_81 (by decide) (by decide) ?_
      refine x_iload_n C dX2_init_84 3 rfl ?_
      refine x_goto C 90 dX2_init_85 (by decide) ?_
      refine x_cSi (As := [.int xc]) (ws' := [(h, .inr (2, [.ref q1, .ref q2, .ref q3, .ref q4, .ref q5, .int (b6 5 0), .int (b6 6 0), .int (b6 7 0), .int (b6 8 0), .int (b6 9 0), .int (b6 10 0)])), (q1, .inl (cI, 6, .inl ((put b6 0 0 b7) 0))), (q2, .inl (cI, 6, .inl ((put b6 0 0 b7) 1))), (q3, .inl (cI, 6, .inl ((put b6 0 0 b7) 2))), (q4, .inl (cI, 5, .inl ((put b6 0 0 b7) 3))), (q5, .inl (cI, 5, .inl ((put b6 0 0 b7) 4)))]) C mw_169 mw_170 mw_171 mw_155 hd_X2_usableLength rfl rfl ⟨Nat.le_of_ble_eq_true rfl, Nat.le_of_ble_eq_true rfl⟩ (c_X2_usableLength l D cI cZ cO  xc ) [] [.inl 0, .inl 1, .inl 2, .inl 3, .inl 4, .inl 5] trivial rfl ⟨rfl, rfl, rfl, rfl, rfl, rfl, trivial⟩ rfl ⟨rfl, rfl, rfl, rfl, rfl, rfl, trivial⟩ rfl rfl (Nat.le_of_ble_eq_true rfl) (Nat.le_of_ble_eq_true rfl) (Nat.le_of_ble_eq_true rfl) dX2_init_90 ?_
      refine x_join (fun (b8 : Int32) => f_X2_init_k93_3 xb xd b6 b7 b8) 93 (fun (b8 : Int32) => [(0, .ref h), (1, .int xa), (2, .int xb), (3, .int xc), (4, .int xd), (5, .int 0)]) (fun (b8 : Int32) => [.int b8, .int 3, .ref q1]) (fun (b8 : Int32) => [(h, .inr (2, [.ref q1, .ref q2, .ref q3, .ref q4, .ref q5, .int (b6 5 0), .int (b6 6 0), .int (b6 7 0), .int (b6 8 0), .int (b6 9 0), .int (b6 10 0)])), (q1, .inl (cI, 6, .inl ((put b6 0 0 b7) 0))), (q2, .inl (cI, 6, .inl ((put b6 0 0 b7) 1))), (q3, .inl (cI, 6, .inl ((put b6 0 0 b7) 2))), (q4, .inl (cI, 5, .inl ((put b6 0 0 b7) 3))), (q5, .inl (cI, 5, .inl ((put b6 0 0 b7) 4)))]) (fun b8 => ?_) (f_X2_usableLength xc) (fun J23 => ?_)
      · unfold f_X2_init_k93_3
        refine x_iast (ws' := [(h, .inr (2, [.ref q1, .ref q2, .ref q3, .ref q4, .ref q5, .int (b6 5 0), .int (b6 6 0), .int (b6 7 0), .int (b6 8 0), .int (b6 9 0), .int (b6 10 0)])), (q1, .inl (cI, 6, .inl ((put (put b6 0 0 b7) 0 3 b8) 0))), (q2, .inl (cI, 6, .inl ((put (put b6 0 0 b7) 0 3 b8) 1))), (q3, .inl (cI, 6, .inl ((put (put b6 0 0 b7) 0 3 b8) 2))), (q4, .inl (cI, 5, .inl ((put (put b6 0 0 b7) 0 3 b8) 3))), (q5, .inl (cI, 5, .inl ((put (put b6 0 0 b7) 0 3 b8) 4)))]) C 1 0 rfl rfl 3 rfl (by omega) (by decide) dX2_init_93 rfl ?_
        refine x_aload_n C dX2_init_94 0 rfl ?_
        refine x_get (v := .ref q2) C hwsX20 1 mw_159 0 rfl rfl (by decide) rfl rfl dX2_init_95 ?_
        refine x_iconst C 3 dX2_init_98 (by decide) ?_
        refine x_iload C dX2_init_99 5 rfl ?_
        refine x_iadd C dX2_init_101 ?_
        refine x_top 3 (by decide) ?_
        refine x_aload_n C dX2_init_102 0 rfl ?_
        refine x_get (v := .ref q1) C hwsX20 0 mw_158 0 rfl rfl (by decide) rfl rfl dX2_init_103 ?_
        refine x_iconst C 3 dX2_init_106 (by decide) ?_
        refine x_iload C dX2_init_107 5 rfl ?_
        refine x_iadd C dX2_init_109 ?_
        refine x_top 3 (by decide) ?_
        refine x_iald C 1 0 rfl rfl 3 rfl (by omega) (by decide) b8 rfl dX2_init_110 ?_
        refine x_iast (ws' := [(h, .inr (2, [.ref q1, .ref q2, .ref q3, .ref q4, .ref q5, .int (b6 5 0), .int (b6 6 0), .int (b6 7 0), .int (b6 8 0), .int (b6 9 0), .int (b6 10 0)])), (q1, .inl (cI, 6, .inl ((put (put (put b6 0 0 b7) 0 3 b8) 1 3 b8) 0))), (q2, .inl (cI, 6, .inl ((put (put (put b6 0 0 b7) 0 3 b8) 1 3 b8) 1))), (q3, .inl (cI, 6, .inl ((put (put (put b6 0 0 b7) 0 3 b8) 1 3 b8) 2))), (q4, .inl (cI, 5, .inl ((put (put (put b6 0 0 b7) 0 3 b8) 1 3 b8) 3))), (q5, .inl (cI, 5, .inl ((put (put (put b6 0 0 b7) 0 3 b8) 1 3 b8) 4)))]) C 2 0 rfl rfl 3 rfl (by omega) (by decide) dX2_init_111 rfl ?_
        refine x_iinc (L' := [(5, .int 1), (0, .ref h), (1, .int xa), (2, .int xb), (3, .int xc), (4, .int xd)]) C 1 dX2_init_112 5 rfl (by decide) (by decide) rfl ?_
        refine x_goto C 45 dX2_init_115 (by decide) ?_
        refine x_iload C dX2_init_45 0 rfl ?_
        refine x_iconst C 3 dX2_init_47 (by decide) ?_
        refine x_icmp_ge_f C 118 dX2_init_48 (by decide) (by decide) ?_
        refine x_aload_n C dX2_init_51 1 rfl ?_
        refine x_get (v := .ref q1) C hwsX20 0 mw_158 0 rfl rfl (by decide) rfl rfl dX2_init_52 ?_
        refine x_iload C dX2_init_55 0 rfl ?_
        refine x_iload C dX2_init_57 0 rfl ?_
        refine x_if_ne_t C 66 dX2_init_59 (by decide) (by decide) ?_
        refine x_iload_n C dX2_init_66 3 rfl ?_
        refine x_cSi (As := [.int xb]) (ws' := [(h, .inr (2, [.ref q1, .ref q2, .ref q3, .ref q4, .ref q5, .int (b6 5 0), .int (b6 6 0), .int (b6 7 0), .int (b6 8 0), .int (b6 9 0), .int (b6 10 0)])), (q1, .inl (cI, 6, .inl ((put (put (put b6 0 0 b7) 0 3 b8) 1 3 b8) 0))), (q2, .inl (cI, 6, .inl ((put (put (put b6 0 0 b7) 0 3 b8) 1 3 b8) 1))), (q3, .inl (cI, 6, .inl ((put (put (put b6 0 0 b7) 0 3 b8) 1 3 b8) 2))), (q4, .inl (cI, 5, .inl ((put (put (put b6 0 0 b7) 0 3 b8) 1 3 b8) 3))), (q5, .inl (cI, 5, .inl ((put (put (put b6 0 0 b7) 0 3 b8) 1 3 b8) 4)))]) C mw_169 mw_170 mw_171 mw_155 hd_X2_usableLength rfl rfl ⟨Nat.le_of_ble_eq_true rfl, Nat.le_of_ble_eq_true rfl⟩ (c_X2_usableLength l D cI cZ cO  xb ) [] [.inl 0, .inl 1, .inl 2, .inl 3, .inl 4, .inl 5] trivial rfl ⟨rfl, rfl, rfl, rfl, rfl, rfl, trivial⟩ rfl ⟨rfl, rfl, rfl, rfl, rfl, rfl, trivial⟩ rfl rfl (Nat.le_of_ble_eq_true rfl) (Nat.le_of_ble_eq_true rfl) (Nat.le_of_ble_eq_true rfl) dX2_init_67 ?_
        refine x_join (fun (b9 : Int32) => f_X2_init_k70_2 xb xd b6 b7 b8 b9) 70 (fun (b9 : Int32) => [(0, .ref h), (1, .int xa), (2, .int xb), (3, .int xc), (4, .int xd), (5, .int 1)]) (fun (b9 : Int32) => [.int b9, .int 1, .ref q1]) (fun (b9 : Int32) => [(h, .inr (2, [.ref q1, .ref q2, .ref q3, .ref q4, .ref q5, .int (b6 5 0), .int (b6 6 0), .int (b6 7 0), .int (b6 8 0), .int (b6 9 0), .int (b6 10 0)])), (q1, .inl (cI, 6, .inl ((put (put (put b6 0 0 b7) 0 3 b8) 1 3 b8) 0))), (q2, .inl (cI, 6, .inl ((put (put (put b6 0 0 b7) 0 3 b8) 1 3 b8) 1))), (q3, .inl (cI, 6, .inl ((put (put (put b6 0 0 b7) 0 3 b8) 1 3 b8) 2))), (q4, .inl (cI, 5, .inl ((put (put (put b6 0 0 b7) 0 3 b8) 1 3 b8) 3))), (q5, .inl (cI, 5, .inl ((put (put (put b6 0 0 b7) 0 3 b8) 1 3 b8) 4)))]) (fun b9 => ?_) (f_X2_usableLength xb) (fun J22 => ?_)
        · unfold f_X2_init_k70_2
          refine x_iast (ws' := [(h, .inr (2, [.ref q1, .ref q2, .ref q3, .ref q4, .ref q5, .int (b6 5 0), .int (b6 6 0), .int (b6 7 0), .int (b6 8 0), .int (b6 9 0), .int (b6 10 0)])), (q1, .inl (cI, 6, .inl ((put (put (put (put b6 0 0 b7) 0 3 b8) 1 3 b8) 0 1 b9) 0))), (q2, .inl (cI, 6, .inl ((put (put (put (put b6 0 0 b7) 0 3 b8) 1 3 b8) 0 1 b9) 1))), (q3, .inl (cI, 6, .inl ((put (put (put (put b6 0 0 b7) 0 3 b8) 1 3 b8) 0 1 b9) 2))), (q4, .inl (cI, 5, .inl ((put (put (put (put b6 0 0 b7) 0 3 b8) 1 3 b8) 0 1 b9) 3))), (q5, .inl (cI, 5, .inl ((put (put (put (put b6 0 0 b7) 0 3 b8) 1 3 b8) 0 1 b9) 4)))]) C 1 0 rfl rfl 1 rfl (by omega) (by decide) dX2_init_70 rfl ?_
          refine x_join (fun (b10 : St) => f_X2_init_k71 xb xd b10) 71 (fun (b10 : St) => [(0, .ref h), (1, .int xa), (2, .int xb), (3, .int xc), (4, .int xd), (5, .int 1)]) (fun (b10 : St) => []) (fun (b10 : St) => [(h, .inr (2, [.ref q1, .ref q2, .ref q3, .ref q4, .ref q5, .int (b10 5 0), .int (b10 6 0), .int (b10 7 0), .int (b10 8 0), .int (b10 9 0), .int (b10 10 0)])), (q1, .inl (cI, 6, .inl (b10 0))), (q2, .inl (cI, 6, .inl (b10 1))), (q3, .inl (cI, 6, .inl (b10 2))), (q4, .inl (cI, 5, .inl (b10 3))), (q5, .inl (cI, 5, .inl (b10 4)))]) (fun b10 => ?_) (put (put (put (put b6 0 0 b7) 0 3 b8) 1 3 b8) 0 1 b9) (fun J21 => ?_)
          · unfold f_X2_init_k71
            refine x_aload_n C dX2_init_71 0 rfl ?_
            refine x_get (v := .ref q1) C hwsX20 0 mw_158 0 rfl rfl (by decide) rfl rfl dX2_init_72 ?_
            refine x_iconst C 3 dX2_init_75 (by decide) ?_
            refine x_iload C dX2_init_76 5 rfl ?_
            refine x_iadd C dX2_init_78 ?_
            refine x_top 4 (by decide) ?_
            refine x_iload C dX2_init_79 5 rfl ?_
            refine x_if_ne_t C 88 dX2_init_81 (by decide) (by decide) ?_
            refine x_iload C dX2_init_88 4 rfl ?_
            refine x_cSi (As := [.int xd]) (ws' := [(h, .inr (2, [.ref q1, .ref q2, .ref q3, .ref q4, .ref q5, .int (b10 5 0), .int (b10 6 0), .int (b10 7 0), .int (b10 8 0), .int (b10 9 0), .int (b10 10 0)])), (q1, .inl (cI, 6, .inl (b10 0))), (q2, .inl (cI, 6, .inl (b10 1))), (q3, .inl (cI, 6, .inl (b10 2))), (q4, .inl (cI, 5, .inl (b10 3))), (q5, .inl (cI, 5, .inl (b10 4)))]) C mw_169 mw_170 mw_171 mw_155 hd_X2_usableLength rfl rfl ⟨Nat.le_of_ble_eq_true rfl, Nat.le_of_ble_eq_true rfl⟩ (c_X2_usableLength l D cI cZ cO  xd ) [] [.inl 0, .inl 1, .inl 2, .inl 3, .inl 4, .inl 5] trivial rfl ⟨rfl, rfl, rfl, rfl, rfl, rfl, trivial⟩ rfl ⟨rfl, rfl, rfl, rfl, rfl, rfl, trivial⟩ rfl rfl (Nat.le_of_ble_eq_true rfl) (Nat.le_of_ble_eq_true rfl) (Nat.le_of_ble_eq_true rfl) dX2_init_90 ?_
            refine x_join (fun (b11 : Int32) => f_X2_init_k93_2 xb xd b10 b11) 93 (fun (b11 : Int32) => [(0, .ref h), (1, .int xa), (2, .int xb), (3, .int xc), (4, .int xd), (5, .int 1)]) (fun (b11 : Int32) => [.int b11, .int 4, .ref q1]) (fun (b11 : Int32) => [(h, .inr (2, [.ref q1, .ref q2, .ref q3, .ref q4, .ref q5, .int (b10 5 0), .int (b10 6 0), .int (b10 7 0), .int (b10 8 0), .int (b10 9 0), .int (b10 10 0)])), (q1, .inl (cI, 6, .inl (b10 0))), (q2, .inl (cI, 6, .inl (b10 1))), (q3, .inl (cI, 6, .inl (b10 2))), (q4, .inl (cI, 5, .inl (b10 3))), (q5, .inl (cI, 5, .inl (b10 4)))]) (fun b11 => ?_) (f_X2_usableLength xd) (fun J20 => ?_)
            · unfold f_X2_init_k93_2
              refine x_iast (ws' := [(h, .inr (2, [.ref q1, .ref q2, .ref q3, .ref q4, .ref q5, .int (b10 5 0), .int (b10 6 0), .int (b10 7 0), .int (b10 8 0), .int (b10 9 0), .int (b10 10 0)])), (q1, .inl (cI, 6, .inl ((put b10 0 4 b11) 0))), (q2, .inl (cI, 6, .inl ((put b10 0 4 b11) 1))), (q3, .inl (cI, 6, .inl ((put b10 0 4 b11) 2))), (q4, .inl (cI, 5, .inl ((put b10 0 4 b11) 3))), (q5, .inl (cI, 5, .inl ((put b10 0 4 b11) 4)))]) C 1 0 rfl rfl 4 rfl (by omega) (by decide) dX2_init_93 rfl ?_
              refine x_aload_n C dX2_init_94 0 rfl ?_
              refine x_get (v := .ref q2) C hwsX20 1 mw_159 0 rfl rfl (by decide) rfl rfl dX2_init_95 ?_
              refine x_iconst C 3 dX2_init_98 (by decide) ?_
              refine x_iload C dX2_init_99 5 rfl ?_
              refine x_iadd C dX2_init_101 ?_
              refine x_top 4 (by decide) ?_
              refine x_aload_n C dX2_init_102 0 rfl ?_
              refine x_get (v := .ref q1) C hwsX20 0 mw_158 0 rfl rfl (by decide) rfl rfl dX2_init_103 ?_
              refine x_iconst C 3 dX2_init_106 (by decide) ?_
              refine x_iload C dX2_init_107 5 rfl ?_
              refine x_iadd C dX2_init_109 ?_
              refine x_top 4 (by decide) ?_
              refine x_iald C 1 0 rfl rfl 4 rfl (by omega) (by decide) b11 rfl dX2_init_110 ?_
              refine x_iast (ws' := [(h, .inr (2, [.ref q1, .ref q2, .ref q3, .ref q4, .ref q5, .int (b10 5 0), .int (b10 6 0), .int (b10 7 0), .int (b10 8 0), .int (b10 9 0), .int (b10 10 0)])), (q1, .inl (cI, 6, .inl ((put (put b10 0 4 b11) 1 4 b11) 0))), (q2, .inl (cI, 6, .inl ((put (put b10 0 4 b11) 1 4 b11) 1))), (q3, .inl (cI, 6, .inl ((put (put b10 0 4 b11) 1 4 b11) 2))), (q4, .inl (cI, 5, .inl ((put (put b10 0 4 b11) 1 4 b11) 3))), (q5, .inl (cI, 5, .inl ((put (put b10 0 4 b11) 1 4 b11) 4)))]) C 2 0 rfl rfl 4 rfl (by omega) (by decide) dX2_init_111 rfl ?_
              refine x_iinc (L' := [(5, .int 2), (0, .ref h), (1, .int xa), (2, .int xb), (3, .int xc), (4, .int xd)]) C 2 dX2_init_112 5 rfl (by decide) (by decide) rfl ?_
              refine x_goto C 45 dX2_init_115 (by decide) ?_
              refine x_iload C dX2_init_45 0 rfl ?_
              refine x_iconst C 3 dX2_init_47 (by decide) ?_
              refine x_icmp_ge_f C 118 dX2_init_48 (by decide) (by decide) ?_
              refine x_aload_n C dX2_init_51 1 rfl ?_
              refine x_get (v := .ref q1) C hwsX20 0 mw_158 0 rfl rfl (by decide) rfl rfl dX2_init_52 ?_
              refine x_iload C dX2_init_55 0 rfl ?_
              refine x_iload C dX2_init_57 0 rfl ?_
              refine x_if_ne_t C 66 dX2_init_59 (by decide) (by decide) ?_
              refine x_iload_n C dX2_init_66 3 rfl ?_
              refine x_cSi (As := [.int xb]) (ws' := [(h, .inr (2, [.ref q1, .ref q2, .ref q3, .ref q4, .ref q5, .int (b10 5 0), .int (b10 6 0), .int (b10 7 0), .int (b10 8 0), .int (b10 9 0), .int (b10 10 0)])), (q1, .inl (cI, 6, .inl ((put (put b10 0 4 b11) 1 4 b11) 0))), (q2, .inl (cI, 6, .inl ((put (put b10 0 4 b11) 1 4 b11) 1))), (q3, .inl (cI, 6, .inl ((put (put b10 0 4 b11) 1 4 b11) 2))), (q4, .inl (cI, 5, .inl ((put (put b10 0 4 b11) 1 4 b11) 3))), (q5, .inl (cI, 5, .inl ((put (put b10 0 4 b11) 1 4 b11) 4)))]) C mw_169 mw_170 mw_171 mw_155 hd_X2_usableLength rfl rfl ⟨Nat.le_of_ble_eq_true rfl, Nat.le_of_ble_eq_true rfl⟩ (c_X2_usableLength l D cI cZ cO  xb ) [] [.inl 0, .inl 1, .inl 2, .inl 3, .inl 4, .inl 5] trivial rfl ⟨rfl, rfl, rfl, rfl, rfl, rfl, trivial⟩ rfl ⟨rfl, rfl, rfl, rfl, rfl, rfl, trivial⟩ rfl rfl (Nat.le_of_ble_eq_true rfl) (Nat.le_of_ble_eq_true rfl) (Nat.le_of_ble_eq_true rfl) dX2_init_67 ?_
              refine x_join (fun (b12 : Int32) => f_X2_init_k70 xd b10 b11 b12) 70 (fun (b12 : Int32) => [(0, .ref h), (1, .int xa), (2, .int xb), (3, .int xc), (4, .int xd), (5, .int 2)]) (fun (b12 : Int32) => [.int b12, .int 2, .ref q1]) (fun (b12 : Int32) => [(h, .inr (2, [.ref q1, .ref q2, .ref q3, .ref q4, .ref q5, .int (b10 5 0), .int (b10 6 0), .int (b10 7 0), .int (b10 8 0), .int (b10 9 0), .int (b10 10 0)])), (q1, .inl (cI, 6, .inl ((put (put b10 0 4 b11) 1 4 b11) 0))), (q2, .inl (cI, 6, .inl ((put (put b10 0 4 b11) 1 4 b11) 1))), (q3, .inl (cI, 6, .inl ((put (put b10 0 4 b11) 1 4 b11) 2))), (q4, .inl (cI, 5, .inl ((put (put b10 0 4 b11) 1 4 b11) 3))), (q5, .inl (cI, 5, .inl ((put (put b10 0 4 b11) 1 4 b11) 4)))]) (fun b12 => ?_) (f_X2_usableLength xb) (fun J19 => ?_)
              · unfold f_X2_init_k70
                refine x_iast (ws' := [(h, .inr (2, [.ref q1, .ref q2, .ref q3, .ref q4, .ref q5, .int (b10 5 0), .int (b10 6 0), .int (b10 7 0), .int (b10 8 0), .int (b10 9 0), .int (b10 10 0)])), (q1, .inl (cI, 6, .inl ((put (put (put b10 0 4 b11) 1 4 b11) 0 2 b12) 0))), (q2, .inl (cI, 6, .inl ((put (put (put b10 0 4 b11) 1 4 b11) 0 2 b12) 1))), (q3, .inl (cI, 6, .inl ((put (put (put b10 0 4 b11) 1 4 b11) 0 2 b12) 2))), (q4, .inl (cI, 5, .inl ((put (put (put b10 0 4 b11) 1 4 b11) 0 2 b12) 3))), (q5, .inl (cI, 5, .inl ((put (put (put b10 0 4 b11) 1 4 b11) 0 2 b12) 4)))]) C 1 0 rfl rfl 2 rfl (by omega) (by decide) dX2_init_70 rfl ?_
                refine x_aload_n C dX2_init_71 0 rfl ?_
                refine x_get (v := .ref q1) C hwsX20 0 mw_158 0 rfl rfl (by decide) rfl rfl dX2_init_72 ?_
                refine x_iconst C 3 dX2_init_75 (by decide) ?_
                refine x_iload C dX2_init_76 5 rfl ?_
                refine x_iadd C dX2_init_78 ?_
                refine x_top 5 (by decide) ?_
                refine x_iload C dX2_init_79 5 rfl ?_
                refine x_if_ne_t C 88 dX2_init_81 (by decide) (by decide) ?_
                refine x_iload C dX2_init_88 4 rfl ?_
                refine x_cSi (As := [.int xd]) (ws' := [(h, .inr (2, [.ref q1, .ref q2, .ref q3, .ref q4, .ref q5, .int (b10 5 0), .int (b10 6 0), .int (b10 7 0), .int (b10 8 0), .int (b10 9 0), .int (b10 10 0)])), (q1, .inl (cI, 6, .inl ((put (put (put b10 0 4 b11) 1 4 b11) 0 2 b12) 0))), (q2, .inl (cI, 6, .inl ((put (put (put b10 0 4 b11) 1 4 b11) 0 2 b12) 1))), (q3, .inl (cI, 6, .inl ((put (put (put b10 0 4 b11) 1 4 b11) 0 2 b12) 2))), (q4, .inl (cI, 5, .inl ((put (put (put b10 0 4 b11) 1 4 b11) 0 2 b12) 3))), (q5, .inl (cI, 5, .inl ((put (put (put b10 0 4 b11) 1 4 b11) 0 2 b12) 4)))]) C mw_169 mw_170 mw_171 mw_155 hd_X2_usableLength rfl rfl ⟨Nat.le_of_ble_eq_true rfl, Nat.le_of_ble_eq_true rfl⟩ (c_X2_usableLength l D cI cZ cO  xd ) [] [.inl 0, .inl 1, .inl 2, .inl 3, .inl 4, .inl 5] trivial rfl ⟨rfl, rfl, rfl, rfl, rfl, rfl, trivial⟩ rfl ⟨rfl, rfl, rfl, rfl, rfl, rfl, trivial⟩ rfl rfl (Nat.le_of_ble_eq_true rfl) (Nat.le_of_ble_eq_true rfl) (Nat.le_of_ble_eq_true rfl) dX2_init_90 ?_
                refine x_join (fun (b13 : Int32) => f_X2_init_k93 b10 b11 b12 b13) 93 (fun (b13 : Int32) => [(0, .ref h), (1, .int xa), (2, .int xb), (3, .int xc), (4, .int xd), (5, .int 2)]) (fun (b13 : Int32) => [.int b13, .int 5, .ref q1]) (fun (b13 : Int32) => [(h, .inr (2, [.ref q1, .ref q2, .ref q3, .ref q4, .ref q5, .int (b10 5 0), .int (b10 6 0), .int (b10 7 0), .int (b10 8 0), .int (b10 9 0), .int (b10 10 0)])), (q1, .inl (cI, 6, .inl ((put (put (put b10 0 4 b11) 1 4 b11) 0 2 b12) 0))), (q2, .inl (cI, 6, .inl ((put (put (put b10 0 4 b11) 1 4 b11) 0 2 b12) 1))), (q3, .inl (cI, 6, .inl ((put (put (put b10 0 4 b11) 1 4 b11) 0 2 b12) 2))), (q4, .inl (cI, 5, .inl ((put (put (put b10 0 4 b11) 1 4 b11) 0 2 b12) 3))), (q5, .inl (cI, 5, .inl ((put (put (put b10 0 4 b11) 1 4 b11) 0 2 b12) 4)))]) (fun b13 => ?_) (f_X2_usableLength xd) (fun J18 => ?_)
                · unfold f_X2_init_k93
                  refine x_iast (ws' := [(h, .inr (2, [.ref q1, .ref q2, .ref q3, .ref q4, .ref q5, .int (b10 5 0), .int (b10 6 0), .int (b10 7 0), .int (b10 8 0), .int (b10 9 0), .int (b10 10 0)])), (q1, .inl (cI, 6, .inl ((put (put (put (put b10 0 4 b11) 1 4 b11) 0 2 b12) 0 5 b13) 0))), (q2, .inl (cI, 6, .inl ((put (put (put (put b10 0 4 b11) 1 4 b11) 0 2 b12) 0 5 b13) 1))), (q3, .inl (cI, 6, .inl ((put (put (put (put b10 0 4 b11) 1 4 b11) 0 2 b12) 0 5 b13) 2))), (q4, .inl (cI, 5, .inl ((put (put (put (put b10 0 4 b11) 1 4 b11) 0 2 b12) 0 5 b13) 3))), (q5, .inl (cI, 5, .inl ((put (put (put (put b10 0 4 b11) 1 4 b11) 0 2 b12) 0 5 b13) 4)))]) C 1 0 rfl rfl 5 rfl (by omega) (by decide) dX2_init_93 rfl ?_
                  refine x_join (fun (b14 : St) => f_X2_init_k94 b14) 94 (fun (b14 : St) => [(0, .ref h), (1, .int xa), (2, .int xb), (3, .int xc), (4, .int xd), (5, .int 2)]) (fun (b14 : St) => []) (fun (b14 : St) => [(h, .inr (2, [.ref q1, .ref q2, .ref q3, .ref q4, .ref q5, .int (b14 5 0), .int (b14 6 0), .int (b14 7 0), .int (b14 8 0), .int (b14 9 0), .int (b14 10 0)])), (q1, .inl (cI, 6, .inl (b14 0))), (q2, .inl (cI, 6, .inl (b14 1))), (q3, .inl (cI, 6, .inl (b14 2))), (q4, .inl (cI, 5, .inl (b14 3))), (q5, .inl (cI, 5, .inl (b14 4)))]) (fun b14 => ?_) (put (put (put (put b10 0 4 b11) 1 4 b11) 0 2 b12) 0 5 b13) (fun J17 => ?_)
                  · unfold f_X2_init_k94
                    refine x_aload_n C dX2_init_94 0 rfl ?_
                    refine x_get (v := .ref q2) C hwsX20 1 mw_159 0 rfl rfl (by decide) rfl rfl dX2_init_95 ?_
                    refine x_iconst C 3 dX2_init_98 (by decide) ?_
                    refine x_iload C dX2_init_99 5 rfl ?_
                    refine x_iadd C dX2_init_101 ?_
                    refine x_top 5 (by decide) ?_
                    refine x_aload_n C dX2_init_102 0 rfl ?_
                    refine x_get (v := .ref q1) C hwsX20 0 mw_158 0 rfl rfl (by decide) rfl rfl dX2_init_103 ?_
                    refine x_iconst C 3 dX2_init_106 (by decide) ?_
                    refine x_iload C dX2_init_107 5 rfl ?_
                    refine x_iadd C dX2_init_109 ?_
                    refine x_top 5 (by decide) ?_
                    refine x_iald C 1 0 rfl rfl 5 rfl (by omega) (by decide) (b14 0 5) rfl dX2_init_110 ?_
                    refine x_iast (ws' := [(h, .inr (2, [.ref q1, .ref q2, .ref q3, .ref q4, .ref q5, .int (b14 5 0), .int (b14 6 0), .int (b14 7 0), .int (b14 8 0), .int (b14 9 0), .int (b14 10 0)])), (q1, .inl (cI, 6, .inl ((put b14 1 5 (b14 0 5)) 0))), (q2, .inl (cI, 6, .inl ((put b14 1 5 (b14 0 5)) 1))), (q3, .inl (cI, 6, .inl ((put b14 1 5 (b14 0 5)) 2))), (q4, .inl (cI, 5, .inl ((put b14 1 5 (b14 0 5)) 3))), (q5, .inl (cI, 5, .inl ((put b14 1 5 (b14 0 5)) 4)))]) C 2 0 rfl rfl 5 rfl (by omega) (by decide) dX2_init_111 rfl ?_
                    refine x_iinc (L' := [(5, .int 3), (0, .ref h), (1, .int xa), (2, .int xb), (3, .int xc), (4, .int xd)]) C 3 dX2_init_112 5 rfl (by decide) (by decide) rfl ?_
                    refine x_goto C 45 dX2_init_115 (by decide) ?_
                    refine x_iload C dX2_init_45 0 rfl ?_
                    refine x_iconst C 3 dX2_init_47 (by decide) ?_
                    refine x_icmp_ge_t C 118 dX2_init_48 (by decide) (by decide) ?_
                    refine x_aload_n C dX2_init_118 1 rfl ?_
                    refine x_iconst C 1 dX2_init_119 (by decide) ?_
                    refine x_put (ws' := [(h, .inr (2, [.ref q1, .ref q2, .ref q3, .ref q4, .ref q5, .int (1), .int (b14 6 0), .int (b14 7 0), .int (b14 8 0), .int (b14 9 0), .int (b14 10 0)])), (q1, .inl (cI, 6, .inl ((put (put b14 1 5 (b14 0 5)) 5 0 1) 0))), (q2, .inl (cI, 6, .inl ((put (put b14 1 5 (b14 0 5)) 5 0 1) 1))), (q3, .inl (cI, 6, .inl ((put (put b14 1 5 (b14 0 5)) 5 0 1) 2))), (q4, .inl (cI, 5, .inl ((put (put b14 1 5 (b14 0 5)) 5 0 1) 3))), (q5, .inl (cI, 5, .inl ((put (put b14 1 5 (b14 0 5)) 5 0 1) 4)))]) C hwsX20 tyX2 tyX2_ok nmX2 5 mw_163 0 rfl rfl (by decide) rfl rfl rfl rfl (Nat.le_of_ble_eq_true rfl) dX2_init_120 rfl ?_
                    refine x_aload_n C dX2_init_123 1 rfl ?_
                    refine x_iconst C 0 dX2_init_124 (by decide) ?_
                    refine x_put (ws' := [(h, .inr (2, [.ref q1, .ref q2, .ref q3, .ref q4, .ref q5, .int (1), .int (0), .int (b14 7 0), .int (b14 8 0), .int (b14 9 0), .int (b14 10 0)])), (q1, .inl (cI, 6, .inl ((put (put (put b14 1 5 (b14 0 5)) 5 0 1) 6 0 0) 0))), (q2, .inl (cI, 6, .inl ((put (put (put b14 1 5 (b14 0 5)) 5 0 1) 6 0 0) 1))), (q3, .inl (cI, 6, .inl ((put (put (put b14 1 5 (b14 0 5)) 5 0 1) 6 0 0) 2))), (q4, .inl (cI, 5, .inl ((put (put (put b14 1 5 (b14 0 5)) 5 0 1) 6 0 0) 3))), (q5, .inl (cI, 5, .inl ((put (put (put b14 1 5 (b14 0 5)) 5 0 1) 6 0 0) 4)))]) C hwsX20 tyX2 tyX2_ok nmX2 6 mw_164 0 rfl rfl (by decide) rfl rfl rfl rfl (Nat.le_of_ble_eq_true rfl) dX2_init_125 rfl ?_
                    refine x_aload_n C dX2_init_128 1 rfl ?_
                    refine x_iconst C 0 dX2_init_129 (by decide) ?_
                    refine x_put (ws' := [(h, .inr (2, [.ref q1, .ref q2, .ref q3, .ref q4, .ref q5, .int (1), .int (0), .int (0), .int (b14 8 0), .int (b14 9 0), .int (b14 10 0)])), (q1, .inl (cI, 6, .inl ((put (put (put (put b14 1 5 (b14 0 5)) 5 0 1) 6 0 0) 7 0 0) 0))), (q2, .inl (cI, 6, .inl ((put (put (put (put b14 1 5 (b14 0 5)) 5 0 1) 6 0 0) 7 0 0) 1))), (q3, .inl (cI, 6, .inl ((put (put (put (put b14 1 5 (b14 0 5)) 5 0 1) 6 0 0) 7 0 0) 2))), (q4, .inl (cI, 5, .inl ((put (put (put (put b14 1 5 (b14 0 5)) 5 0 1) 6 0 0) 7 0 0) 3))), (q5, .inl (cI, 5, .inl ((put (put (put (put b14 1 5 (b14 0 5)) 5 0 1) 6 0 0) 7 0 0) 4)))]) C hwsX20 tyX2 tyX2_ok nmX2 7 mw_165 0 rfl rfl (by decide) rfl rfl rfl rfl (Nat.le_of_ble_eq_true rfl) dX2_init_130 rfl ?_
                    refine x_join (fun (b15 : St) => f_X2_init_k133 b15) 133 (fun (b15 : St) => [(0, .ref h), (1, .int xa), (2, .int xb), (3, .int xc), (4, .int xd), (5, .int 3)]) (fun (b15 : St) => []) (fun (b15 : St) => [(h, .inr (2, [.ref q1, .ref q2, .ref q3, .ref q4, .ref q5, .int (b15 5 0), .int (b15 6 0), .int (b15 7 0), .int (b15 8 0), .int (b15 9 0), .int (b15 10 0)])), (q1, .inl (cI, 6, .inl (b15 0))), (q2, .inl (cI, 6, .inl (b15 1))), (q3, .inl (cI, 6, .inl (b15 2))), (q4, .inl (cI, 5, .inl (b15 3))), (q5, .inl (cI, 5, .inl (b15 4)))]) (fun b15 => ?_) (put (put (put (put b14 1 5 (b14 0 5)) 5 0 1) 6 0 0) 7 0 0) (fun J16 => ?_)
                    · unfold f_X2_init_k133
                      refine x_aload_n C dX2_init_133 0 rfl ?_
                      refine x_iconst C 0 dX2_init_134 (by decide) ?_
                      refine x_put (ws' := [(h, .inr (2, [.ref q1, .ref q2, .ref q3, .ref q4, .ref q5, .int (b15 5 0), .int (b15 6 0), .int (b15 7 0), .int (0), .int (b15 9 0), .int (b15 10 0)])), (q1, .inl (cI, 6, .inl ((put b15 8 0 0) 0))), (q2, .inl (cI, 6, .inl ((put b15 8 0 0) 1))), (q3, .inl (cI, 6, .inl ((put b15 8 0 0) 2))), (q4, .inl (cI, 5, .inl ((put b15 8 0 0) 3))), (q5, .inl (cI, 5, .inl ((put b15 8 0 0) 4)))]) C hwsX20 tyX2 tyX2_ok nmX2 8 mw_166 0 rfl rfl (by decide) rfl rfl rfl rfl (Nat.le_of_ble_eq_true rfl) dX2_init_135 rfl ?_
                      refine x_aload_n C dX2_init_138 0 rfl ?_
                      refine x_bipush C 7 dX2_init_139 (by decide) ?_
                      refine x_put (ws' := [(h, .inr (2, [.ref q1, .ref q2, .ref q3, .ref q4, .ref q5, .int (b15 5 0), .int (b15 6 0), .int (b15 7 0), .int (0), .int (7), .int (b15 10 0)])), (q1, .inl (cI, 6, .inl ((put (put b15 8 0 0) 9 0 7) 0))), (q2, .inl (cI, 6, .inl ((put (put b15 8 0 0) 9 0 7) 1))), (q3, .inl (cI, 6, .inl ((put (put b15 8 0 0) 9 0 7) 2))), (q4, .inl (cI, 5, .inl ((put (put b15 8 0 0) 9 0 7) 3))), (q5, .inl (cI, 5, .inl ((put (put b15 8 0 0) 9 0 7) 4)))]) C hwsX20 tyX2 tyX2_ok nmX2 9 mw_167 0 rfl rfl (by decide) rfl rfl rfl rfl (Nat.le_of_ble_eq_true rfl) dX2_init_141 rfl ?_
                      refine x_aload_n C dX2_init_144 0 rfl ?_
                      refine x_iconst C 0 dX2_init_145 (by decide) ?_
                      refine x_put (ws' := [(h, .inr (2, [.ref q1, .ref q2, .ref q3, .ref q4, .ref q5, .int (b15 5 0), .int (b15 6 0), .int (b15 7 0), .int (0), .int (7), .int (0)])), (q1, .inl (cI, 6, .inl ((put (put (put b15 8 0 0) 9 0 7) 10 0 0) 0))), (q2, .inl (cI, 6, .inl ((put (put (put b15 8 0 0) 9 0 7) 10 0 0) 1))), (q3, .inl (cI, 6, .inl ((put (put (put b15 8 0 0) 9 0 7) 10 0 0) 2))), (q4, .inl (cI, 5, .inl ((put (put (put b15 8 0 0) 9 0 7) 10 0 0) 3))), (q5, .inl (cI, 5, .inl ((put (put (put b15 8 0 0) 9 0 7) 10 0 0) 4)))]) C hwsX20 tyX2 tyX2_ok nmX2 10 mw_168 0 rfl rfl (by decide) rfl rfl rfl rfl (Nat.le_of_ble_eq_true rfl) dX2_init_146 rfl ?_
                      exact x_nret C rfl (mkq [h, q1, q2, q3, q4, q5]) rfl dX2_init_149 rfl
                    · refine x_lsub (L' := [(0, .ref h), (1, .int xa), (2, .int xb), (3, .int xc), (4, .int xd), (5, .int 3)]) [1, 2, 3, 4, 5, 0] rfl ?_
                      exact J16 _
                  · exact J17 _
                · exact J18 _
              · refine x_lsub (L' := [(0, .ref h), (1, .int xa), (2, .int xb), (3, .int xc), (4, .int xd), (5, .int 2)]) [1, 2, 3, 4, 5, 0] rfl ?_
                exact J19 _
            · exact J20 _
          · exact J21 _
        · refine x_lsub (L' := [(0, .ref h), (1, .int xa), (2, .int xb), (3, .int xc), (4, .int xd), (5, .int 1)]) [1, 2, 3, 4, 5, 0] rfl ?_
          exact J22 _
      · exact J23 _
    · refine x_lsub (L' := [(0, .ref h), (1, .int xa), (2, .int xb), (3, .int xc), (4, .int xd), (5, .int 0)]) [1, 2, 3, 4, 5, 0] rfl ?_
      exact J24 _
  · exact J25 _

def f_X3_init : St := z0
theorem hd_X3_init : yX3_init.cls ≠ "java/lang/invoke/MethodHandle" ∧ yX3_init.cls ≠ "java/lang/invoke/VarHandle" ∧ (parseMethodDescriptor yX3_init.desc).map (fun d => d.parameters.length) = some 0 := by decide +kernel
set_option maxHeartbeats 4000000 in
set_option maxRecDepth 100000 in
theorem c_X3_init (l : Launch) (D : va_G) (cI cZ cO : ClassId) (h : Nat)  : CTn l D (T3 cI cZ cO) yX3_init (Cond.code yX3_init cX3_init 1 none :: WA) ({ frames := 1, cells := 2, slots := 72, locals := 20 } : Room) [.ref h] ([(h, .inr (3, [.null, .null]))]) h (fun q => [(h, .inr (3, [.ref (q 1), .ref (q 2)])), ((q 1), .inl (cI, 18, .inl ((f_X3_init) 0))), ((q 2), .inl (cI, 54, .inl ((f_X3_init) 1)))]) 2 72 := by
  refine ct_n (K := fun z => z) (t := f_X3_init) (wf := fun q o => [(h, .inr (3, [.ref (q 1), .ref (q 2)])), ((q 1), .inl (cI, 18, .inl (o 0))), ((q 2), .inl (cI, 54, .inl (o 1)))]) (own := RX3) (nm := "<init>") (L0 := [(0, .ref h)]) (plainFor_of_name (by decide +kernel)) rfl rfl (Nat.le_of_ble_eq_true rfl) rfl ?_
  intro p e s m args below meth c A C
  unfold f_X3_init
  refine x_aload_n C dX3_init_0 0 rfl ?_
  refine x_obj C mw_208 mw_2 mw_3 (Nat.le_of_ble_eq_true rfl) (Nat.le_of_ble_eq_true rfl) dX3_init_1 ?_
  refine x_aload_n C dX3_init_4 0 rfl ?_
  refine x_bipush C 18 dX3_init_5 (by decide) ?_
  refine x_newI (N := 18) (ws' := fun q1 => [(h, .inr (3, [.null, .null])), (q1, .inl (cI, 18, .inl (z0 0)))]) C mw_4 0 rfl (by decide) (by decide) (by decide) (Nat.le_of_ble_eq_true rfl) (Nat.le_of_ble_eq_true rfl) dX3_init_7 (fun _ => rfl) (fun q1 => ?_)
  refine x_putF (ws' := [(h, .inr (3, [.ref q1, .null])), (q1, .inl (cI, 18, .inl (z0 0)))]) C hwsX30 tyX3 tyX3_ok nmX3 0 mw_60 0 rfl rfl (by decide) rfl rfl rfl rfl rfl rfl (Nat.le_of_ble_eq_true rfl) dX3_init_9 rfl ?_
  refine x_aload_n C dX3_init_12 0 rfl ?_
  refine x_bipush C 54 dX3_init_13 (by decide) ?_
  refine x_newI (N := 54) (ws' := fun q2 => [(h, .inr (3, [.ref q1, .null])), (q1, .inl (cI, 18, .inl (z0 0))), (q2, .inl (cI, 54, .inl (z0 1)))]) C mw_4 0 rfl (by decide) (by decide) (by decide) (Nat.le_of_ble_eq_true rfl) (Nat.le_of_ble_eq_true rfl) dX3_init_15 (fun _ => rfl) (fun q2 => ?_)
  refine x_putF (ws' := [(h, .inr (3, [.ref q1, .ref q2])), (q1, .inl (cI, 18, .inl (z0 0))), (q2, .inl (cI, 54, .inl (z0 1)))]) C hwsX30 tyX3 tyX3_ok nmX3 1 mw_59 0 rfl rfl (by decide) rfl rfl rfl rfl rfl rfl (Nat.le_of_ble_eq_true rfl) dX3_init_17 rfl ?_
  exact x_nret C rfl (mkq [h, q1, q2]) rfl dX3_init_20 rfl

def f_X1_init : St := put z0 1 0 0
theorem hd_X1_init : yX1_init.cls ≠ "java/lang/invoke/MethodHandle" ∧ yX1_init.cls ≠ "java/lang/invoke/VarHandle" ∧ (parseMethodDescriptor yX1_init.desc).map (fun d => d.parameters.length) = some 0 := by decide +kernel
set_option maxHeartbeats 4000000 in
set_option maxRecDepth 100000 in
theorem c_X1_init (l : Launch) (D : va_G) (cI cZ cO : ClassId) (h : Nat)  : CTn l D (T3 cI cZ cO) yX1_init (Cond.code yX1_init cX1_init 1 none :: WA) ({ frames := 1, cells := 1, slots := 192, locals := 20 } : Room) [.ref h] ([(h, .inr (1, [.null, .int (z0 1 0)]))]) h (fun q => [(h, .inr (1, [.ref (q 1), .int ((f_X1_init) 1 0)])), ((q 1), .inl (cI, 192, .inl ((f_X1_init) 0)))]) 1 192 := by
  refine ct_n (K := fun z => z) (t := f_X1_init) (wf := fun q o => [(h, .inr (1, [.ref (q 1), .int (o 1 0)])), ((q 1), .inl (cI, 192, .inl (o 0)))]) (own := RX1) (nm := "<init>") (L0 := [(0, .ref h)]) (plainFor_of_name (by decide +kernel)) rfl rfl (Nat.le_of_ble_eq_true rfl) rfl ?_
  intro p e s m args below meth c A C
  unfold f_X1_init
  refine x_aload_n C dX1_init_0 0 rfl ?_
  refine x_obj C mw_153 mw_2 mw_3 (Nat.le_of_ble_eq_true rfl) (Nat.le_of_ble_eq_true rfl) dX1_init_1 ?_
  refine x_aload_n C dX1_init_4 0 rfl ?_
  refine x_sipush C 192 dX1_init_5 (by decide) ?_
  refine x_newI (N := 192) (ws' := fun q1 => [(h, .inr (1, [.null, .int (z0 1 0)])), (q1, .inl (cI, 192, .inl (z0 0)))]) C mw_4 0 rfl (by decide) (by decide) (by decide) (Nat.le_of_ble_eq_true rfl) (Nat.le_of_ble_eq_true rfl) dX1_init_8 (fun _ => rfl) (fun q1 => ?_)
  refine x_putF (ws' := [(h, .inr (1, [.ref q1, .int (z0 1 0)])), (q1, .inl (cI, 192, .inl (z0 0)))]) C hwsX10 tyX1 tyX1_ok nmX1 0 mw_101 0 rfl rfl (by decide) rfl rfl rfl rfl rfl rfl (Nat.le_of_ble_eq_true rfl) dX1_init_10 rfl ?_
  refine x_aload_n C dX1_init_13 0 rfl ?_
  refine x_iconst C 0 dX1_init_14 (by decide) ?_
  refine x_put (ws' := [(h, .inr (1, [.ref q1, .int (0)])), (q1, .inl (cI, 192, .inl ((put z0 1 0 0) 0)))]) C hwsX10 tyX1 tyX1_ok nmX1 1 mw_100 0 rfl rfl (by decide) rfl rfl rfl rfl (Nat.le_of_ble_eq_true rfl) dX1_init_15 rfl ?_
  exact x_nret C rfl (mkq [h, q1]) rfl dX1_init_18 rfl

def f_X5_init : St := put (put z0 1 0 0) 2 0 216
theorem hd_X5_init : yX5_init.cls ≠ "java/lang/invoke/MethodHandle" ∧ yX5_init.cls ≠ "java/lang/invoke/VarHandle" ∧ (parseMethodDescriptor yX5_init.desc).map (fun d => d.parameters.length) = some 0 := by decide +kernel
set_option maxHeartbeats 4000000 in
set_option maxRecDepth 100000 in
theorem c_X5_init (l : Launch) (D : va_G) (cI cZ cO : ClassId) (h : Nat)  : CTn l D (T3 cI cZ cO) yX5_init (Cond.code yX5_init cX5_init 1 none :: WA) ({ frames := 1, cells := 1, slots := 5, locals := 20 } : Room) [.ref h] ([(h, .inr (5, [.null, .int (z0 1 0), .int (z0 2 0)]))]) h (fun q => [(h, .inr (5, [.ref (q 1), .int ((f_X5_init) 1 0), .int ((f_X5_init) 2 0)])), ((q 1), .inl (cI, 5, .inl ((f_X5_init) 0)))]) 1 5 := by
  refine ct_n (K := fun z => z) (t := f_X5_init) (wf := fun q o => [(h, .inr (5, [.ref (q 1), .int (o 1 0), .int (o 2 0)])), ((q 1), .inl (cI, 5, .inl (o 0)))]) (own := RX5) (nm := "<init>") (L0 := [(0, .ref h)]) (plainFor_of_name (by decide +kernel)) rfl rfl (Nat.le_of_ble_eq_true rfl) rfl ?_
  intro p e s m args below meth c A C
  unfold f_X5_init
  refine x_aload_n C dX5_init_0 0 rfl ?_
  refine x_obj C mw_9 mw_2 mw_3 (Nat.le_of_ble_eq_true rfl) (Nat.le_of_ble_eq_true rfl) dX5_init_1 ?_
  refine x_aload_n C dX5_init_4 0 rfl ?_
  refine x_iconst C 5 dX5_init_5 (by decide) ?_
  refine x_newI (N := 5) (ws' := fun q1 => [(h, .inr (5, [.null, .int (z0 1 0), .int (z0 2 0)])), (q1, .inl (cI, 5, .inl (z0 0)))]) C mw_4 0 rfl (by decide) (by decide) (by decide) (Nat.le_of_ble_eq_true rfl) (Nat.le_of_ble_eq_true rfl) dX5_init_6 (fun _ => rfl) (fun q1 => ?_)
  refine x_putF (ws' := [(h, .inr (5, [.ref q1, .int (z0 1 0), .int (z0 2 0)])), (q1, .inl (cI, 5, .inl (z0 0)))]) C hwsX50 tyX5 tyX5_ok nmX5 0 mw_10 0 rfl rfl (by decide) rfl rfl rfl rfl rfl rfl (Nat.le_of_ble_eq_true rfl) dX5_init_8 rfl ?_
  refine x_aload_n C dX5_init_11 0 rfl ?_
  refine x_iconst C 0 dX5_init_12 (by decide) ?_
  refine x_put (ws' := [(h, .inr (5, [.ref q1, .int (0), .int (z0 2 0)])), (q1, .inl (cI, 5, .inl ((put z0 1 0 0) 0)))]) C hwsX50 tyX5 tyX5_ok nmX5 1 mw_11 0 rfl rfl (by decide) rfl rfl rfl rfl (Nat.le_of_ble_eq_true rfl) dX5_init_13 rfl ?_
  refine x_aload_n C dX5_init_16 0 rfl ?_
  refine x_sipush C 216 dX5_init_17 (by decide) ?_
  refine x_put (ws' := [(h, .inr (5, [.ref q1, .int (0), .int (216)])), (q1, .inl (cI, 5, .inl ((put (put z0 1 0 0) 2 0 216) 0)))]) C hwsX50 tyX5 tyX5_ok nmX5 2 mw_12 0 rfl rfl (by decide) rfl rfl rfl rfl (Nat.le_of_ble_eq_true rfl) dX5_init_20 rfl ?_
  exact x_nret C rfl (mkq [h, q1]) rfl dX5_init_23 rfl

def f_X4_init_x22 (a4 : St) : St := a4
def f_X4_init_t22 (uS : St) (i3 : Nat) (a4 : St) : St := put (put a4 0 i3 (uS 0 i3)) 1 i3 7
def f_X4_init (uS : St) : St := f_X4_init_x22 (up (f_X4_init_t22 uS) 0 18 z0)
theorem hd_X4_init : yX4_init.cls ≠ "java/lang/invoke/MethodHandle" ∧ yX4_init.cls ≠ "java/lang/invoke/VarHandle" ∧ (parseMethodDescriptor yX4_init.desc).map (fun d => d.parameters.length) = some 1 := by decide +kernel
set_option maxHeartbeats 4000000 in
set_option maxRecDepth 100000 in
theorem c_X4_init (l : Launch) (D : va_G) (cI cZ cO : ClassId) (h hS aS0 aS1 : Nat) (uS : St) : CTn l D (T3 cI cZ cO) yX4_init (Cond.code yX4_init cX4_init 3 none :: WA) ({ frames := 1, cells := 2, slots := 36, locals := 20 } : Room) [.ref h, .ref hS] ([(h, .inr (4, [.null, .null])), (hS, .inr (3, [.ref aS0, .ref aS1])), (aS0, .inl (cI, 18, .inl (uS 0))), (aS1, .inl (cI, 54, .inl (uS 1)))]) h (fun q => [(h, .inr (4, [.ref (q 1), .ref (q 2)])), ((q 1), .inl (cI, 18, .inl ((f_X4_init uS) 0))), ((q 2), .inl (cI, 18, .inl ((f_X4_init uS) 1))), (hS, .inr (3, [.ref aS0, .ref aS1])), (aS0, .inl (cI, 18, .inl (uS 0))), (aS1, .inl (cI, 54, .inl (uS 1)))]) 2 36 := by
  refine ct_n (K := fun z => z) (t := f_X4_init uS) (wf := fun q o => [(h, .inr (4, [.ref (q 1), .ref (q 2)])), ((q 1), .inl (cI, 18, .inl (o 0))), ((q 2), .inl (cI, 18, .inl (o 1))), (hS, .inr (3, [.ref aS0, .ref aS1])), (aS0, .inl (cI, 18, .inl (uS 0))), (aS1, .inl (cI, 54, .inl (uS 1)))]) (own := RX4) (nm := "<init>") (L0 := [(0, .ref h), (1, .ref hS)]) (plainFor_of_name (by decide +kernel)) rfl rfl (Nat.le_of_ble_eq_true rfl) rfl ?_
  intro p e s m args below meth c A C
  unfold f_X4_init
  refine x_aload_n C dX4_init_0 0 rfl ?_
  refine x_obj C mw_1 mw_2 mw_3 (Nat.le_of_ble_eq_true rfl) (Nat.le_of_ble_eq_true rfl) dX4_init_1 ?_
  refine x_aload_n C dX4_init_4 0 rfl ?_
  refine x_bipush C 18 dX4_init_5 (by decide) ?_
  refine x_newI (N := 18) (ws' := fun q1 => [(h, .inr (4, [.null, .null])), (hS, .inr (3, [.ref aS0, .ref aS1])), (aS0, .inl (cI, 18, .inl (uS 0))), (aS1, .inl (cI, 54, .inl (uS 1))), (q1, .inl (cI, 18, .inl (z0 0)))]) C mw_4 0 rfl (by decide) (by decide) (by decide) (Nat.le_of_ble_eq_true rfl) (Nat.le_of_ble_eq_true rfl) dX4_init_7 (fun _ => rfl) (fun q1 => ?_)
  refine x_putF (ws' := [(h, .inr (4, [.ref q1, .null])), (hS, .inr (3, [.ref aS0, .ref aS1])), (aS0, .inl (cI, 18, .inl (uS 0))), (aS1, .inl (cI, 54, .inl (uS 1))), (q1, .inl (cI, 18, .inl (z0 0)))]) C hwsX40 tyX4 tyX4_ok nmX4 0 mw_5 0 rfl rfl (by decide) rfl rfl rfl rfl rfl rfl (Nat.le_of_ble_eq_true rfl) dX4_init_9 rfl ?_
  refine x_aload_n C dX4_init_12 0 rfl ?_
  refine x_bipush C 18 dX4_init_13 (by decide) ?_
  refine x_newI (N := 18) (ws' := fun q2 => [(h, .inr (4, [.ref q1, .null])), (hS, .inr (3, [.ref aS0, .ref aS1])), (aS0, .inl (cI, 18, .inl (uS 0))), (aS1, .inl (cI, 54, .inl (uS 1))), (q1, .inl (cI, 18, .inl (z0 0))), (q2, .inl (cI, 18, .inl (z0 1)))]) C mw_4 0 rfl (by decide) (by decide) (by decide) (Nat.le_of_ble_eq_true rfl) (Nat.le_of_ble_eq_true rfl) dX4_init_15 (fun _ => rfl) (fun q2 => ?_)
  refine x_putF (ws' := [(h, .inr (4, [.ref q1, .ref q2])), (hS, .inr (3, [.ref aS0, .ref aS1])), (aS0, .inl (cI, 18, .inl (uS 0))), (aS1, .inl (cI, 54, .inl (uS 1))), (q1, .inl (cI, 18, .inl (z0 0))), (q2, .inl (cI, 18, .inl (z0 1)))]) C hwsX40 tyX4 tyX4_ok nmX4 1 mw_6 0 rfl rfl (by decide) rfl rfl rfl rfl rfl rfl (Nat.le_of_ble_eq_true rfl) dX4_init_17 rfl ?_
  refine x_iconst C 0 dX4_init_20 (by decide) ?_
  refine x_istore_n (L' := [(2, .int 0), (0, .ref h), (1, .ref hS)]) C dX4_init_21 (by decide) rfl ?_
  refine x_lsub (L' := [(0, .ref h), (1, .ref hS), (2, .int 0)]) [1, 2, 0] rfl ?_
  refine x_loop (f_X4_init_t22 uS) (fun (a4 : St) => f_X4_init_x22 a4) 18 22 (fun (i3 : Nat) (a4 : St) => [(0, .ref h), (1, .ref hS), (2, .int (nI i3))]) (fun (i3 : Nat) (a4 : St) => []) (fun (i3 : Nat) (a4 : St) => [(h, .inr (4, [.ref q1, .ref q2])), (hS, .inr (3, [.ref aS0, .ref aS1])), (aS0, .inl (cI, 18, .inl (uS 0))), (aS1, .inl (cI, 54, .inl (uS 1))), (q1, .inl (cI, 18, .inl (a4 0))), (q2, .inl (cI, 18, .inl (a4 1)))]) (fun a4 => ?_) (fun i3 a4 K7 hk5 ih6 => ?_) 18 0 z0 (by omega)
  · unfold f_X4_init_x22
    refine x_iload_n C dX4_init_22 2 rfl ?_
    refine x_bipush C 18 dX4_init_23 (by decide) ?_
    refine x_icmp_ge_t C 54 dX4_init_25 (by decide) (by decide) ?_
    refine x_perm (ws' := [(h, .inr (4, [.ref q1, .ref q2])), (q1, .inl (cI, 18, .inl (a4 0))), (q2, .inl (cI, 18, .inl (a4 1))), (hS, .inr (3, [.ref aS0, .ref aS1])), (aS0, .inl (cI, 18, .inl (uS 0))), (aS1, .inl (cI, 54, .inl (uS 1)))]) [0, 4, 5, 1, 2, 3] ⟨rfl, rfl, rfl, rfl, rfl, rfl, trivial⟩ rfl ?_
    exact x_nret C rfl (mkq [h, q1, q2]) rfl dX4_init_54 rfl
  · unfold f_X4_init_t22
    refine x_iload_n C dX4_init_22 2 rfl ?_
    refine x_bipush C 18 dX4_init_23 (by decide) ?_
    refine x_icmp_ge_f C 54 dX4_init_25 (by decide) (nI_lt (b := 18) hk5 (by omega)) ?_
    refine x_aload_n C dX4_init_28 0 rfl ?_
    refine x_get (v := .ref q1) C hwsX40 0 mw_5 0 rfl rfl (by decide) rfl rfl dX4_init_29 ?_
    refine x_iload_n C dX4_init_32 2 rfl ?_
    refine x_aload_n C dX4_init_33 1 rfl ?_
    refine x_get (v := .ref aS0) C hwsX30 0 mw_7 1 rfl rfl (by decide) rfl rfl dX4_init_34 ?_
    refine x_iload_n C dX4_init_37 2 rfl ?_
    refine x_iald C 2 0 rfl rfl i3 rfl (by omega) (by decide) (uS 0 i3) rfl dX4_init_38 ?_
    refine x_iast (ws' := [(h, .inr (4, [.ref q1, .ref q2])), (hS, .inr (3, [.ref aS0, .ref aS1])), (aS0, .inl (cI, 18, .inl (uS 0))), (aS1, .inl (cI, 54, .inl (uS 1))), (q1, .inl (cI, 18, .inl ((put a4 0 i3 (uS 0 i3)) 0))), (q2, .inl (cI, 18, .inl ((put a4 0 i3 (uS 0 i3)) 1)))]) C 4 0 rfl rfl i3 rfl (by omega) (by decide) dX4_init_39 rfl ?_
    refine x_aload_n C dX4_init_40 0 rfl ?_
    refine x_get (v := .ref q2) C hwsX40 1 mw_6 0 rfl rfl (by decide) rfl rfl dX4_init_41 ?_
    refine x_iload_n C dX4_init_44 2 rfl ?_
    refine x_bipush C 7 dX4_init_45 (by decide) ?_
    refine x_iast (ws' := [(h, .inr (4, [.ref q1, .ref q2])), (hS, .inr (3, [.ref aS0, .ref aS1])), (aS0, .inl (cI, 18, .inl (uS 0))), (aS1, .inl (cI, 54, .inl (uS 1))), (q1, .inl (cI, 18, .inl ((put (put a4 0 i3 (uS 0 i3)) 1 i3 7) 0))), (q2, .inl (cI, 18, .inl ((put (put a4 0 i3 (uS 0 i3)) 1 i3 7) 1)))]) C 5 0 rfl rfl i3 rfl (by omega) (by decide) dX4_init_47 rfl ?_
    refine x_iinc (L' := [(2, .int (nI (i3 + 1))), (0, .ref h), (1, .ref hS)]) C (nI (i3 + 1)) dX4_init_48 2 rfl (nI_add _ _) (by decide) rfl ?_
    refine x_goto C 22 dX4_init_51 (by decide) ?_
    refine x_lsub (L' := [(0, .ref h), (1, .ref hS), (2, .int (nI (i3 + 1)))]) [1, 2, 0] rfl ?_
    exact ih6 (put (put a4 0 i3 (uS 0 i3)) 1 i3 7)

def f_X0_init_k47 (uS : St) (b5 : St) : St × St × St := (put (put (put b5 6 0 0) 7 0 0) 8 0 0, f_X4_init uS, f_X5_init)
def f_X0_init (uS : St) (xn : Int32) : St × St × St := f_X0_init_k47 uS (put (put (put (put z0 0 0 xn) 3 0 0) 4 0 0) 5 0 1)
theorem hd_X0_init : yX0_init.cls ≠ "java/lang/invoke/MethodHandle" ∧ yX0_init.cls ≠ "java/lang/invoke/VarHandle" ∧ (parseMethodDescriptor yX0_init.desc).map (fun d => d.parameters.length) = some 2 := by decide +kernel
set_option maxHeartbeats 4000000 in
set_option maxRecDepth 100000 in
theorem c_X0_init (l : Launch) (D : va_G) (cI cZ cO : ClassId) (h hS aS0 aS1 : Nat) (uS : St) (xn : Int32) : CTn l D (T3 cI cZ cO) yX0_init (Cond.code yX0_init cX0_init 3 none :: WA) ({ frames := 2, cells := 5, slots := 46, locals := 42 } : Room) [.ref h, .int xn, .ref hS] ([(h, .inr (0, [.int (z0 0 0), .null, .null, .int (z0 3 0), .int (z0 4 0), .int (z0 5 0), .int (z0 6 0), .int (z0 7 0), .int (z0 8 0)])), (hS, .inr (3, [.ref aS0, .ref aS1])), (aS0, .inl (cI, 18, .inl (uS 0))), (aS1, .inl (cI, 54, .inl (uS 1)))]) h (fun q => [(h, .inr (0, [.int ((f_X0_init uS xn).1 0 0), .ref (q 1), .ref (q 4), .int ((f_X0_init uS xn).1 3 0), .int ((f_X0_init uS xn).1 4 0), .int ((f_X0_init uS xn).1 5 0), .int ((f_X0_init uS xn).1 6 0), .int ((f_X0_init uS xn).1 7 0), .int ((f_X0_init uS xn).1 8 0)])), ((q 1), .inr (4, [.ref (q 2), .ref (q 3)])), ((q 2), .inl (cI, 18, .inl ((f_X0_init uS xn).2.1 0))), ((q 3), .inl (cI, 18, .inl ((f_X0_init uS xn).2.1 1))), ((q 4), .inr (5, [.ref (q 5), .int ((f_X0_init uS xn).2.2 1 0), .int ((f_X0_init uS xn).2.2 2 0)])), ((q 5), .inl (cI, 5, .inl ((f_X0_init uS xn).2.2 0))), (hS, .inr (3, [.ref aS0, .ref aS1])), (aS0, .inl (cI, 18, .inl (uS 0))), (aS1, .inl (cI, 54, .inl (uS 1)))]) 5 46 := by
  refine ct_n (K := fun z => z) (t := f_X0_init uS xn) (wf := fun q o => [(h, .inr (0, [.int (o.1 0 0), .ref (q 1), .ref (q 4), .int (o.1 3 0), .int (o.1 4 0), .int (o.1 5 0), .int (o.1 6 0), .int (o.1 7 0), .int (o.1 8 0)])), ((q 1), .inr (4, [.ref (q 2), .ref (q 3)])), ((q 2), .inl (cI, 18, .inl (o.2.1 0))), ((q 3), .inl (cI, 18, .inl (o.2.1 1))), ((q 4), .inr (5, [.ref (q 5), .int (o.2.2 1 0), .int (o.2.2 2 0)])), ((q 5), .inl (cI, 5, .inl (o.2.2 0))), (hS, .inr (3, [.ref aS0, .ref aS1])), (aS0, .inl (cI, 18, .inl (uS 0))), (aS1, .inl (cI, 54, .inl (uS 1)))]) (own := RX0) (nm := "<init>") (L0 := [(0, .ref h), (1, .int xn), (2, .ref hS)]) (plainFor_of_name (by decide +kernel)) rfl rfl (Nat.le_of_ble_eq_true rfl) rfl ?_
  intro p e s m args below meth c A C
  unfold f_X0_init
  refine x_aload_n C dX0_init_0 0 rfl ?_
  refine x_obj C mw_13 mw_2 mw_3 (Nat.le_of_ble_eq_true rfl) (Nat.le_of_ble_eq_true rfl) dX0_init_1 ?_
  refine x_aload_n C dX0_init_4 0 rfl ?_
  refine x_iload_n C dX0_init_5 1 rfl ?_
  refine x_putF (ws' := [(h, .inr (0, [.int (xn), .null, .null, .int (z0 3 0), .int (z0 4 0), .int (z0 5 0), .int (z0 6 0), .int (z0 7 0), .int (z0 8 0)])), (hS, .inr (3, [.ref aS0, .ref aS1])), (aS0, .inl (cI, 18, .inl (uS 0))), (aS1, .inl (cI, 54, .inl (uS 1)))]) C hwsX00 tyX0 tyX0_ok nmX0 0 mw_14 0 rfl rfl (by decide) rfl rfl rfl rfl rfl rfl (Nat.le_of_ble_eq_true rfl) dX0_init_6 rfl ?_
  refine x_aload_n C dX0_init_9 0 rfl ?_
  refine x_new (ci := 4) (ws' := fun q1 => [(h, .inr (0, [.int (xn), .null, .null, .int (z0 3 0), .int (z0 4 0), .int (z0 5 0), .int (z0 6 0), .int (z0 7 0), .int (z0 8 0)])), (hS, .inr (3, [.ref aS0, .ref aS1])), (aS0, .inl (cI, 18, .inl (uS 0))), (aS1, .inl (cI, 54, .inl (uS 1))), (q1, .inr (4, [.null, .null]))]) C hwsX40 tyX4 tyX4_ok mw_15 mw_16 mw_17 rfl rfl (Nat.le_of_ble_eq_true rfl) (Nat.le_of_ble_eq_true rfl) dX0_init_10 (fun _ => rfl) (fun q1 => ?_)
  refine x_dup C dX0_init_13 rfl ?_
  refine x_aload_n C dX0_init_14 2 rfl ?_
  refine x_cI (As := [.ref hS]) (ws' := fun q2 => [(h, .inr (0, [.int (xn), .null, .null, .int (z0 3 0), .int (z0 4 0), .int (z0 5 0), .int (z0 6 0), .int (z0 7 0), .int (z0 8 0)])), (q1, .inr (4, [.ref (q2 1), .ref (q2 2)])), ((q2 1), .inl (cI, 18, .inl ((f_X4_init uS) 0))), ((q2 2), .inl (cI, 18, .inl ((f_X4_init uS) 1))), (hS, .inr (3, [.ref aS0, .ref aS1])), (aS0, .inl (cI, 18, .inl (uS 0))), (aS1, .inl (cI, 54, .inl (uS 1)))]) C mw_29 mw_30 mw_17 mw_0 rfl hd_X4_init rfl rfl ⟨Nat.le_of_ble_eq_true rfl, Nat.le_of_ble_eq_true rfl⟩ (c_X4_init l D cI cZ cO q1 hS aS0 aS1 uS) [4, 1, 2, 3] [0] ⟨rfl, rfl, rfl, rfl, trivial⟩ rfl rfl rfl rfl [0, 1, 2, 3, 4, 5, 6] (fun _ => ⟨rfl, rfl, rfl, rfl, rfl, rfl, rfl, trivial⟩) rfl rfl rfl (Nat.le_of_ble_eq_true rfl) ⟨Nat.le_of_ble_eq_true rfl, Nat.le_of_ble_eq_true rfl⟩ dX0_init_15 (fun q2 hqq2 => ?_)
  refine x_putF (ws' := [(h, .inr (0, [.int (xn), .ref q1, .null, .int (z0 3 0), .int (z0 4 0), .int (z0 5 0), .int (z0 6 0), .int (z0 7 0), .int (z0 8 0)])), (q1, .inr (4, [.ref (q2 1), .ref (q2 2)])), ((q2 1), .inl (cI, 18, .inl ((f_X4_init uS) 0))), ((q2 2), .inl (cI, 18, .inl ((f_X4_init uS) 1))), (hS, .inr (3, [.ref aS0, .ref aS1])), (aS0, .inl (cI, 18, .inl (uS 0))), (aS1, .inl (cI, 54, .inl (uS 1)))]) C hwsX00 tyX0 tyX0_ok nmX0 1 mw_18 0 rfl rfl (by decide) rfl rfl rfl rfl rfl rfl (Nat.le_of_ble_eq_true rfl) dX0_init_18 rfl ?_
  refine x_aload_n C dX0_init_21 0 rfl ?_
  refine x_new (ci := 5) (ws' := fun q3 => [(h, .inr (0, [.int (xn), .ref q1, .null, .int (z0 3 0), .int (z0 4 0), .int (z0 5 0), .int (z0 6 0), .int (z0 7 0), .int (z0 8 0)])), (q1, .inr (4, [.ref (q2 1), .ref (q2 2)])), ((q2 1), .inl (cI, 18, .inl ((f_X4_init uS) 0))), ((q2 2), .inl (cI, 18, .inl ((f_X4_init uS) 1))), (hS, .inr (3, [.ref aS0, .ref aS1])), (aS0, .inl (cI, 18, .inl (uS 0))), (aS1, .inl (cI, 54, .inl (uS 1))), (q3, .inr (5, [.null, .int (z0 1 0), .int (z0 2 0)]))]) C hwsX50 tyX5 tyX5_ok mw_19 mw_20 mw_21 rfl rfl (Nat.le_of_ble_eq_true rfl) (Nat.le_of_ble_eq_true rfl) dX0_init_22 (fun _ => rfl) (fun q3 => ?_)
  refine x_dup C dX0_init_25 rfl ?_
  refine x_cI (As := []) (ws' := fun q4 => [(h, .inr (0, [.int (xn), .ref q1, .null, .int (z0 3 0), .int (z0 4 0), .int (z0 5 0), .int (z0 6 0), .int (z0 7 0), .int (z0 8 0)])), (q1, .inr (4, [.ref (q2 1), .ref (q2 2)])), ((q2 1), .inl (cI, 18, .inl ((f_X4_init uS) 0))), ((q2 2), .inl (cI, 18, .inl ((f_X4_init uS) 1))), (hS, .inr (3, [.ref aS0, .ref aS1])), (aS0, .inl (cI, 18, .inl (uS 0))), (aS1, .inl (cI, 54, .inl (uS 1))), (q3, .inr (5, [.ref (q4 1), .int (f_X5_init 1 0), .int (f_X5_init 2 0)])), ((q4 1), .inl (cI, 5, .inl (f_X5_init 0)))]) C mw_31 mw_32 mw_21 mw_8 rfl hd_X5_init rfl rfl ⟨Nat.le_of_ble_eq_true rfl, Nat.le_of_ble_eq_true rfl⟩ (c_X5_init l D cI cZ cO q3  ) [7] [0, 1, 2, 3, 4, 5, 6] ⟨rfl, trivial⟩ rfl rfl rfl rfl [0, 1, 2, 3, 4, 5, 6, 7, 8] (fun _ => ⟨rfl, rfl, rfl, rfl, rfl, rfl, rfl, rfl, rfl, trivial⟩) rfl rfl rfl (Nat.le_of_ble_eq_true rfl) ⟨Nat.le_of_ble_eq_true rfl, Nat.le_of_ble_eq_true rfl⟩ dX0_init_26 (fun q4 hqq4 => ?_)
  refine x_putF (ws' := [(h, .inr (0, [.int (xn), .ref q1, .ref q3, .int (z0 3 0), .int (z0 4 0), .int (z0 5 0), .int (z0 6 0), .int (z0 7 0), .int (z0 8 0)])), (q1, .inr (4, [.ref (q2 1), .ref (q2 2)])), ((q2 1), .inl (cI, 18, .inl ((f_X4_init uS) 0))), ((q2 2), .inl (cI, 18, .inl ((f_X4_init uS) 1))), (hS, .inr (3, [.ref aS0, .ref aS1])), (aS0, .inl (cI, 18, .inl (uS 0))), (aS1, .inl (cI, 54, .inl (uS 1))), (q3, .inr (5, [.ref (q4 1), .int (f_X5_init 1 0), .int (f_X5_init 2 0)])), ((q4 1), .inl (cI, 5, .inl (f_X5_init 0)))]) C hwsX00 tyX0 tyX0_ok nmX0 2 mw_22 0 rfl rfl (by decide) rfl rfl rfl rfl rfl rfl (Nat.le_of_ble_eq_true rfl) dX0_init_29 rfl ?_
  refine x_aload_n C dX0_init_32 0 rfl ?_
  refine x_iconst C 0 dX0_init_33 (by decide) ?_
  refine x_put (ws' := [(h, .inr (0, [.int (xn), .ref q1, .ref q3, .int (0), .int (z0 4 0), .int (z0 5 0), .int (z0 6 0), .int (z0 7 0), .int (z0 8 0)])), (q1, .inr (4, [.ref (q2 1), .ref (q2 2)])), ((q2 1), .inl (cI, 18, .inl ((f_X4_init uS) 0))), ((q2 2), .inl (cI, 18, .inl ((f_X4_init uS) 1))), (hS, .inr (3, [.ref aS0, .ref aS1])), (aS0, .inl (cI, 18, .inl (uS 0))), (aS1, .inl (cI, 54, .inl (uS 1))), (q3, .inr (5, [.ref (q4 1), .int (f_X5_init 1 0), .int (f_X5_init 2 0)])), ((q4 1), .inl (cI, 5, .inl (f_X5_init 0)))]) C hwsX00 tyX0 tyX0_ok nmX0 3 mw_23 0 rfl rfl (by decide) rfl rfl rfl rfl (Nat.le_of_ble_eq_true rfl) dX0_init_34 rfl ?_
  refine x_aload_n C dX0_init_37 0 rfl ?_
  refine x_iconst C 0 dX0_init_38 (by decide) ?_
  refine x_put (ws' := [(h, .inr (0, [.int (xn), .ref q1, .ref q3, .int (0), .int (0), .int (z0 5 0), .int (z0 6 0), .int (z0 7 0), .int (z0 8 0)])), (q1, .inr (4, [.ref (q2 1), .ref (q2 2)])), ((q2 1), .inl (cI, 18, .inl ((f_X4_init uS) 0))), ((q2 2), .inl (cI, 18, .inl ((f_X4_init uS) 1))), (hS, .inr (3, [.ref aS0, .ref aS1])), (aS0, .inl (cI, 18, .inl (uS 0))), (aS1, .inl (cI, 54, .inl (uS 1))), (q3, .inr (5, [.ref (q4 1), .int (f_X5_init 1 0), .int (f_X5_init 2 0)])), ((q4 1), .inl (cI, 5, .inl (f_X5_init 0)))]) C hwsX00 tyX0 tyX0_ok nmX0 4 mw_24 0 rfl rfl (by decide) rfl rfl rfl rfl (Nat.le_of_ble_eq_true rfl) dX0_init_39 rfl ?_
  refine x_aload_n C dX0_init_42 0 rfl ?_
  refine x_iconst C 1 dX0_init_43 (by decide) ?_
  refine x_put (ws' := [(h, .inr (0, [.int (xn), .ref q1, .ref q3, .int (0), .int (0), .int (1), .int (z0 6 0), .int (z0 7 0), .int (z0 8 0)])), (q1, .inr (4, [.ref (q2 1), .ref (q2 2)])), ((q2 1), .inl (cI, 18, .inl ((f_X4_init uS) 0))), ((q2 2), .inl (cI, 18, .inl ((f_X4_init uS) 1))), (hS, .inr (3, [.ref aS0, .ref aS1])), (aS0, .inl (cI, 18, .inl (uS 0))), (aS1, .inl (cI, 54, .inl (uS 1))), (q3, .inr (5, [.ref (q4 1), .int (f_X5_init 1 0), .int (f_X5_init 2 0)])), ((q4 1), .inl (cI, 5, .inl (f_X5_init 0)))]) C hwsX00 tyX0 tyX0_ok nmX0 5 mw_25 0 rfl rfl (by decide) rfl rfl rfl rfl (Nat.le_of_ble_eq_true rfl) dX0_init_44 rfl ?_
  refine x_join (fun (b5 : St) => f_X0_init_k47 uS b5) 47 (fun (b5 : St) => [(0, .ref h), (1, .int xn), (2, .ref hS)]) (fun (b5 : St) => []) (fun (b5 : St) => [(h, .inr (0, [.int (b5 0 0), .ref q1, .ref q3, .int (b5 3 0), .int (b5 4 0), .int (b5 5 0), .int (b5 6 0), .int (b5 7 0), .int (b5 8 0)])), (q1, .inr (4, [.ref (q2 1), .ref (q2 2)])), ((q2 1), .inl (cI, 18, .inl ((f_X4_init uS) 0))), ((q2 2), .inl (cI, 18, .inl ((f_X4_init uS) 1))), (hS, .inr (3, [.ref aS0, .ref aS1])), (aS0, .inl (cI, 18, .inl (uS 0))), (aS1, .inl (cI, 54, .inl (uS 1))), (q3, .inr (5, [.ref (q4 1), .int (f_X5_init 1 0), .int (f_X5_init 2 0)])), ((q4 1), .inl (cI, 5, .inl (f_X5_init 0)))]) (fun b5 => ?_) (put (put (put (put z0 0 0 xn) 3 0 0) 4 0 0) 5 0 1) (fun J6 => ?_)
  · unfold f_X0_init_k47
    refine x_aload_n C dX0_init_47 0 rfl ?_
    refine x_iconst C 0 dX0_init_48 (by decide) ?_
    refine x_put (ws' := [(h, .inr (0, [.int (b5 0 0), .ref q1, .ref q3, .int (b5 3 0), .int (b5 4 0), .int (b5 5 0), .int (0), .int (b5 7 0), .int (b5 8 0)])), (q1, .inr (4, [.ref (q2 1), .ref (q2 2)])), ((q2 1), .inl (cI, 18, .inl ((f_X4_init uS) 0))), ((q2 2), .inl (cI, 18, .inl ((f_X4_init uS) 1))), (hS, .inr (3, [.ref aS0, .ref aS1])), (aS0, .inl (cI, 18, .inl (uS 0))), (aS1, .inl (cI, 54, .inl (uS 1))), (q3, .inr (5, [.ref (q4 1), .int (f_X5_init 1 0), .int (f_X5_init 2 0)])), ((q4 1), .inl (cI, 5, .inl (f_X5_init 0)))]) C hwsX00 tyX0 tyX0_ok nmX0 6 mw_26 0 rfl rfl (by decide) rfl rfl rfl rfl (Nat.le_of_ble_eq_true rfl) dX0_init_49 rfl ?_
    refine x_aload_n C dX0_init_52 0 rfl ?_
    refine x_iconst C 0 dX0_init_53 (by decide) ?_
    refine x_put (ws' := [(h, .inr (0, [.int (b5 0 0), .ref q1, .ref q3, .int (b5 3 0), .int (b5 4 0), .int (b5 5 0), .int (0), .int (0), .int (b5 8 0)])), (q1, .inr (4, [.ref (q2 1), .ref (q2 2)])), ((q2 1), .inl (cI, 18, .inl ((f_X4_init uS) 0))), ((q2 2), .inl (cI, 18, .inl ((f_X4_init uS) 1))), (hS, .inr (3, [.ref aS0, .ref aS1])), (aS0, .inl (cI, 18, .inl (uS 0))), (aS1, .inl (cI, 54, .inl (uS 1))), (q3, .inr (5, [.ref (q4 1), .int (f_X5_init 1 0), .int (f_X5_init 2 0)])), ((q4 1), .inl (cI, 5, .inl (f_X5_init 0)))]) C hwsX00 tyX0 tyX0_ok nmX0 7 mw_27 0 rfl rfl (by decide) rfl rfl rfl rfl (Nat.le_of_ble_eq_true rfl) dX0_init_54 rfl ?_
    refine x_aload_n C dX0_init_57 0 rfl ?_
    refine x_iconst C 0 dX0_init_58 (by decide) ?_
    refine x_put (ws' := [(h, .inr (0, [.int (b5 0 0), .ref q1, .ref q3, .int (b5 3 0), .int (b5 4 0), .int (b5 5 0), .int (0), .int (0), .int (0)])), (q1, .inr (4, [.ref (q2 1), .ref (q2 2)])), ((q2 1), .inl (cI, 18, .inl ((f_X4_init uS) 0))), ((q2 2), .inl (cI, 18, .inl ((f_X4_init uS) 1))), (hS, .inr (3, [.ref aS0, .ref aS1])), (aS0, .inl (cI, 18, .inl (uS 0))), (aS1, .inl (cI, 54, .inl (uS 1))), (q3, .inr (5, [.ref (q4 1), .int (f_X5_init 1 0), .int (f_X5_init 2 0)])), ((q4 1), .inl (cI, 5, .inl (f_X5_init 0)))]) C hwsX00 tyX0 tyX0_ok nmX0 8 mw_28 0 rfl rfl (by decide) rfl rfl rfl rfl (Nat.le_of_ble_eq_true rfl) dX0_init_59 rfl ?_
    refine x_perm (ws' := [(h, .inr (0, [.int (b5 0 0), .ref q1, .ref q3, .int (b5 3 0), .int (b5 4 0), .int (b5 5 0), .int (0), .int (0), .int (0)])), (q1, .inr (4, [.ref (q2 1), .ref (q2 2)])), ((q2 1), .inl (cI, 18, .inl ((f_X4_init uS) 0))), ((q2 2), .inl (cI, 18, .inl ((f_X4_init uS) 1))), (q3, .inr (5, [.ref (q4 1), .int (f_X5_init 1 0), .int (f_X5_init 2 0)])), ((q4 1), .inl (cI, 5, .inl (f_X5_init 0))), (hS, .inr (3, [.ref aS0, .ref aS1])), (aS0, .inl (cI, 18, .inl (uS 0))), (aS1, .inl (cI, 54, .inl (uS 1)))]) [0, 1, 2, 3, 7, 8, 4, 5, 6] ⟨rfl, rfl, rfl, rfl, rfl, rfl, rfl, rfl, rfl, trivial⟩ rfl ?_
    exact x_nret C rfl (mkq [h, q1, (q2 1), (q2 2), q3, (q4 1)]) rfl dX0_init_62 rfl
  · exact J6 _
