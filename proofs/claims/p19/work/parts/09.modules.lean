theorem ix_of {x M : Int32} {n : Nat} (hn : n < 2 ^ 31) (hM : M = nI n) (h0 : ¬ x < 0) (h1 : ¬ M < x) : x = nI (ixn x) ∧ ixn x ≤ n := by
  subst hM
  obtain ⟨j, hj, e⟩ := nI_of2 (M := nI n) (nI_toInt hn) h0 (Int32.not_lt.mp h1)
  subst e
  have hc : ixn (nI j) = j := nI_clamp (by omega)
  rw [hc]
  exact ⟨rfl, hj⟩
theorem out_cases {x g : Int32} (h : f_X6_outside x g = false) : ¬ x < 0 ∧ ¬ g < x := by
  unfold f_X6_outside at h
  by_cases h0 : x < 0
  · rw [if_pos h0] at h; cases h
  · rw [if_neg h0] at h
    by_cases h1 : g < x
    · rw [if_pos h1] at h; cases h
    · exact ⟨h0, h1⟩
theorem out_nat {x g : Int32} (n : Nat) (hn : n < 2 ^ 31) (hg : g = nI n) (h : f_X6_outside x g = false) : x = nI (ixn x) ∧ ixn x ≤ n := ix_of hn hg (out_cases h).1 (out_cases h).2
def f_X0_orders_k64 (b5 : Int32) : Int32 := b5
def f_X0_orders_k61 (uC : St) (b8 : Int32) : Int32 := (stg (ixn (uC 3 0))) ||| (1 <<< (b8 &&& 31))
def f_X0_orders (uC : St) (uV : St) (uW : St) : Int32 := if (uC 8 0) = 1 then 0 else (if (uC 7 0) = 0 then (if (f_X6_outside (uC 3 0) 7) = true then 0 else (f_X0_orders_k64 (if (uC 3 0) = 3 then (f_X0_orders_k61 uC (if (uC 5 0) = 1 then 3 else 4)) else (stg (ixn (uC 3 0)))))) else 0)
theorem hd_X0_orders : yX0_orders.cls ≠ "java/lang/invoke/MethodHandle" ∧ yX0_orders.cls ≠ "java/lang/invoke/VarHandle" ∧ (parseMethodDescriptor yX0_orders.desc).map (fun d => d.parameters.length) = some 0 := by decide +kernel
set_option maxHeartbeats 4000000 in
set_option maxRecDepth 100000 in
theorem c_X0_orders (l : Launch) (D : va_G) (cI cZ cO : ClassId) (hC hV aV0 aV1 hW aW0 : Nat) (uC : St) (uV : St) (uW : St)  : CTi l D (T3 cI cZ cO) yX0_orders (Cond.code yX0_orders cX0_orders 2 (some .int) :: WA) ({ frames := 1, cells := 0, slots := 0, locals := 21 } : Room) [.ref hC] (wX0 cI cZ cO hC hV hW uC ++ wX4 cI cZ cO hV aV0 aV1 uV ++ wX5 cI cZ cO hW aW0 uW) ((f_X0_orders uC uV uW)) (wX0 cI cZ cO hC hV hW uC ++ wX4 cI cZ cO hV aV0 aV1 uV ++ wX5 cI cZ cO hW aW0 uW) := by
  refine ct_i (K := fun z => z) (t := f_X0_orders uC uV uW) (rf := fun o => o) (wf := fun o => wX0 cI cZ cO hC hV hW uC ++ wX4 cI cZ cO hV aV0 aV1 uV ++ wX5 cI cZ cO hW aW0 uW) (own := RX0) (nm := "orders") (L0 := [(0, .ref hC)]) (plainFor_of_name (by decide +kernel)) rfl rfl (Nat.le_of_ble_eq_true rfl) rfl ?_
  intro p e s m args below meth c A C
  unfold f_X0_orders
  refine x_aload_n C dX0_orders_0 0 rfl ?_
  refine x_get (v := .int (uC 8 0)) C hwsX00 8 mw_28 0 rfl rfl (by decide) rfl rfl dX0_orders_1 ?_
  refine x_iconst C 1 dX0_orders_4 (by decide) ?_
  refine x_icmp_eq C 27 dX0_orders_5 (by decide) (fun c1 => ?_) (fun c1 => ?_)
  · refine x_iconst C 0 dX0_orders_27 (by decide) ?_
    exact x_iret C rfl dX0_orders_28 rfl rfl
  · refine x_aload_n C dX0_orders_8 0 rfl ?_
    refine x_get (v := .int (uC 7 0)) C hwsX00 7 mw_27 0 rfl rfl (by decide) rfl rfl dX0_orders_9 ?_
    refine x_if_ne C 27 dX0_orders_12 (by decide) (fun c2 => ?_) (fun c2 => ?_)
    · refine x_aload_n C dX0_orders_15 0 rfl ?_
      refine x_get (v := .int (uC 3 0)) C hwsX00 3 mw_23 0 rfl rfl (by decide) rfl rfl dX0_orders_16 ?_
      refine x_bipush C 7 dX0_orders_19 (by decide) ?_
      refine x_cNi (As := [.int (uC 3 0), .int 7]) (ws' := wX0 cI cZ cO hC hV hW uC ++ wX4 cI cZ cO hV aV0 aV1 uV ++ wX5 cI cZ cO hW aW0 uW) C C.2.2.2.1.1 mw_36 mw_37 mw_34 hd_X6_outside rfl rfl ⟨Nat.le_of_ble_eq_true rfl, Nat.le_of_ble_eq_true rfl⟩ (c_X6_outside l D cI cZ cO  (uC 3 0) 7 ) [] [.inl 0, .inl 1, .inl 2, .inl 3, .inl 4, .inl 5] trivial rfl ⟨rfl, rfl, rfl, rfl, rfl, rfl, trivial⟩ rfl ⟨rfl, rfl, rfl, rfl, rfl, rfl, trivial⟩ rfl rfl (Nat.le_of_ble_eq_true rfl) (Nat.le_of_ble_eq_true rfl) (Nat.le_of_ble_eq_true rfl) dX0_orders_21 ?_
      refine x_if_eqZ C 29 dX0_orders_24 (by decide) (fun c3 => ?_) (fun c3 => ?_)
      · refine x_iconst C 0 dX0_orders_27 (by decide) ?_
        exact x_iret C rfl dX0_orders_28 rfl rfl
      · refine x_stg C rfl dX0_orders_29 (fun tt hT => ?_)
        refine x_aload_n C dX0_orders_32 0 rfl ?_
        refine x_get (v := .int (uC 3 0)) C hwsX00 3 mw_23 0 rfl rfl (by decide) rfl rfl dX0_orders_33 ?_
        have hst := out_nat 7 (by decide) (g := 7) rfl (by assumption : f_X6_outside (uC 3 0) 7 = false)
        refine x_top (nI (ixn (uC 3 0))) hst.1 ?_
        refine x_tald C hT (ixn (uC 3 0)) rfl (by omega) dX0_orders_36 ?_
        refine x_istore_n (L' := [(1, .int (stg (ixn (uC 3 0)))), (0, .ref hC)]) C dX0_orders_37 (by decide) rfl ?_
        refine x_aload_n C dX0_orders_38 1 rfl ?_
        refine x_get (v := .int (uC 3 0)) C hwsX00 3 mw_23 0 rfl rfl (by decide) rfl rfl dX0_orders_39 ?_
        refine x_iconst C 3 dX0_orders_42 (by decide) ?_
        refine x_join (fun (b5 : Int32) => f_X0_orders_k64 b5) 64 (fun (b5 : Int32) => [(0, .ref hC), (1, .int b5)]) (fun (b5 : Int32) => []) (fun (b5 : Int32) => wX0 cI cZ cO hC hV hW uC ++ wX4 cI cZ cO hV aV0 aV1 uV ++ wX5 cI cZ cO hW aW0 uW) (fun b5 => ?_) _ (fun J6 => ?_)
        · unfold f_X0_orders_k64
          refine x_iload_n C dX0_orders_64 1 rfl ?_
          exact x_iret C rfl dX0_orders_65 rfl rfl
        · refine x_icmp_ne C 64 dX0_orders_43 (by decide) (fun c4 => ?_) (fun c4 => ?_)
          · refine x_iload_n C dX0_orders_46 0 rfl ?_
            refine x_iconst C 1 dX0_orders_47 (by decide) ?_
            refine x_aload_n C dX0_orders_48 1 rfl ?_
            refine x_get (v := .int (uC 5 0)) C hwsX00 5 mw_25 0 rfl rfl (by decide) rfl rfl dX0_orders_49 ?_
            refine x_iconst C 1 dX0_orders_52 (by decide) ?_
            refine x_join (fun (b8 : Int32) => f_X0_orders_k61 uC b8) 61 (fun (b8 : Int32) => [(0, .ref hC), (1, .int (stg (ixn (uC 3 0))))]) (fun (b8 : Int32) => [.int b8, .int 1, .int (stg (ixn (uC 3 0)))]) (fun (b8 : Int32) => wX0 cI cZ cO hC hV hW uC ++ wX4 cI cZ cO hV aV0 aV1 uV ++ wX5 cI cZ cO hW aW0 uW) (fun b8 => ?_) _ (fun J9 => ?_)
            · unfold f_X0_orders_k61
              refine x_ishl C dX0_orders_61 ?_
              refine x_ior C dX0_orders_62 ?_
              refine x_istore_n (L' := [(1, .int ((stg (ixn (uC 3 0))) ||| (1 <<< (b8 &&& 31)))), (0, .ref hC)]) C dX0_orders_63 (by decide) rfl ?_
              refine x_lsub (L' := [(0, .ref hC), (1, .int ((stg (ixn (uC 3 0))) ||| (1 <<< (b8 &&& 31))))]) [1, 0] rfl ?_
              exact J6 ((stg (ixn (uC 3 0))) ||| (1 <<< (b8 &&& 31)))
            · refine x_icmp_ne C 60 dX0_orders_53 (by decide) (fun c7 => ?_) (fun c7 => ?_)
              · refine x_iconst C 3 dX0_orders_56 (by decide) ?_
                refine x_goto C 61 dX0_orders_57 (by decide) ?_
                refine x_lsub (L' := [(0, .ref hC), (1, .int (stg (ixn (uC 3 0))))]) [1, 0] rfl ?_
                exact J9 3
              · refine x_iconst C 4 dX0_orders_60 (by decide) ?_
                refine x_lsub (L' := [(0, .ref hC), (1, .int (stg (ixn (uC 3 0))))]) [1, 0] rfl ?_
                exact J9 4
          · refine x_lsub (L' := [(0, .ref hC), (1, .int (stg (ixn (uC 3 0))))]) [1, 0] rfl ?_
            exact J6 (stg (ixn (uC 3 0)))
    · refine x_iconst C 0 dX0_orders_27 (by decide) ?_
      exact x_iret C rfl dX0_orders_28 rfl rfl

def f_X0_fact (uC : St) (uV : St) (uW : St) (xw : Int32) : Int32 := if xw = 0 then (uC 3 0) else (if xw = 1 then (imn (uC 4 0) 99) else (if xw = 2 then (uC 5 0) else (if xw = 3 then (f_X0_orders uC uV uW) else (if xw = 4 then (uC 7 0) else (if xw = 5 then (uC 6 0) else (if xw = 6 then (uC 8 0) else (-2)))))))
theorem hd_X0_fact : yX0_fact.cls ≠ "java/lang/invoke/MethodHandle" ∧ yX0_fact.cls ≠ "java/lang/invoke/VarHandle" ∧ (parseMethodDescriptor yX0_fact.desc).map (fun d => d.parameters.length) = some 1 := by decide +kernel
set_option maxHeartbeats 4000000 in
set_option maxRecDepth 100000 in
theorem c_X0_fact (l : Launch) (D : va_G) (cI cZ cO : ClassId) (hC hV aV0 aV1 hW aW0 : Nat) (uC : St) (uV : St) (uW : St) (xw : Int32)  : CTi l D (T3 cI cZ cO) yX0_fact (Cond.code yX0_fact cX0_fact 2 (some .int) :: WA) ({ frames := 2, cells := 0, slots := 0, locals := 42 } : Room) [.ref hC, .int xw] (wX0 cI cZ cO hC hV hW uC ++ wX4 cI cZ cO hV aV0 aV1 uV ++ wX5 cI cZ cO hW aW0 uW) ((f_X0_fact uC uV uW xw)) (wX0 cI cZ cO hC hV hW uC ++ wX4 cI cZ cO hV aV0 aV1 uV ++ wX5 cI cZ cO hW aW0 uW) := by
  refine ct_i (K := fun z => z) (t := f_X0_fact uC uV uW xw) (rf := fun o => o) (wf := fun o => wX0 cI cZ cO hC hV hW uC ++ wX4 cI cZ cO hV aV0 aV1 uV ++ wX5 cI cZ cO hW aW0 uW) (own := RX0) (nm := "fact") (L0 := [(0, .ref hC), (1, .int xw)]) (plainFor_of_name (by decide +kernel)) rfl rfl (Nat.le_of_ble_eq_true rfl) rfl ?_
  intro p e s m args below meth c A C
  unfold f_X0_fact
  refine x_iload_n C dX0_fact_0 1 rfl ?_
  refine x_split (fun c1 => ?_) (fun c1 => ?_)
  · refine x_tsI C 0 44 dX0_fact_1 (i_eq c1 (by decide : (0 : Int32).toInt = 0)) (by decide) (by decide) rfl (by decide) ?_
    refine x_aload_n C dX0_fact_44 0 rfl ?_
    refine x_get (v := .int (uC 3 0)) C hwsX00 3 mw_23 0 rfl rfl (by decide) rfl rfl dX0_fact_45 ?_
    exact x_iret C rfl dX0_fact_48 rfl rfl
  · refine x_split (fun c2 => ?_) (fun c2 => ?_)
    · refine x_tsI C 1 49 dX0_fact_1 (i_eq c2 (by decide : (1 : Int32).toInt = 1)) (by decide) (by decide) rfl (by decide) ?_
      refine x_aload_n C dX0_fact_49 0 rfl ?_
      refine x_get (v := .int (uC 4 0)) C hwsX00 4 mw_24 0 rfl rfl (by decide) rfl rfl dX0_fact_50 ?_
      refine x_bipush C 99 dX0_fact_53 (by decide) ?_
      refine x_mmin C mw_39 mw_40 mw_41 mw_42 (Nat.le_of_ble_eq_true rfl) (Nat.le_of_ble_eq_true rfl) (Nat.le_of_ble_eq_true rfl) (Nat.le_of_ble_eq_true rfl) dX0_fact_55 ?_
      exact x_iret C rfl dX0_fact_58 rfl rfl
    · refine x_split (fun c3 => ?_) (fun c3 => ?_)
      · refine x_tsI C 2 59 dX0_fact_1 (i_eq c3 (by decide : (2 : Int32).toInt = 2)) (by decide) (by decide) rfl (by decide) ?_
        refine x_aload_n C dX0_fact_59 0 rfl ?_
        refine x_get (v := .int (uC 5 0)) C hwsX00 5 mw_25 0 rfl rfl (by decide) rfl rfl dX0_fact_60 ?_
        exact x_iret C rfl dX0_fact_63 rfl rfl
      · refine x_split (fun c4 => ?_) (fun c4 => ?_)
        · refine x_tsI C 3 64 dX0_fact_1 (i_eq c4 (by decide : (3 : Int32).toInt = 3)) (by decide) (by decide) rfl (by decide) ?_
          refine x_aload_n C dX0_fact_64 0 rfl ?_
          refine x_cViW (q0 := 0) (As := []) C mw_43 mw_44 mw_45 mw_46 mw_35 hd_X0_orders rfl rfl ⟨Nat.le_of_ble_eq_true rfl, Nat.le_of_ble_eq_true rfl⟩ rfl rfl rfl (c_X0_orders l D cI cZ cO hC hV aV0 aV1 hW aW0 uC uV uW ) rfl rfl (Nat.le_of_ble_eq_true rfl) (Nat.le_of_ble_eq_true rfl) (Nat.le_of_ble_eq_true rfl) dX0_fact_65 ?_
          exact x_iret C rfl dX0_fact_68 rfl rfl
        · refine x_split (fun c5 => ?_) (fun c5 => ?_)
          · refine x_tsI C 4 69 dX0_fact_1 (i_eq c5 (by decide : (4 : Int32).toInt = 4)) (by decide) (by decide) rfl (by decide) ?_
            refine x_aload_n C dX0_fact_69 0 rfl ?_
            refine x_get (v := .int (uC 7 0)) C hwsX00 7 mw_27 0 rfl rfl (by decide) rfl rfl dX0_fact_70 ?_
            exact x_iret C rfl dX0_fact_73 rfl rfl
          · refine x_split (fun c6 => ?_) (fun c6 => ?_)
            · refine x_tsI C 5 74 dX0_fact_1 (i_eq c6 (by decide : (5 : Int32).toInt = 5)) (by decide) (by decide) rfl (by decide) ?_
              refine x_aload_n C dX0_fact_74 0 rfl ?_
              refine x_get (v := .int (uC 6 0)) C hwsX00 6 mw_26 0 rfl rfl (by decide) rfl rfl dX0_fact_75 ?_
              exact x_iret C rfl dX0_fact_78 rfl rfl
            · refine x_split (fun c7 => ?_) (fun c7 => ?_)
              · refine x_tsI C 6 79 dX0_fact_1 (i_eq c7 (by decide : (6 : Int32).toInt = 6)) (by decide) (by decide) rfl (by decide) ?_
                refine x_aload_n C dX0_fact_79 0 rfl ?_
                refine x_get (v := .int (uC 8 0)) C hwsX00 8 mw_28 0 rfl rfl (by decide) rfl rfl dX0_fact_80 ?_
                exact x_iret C rfl dX0_fact_83 rfl rfl
              · refine x_tsO C 84 dX0_fact_1 (by have g0 := i_ne c1 (by decide : (0 : Int32).toInt = 0); have g1 := i_ne c2 (by decide : (1 : Int32).toInt = 1); have g2 := i_ne c3 (by decide : (2 : Int32).toInt = 2); have g3 := i_ne c4 (by decide : (3 : Int32).toInt = 3); have g4 := i_ne c5 (by decide : (4 : Int32).toInt = 4); have g5 := i_ne c6 (by decide : (5 : Int32).toInt = 5); have g6 := i_ne c7 (by decide : (6 : Int32).toInt = 6); omega) (by decide) ?_
                refine x_bipush C (-2) dX0_fact_84 (by decide) ?_
                exact x_iret C rfl dX0_fact_86 rfl rfl

def f_X0_underWay (uC : St) (uV : St) (uW : St) : Bool := if (uC 8 0) = 0 then (if (uC 7 0) = 0 then (if (uC 3 0) = 0 then (if (uV 0 0) = (uC 5 0) then false else true) else true) else false) else false
theorem hd_X0_underWay : yX0_underWay.cls ≠ "java/lang/invoke/MethodHandle" ∧ yX0_underWay.cls ≠ "java/lang/invoke/VarHandle" ∧ (parseMethodDescriptor yX0_underWay.desc).map (fun d => d.parameters.length) = some 0 := by decide +kernel
set_option maxHeartbeats 4000000 in
set_option maxRecDepth 100000 in
theorem c_X0_underWay (l : Launch) (D : va_G) (cI cZ cO : ClassId) (hC hV aV0 aV1 hW aW0 : Nat) (uC : St) (uV : St) (uW : St)  : CTi l D (T3 cI cZ cO) yX0_underWay (Cond.code yX0_underWay cX0_underWay 1 (some .boolean) :: WA) ({ frames := 0, cells := 0, slots := 0, locals := 0 } : Room) [.ref hC] (wX0 cI cZ cO hC hV hW uC ++ wX4 cI cZ cO hV aV0 aV1 uV ++ wX5 cI cZ cO hW aW0 uW) (b2i (f_X0_underWay uC uV uW)) (wX0 cI cZ cO hC hV hW uC ++ wX4 cI cZ cO hV aV0 aV1 uV ++ wX5 cI cZ cO hW aW0 uW) := by
  refine ct_i (K := fun z => z) (t := f_X0_underWay uC uV uW) (rf := fun o => b2i o) (wf := fun o => wX0 cI cZ cO hC hV hW uC ++ wX4 cI cZ cO hV aV0 aV1 uV ++ wX5 cI cZ cO hW aW0 uW) (own := RX0) (nm := "underWay") (L0 := [(0, .ref hC)]) (plainFor_of_name (by decide +kernel)) rfl rfl (Nat.le_of_ble_eq_true rfl) rfl ?_
  intro p e s m args below meth c A C
  unfold f_X0_underWay
  refine x_aload_n C dX0_underWay_0 0 rfl ?_
  refine x_get (v := .int (uC 8 0)) C hwsX00 8 mw_28 0 rfl rfl (by decide) rfl rfl dX0_underWay_1 ?_
  refine x_if_ne C 41 dX0_underWay_4 (by decide) (fun c1 => ?_) (fun c1 => ?_)
  · refine x_aload_n C dX0_underWay_7 0 rfl ?_
    refine x_get (v := .int (uC 7 0)) C hwsX00 7 mw_27 0 rfl rfl (by decide) rfl rfl dX0_underWay_8 ?_
    refine x_if_ne C 41 dX0_underWay_11 (by decide) (fun c2 => ?_) (fun c2 => ?_)
    · refine x_aload_n C dX0_underWay_14 0 rfl ?_
      refine x_get (v := .int (uC 3 0)) C hwsX00 3 mw_23 0 rfl rfl (by decide) rfl rfl dX0_underWay_15 ?_
      refine x_if_ne C 37 dX0_underWay_18 (by decide) (fun c3 => ?_) (fun c3 => ?_)
      · refine x_aload_n C dX0_underWay_21 0 rfl ?_
        refine x_get (v := .ref hV) C hwsX00 1 mw_18 0 rfl rfl (by decide) rfl rfl dX0_underWay_22 ?_
        refine x_get (v := .ref aV0) C hwsX40 0 mw_48 1 rfl rfl (by decide) rfl rfl dX0_underWay_25 ?_
        refine x_iconst C 0 dX0_underWay_28 (by decide) ?_
        refine x_iald C 2 0 rfl rfl 0 rfl (by omega) (by decide) (uV 0 0) rfl dX0_underWay_29 ?_
        refine x_aload_n C dX0_underWay_30 0 rfl ?_
        refine x_get (v := .int (uC 5 0)) C hwsX00 5 mw_25 0 rfl rfl (by decide) rfl rfl dX0_underWay_31 ?_
        refine x_icmp_eq C 41 dX0_underWay_34 (by decide) (fun c4 => ?_) (fun c4 => ?_)
        · refine x_iconst C 0 dX0_underWay_41 (by decide) ?_
          exact x_zret C rfl (by decide) dX0_underWay_42 rfl rfl
        · refine x_iconst C 1 dX0_underWay_37 (by decide) ?_
          refine x_goto C 42 dX0_underWay_38 (by decide) ?_
          exact x_zret C rfl (by decide) dX0_underWay_42 rfl rfl
      · refine x_iconst C 1 dX0_underWay_37 (by decide) ?_
        refine x_goto C 42 dX0_underWay_38 (by decide) ?_
        exact x_zret C rfl (by decide) dX0_underWay_42 rfl rfl
    · refine x_iconst C 0 dX0_underWay_41 (by decide) ?_
      exact x_zret C rfl (by decide) dX0_underWay_42 rfl rfl
  · refine x_iconst C 0 dX0_underWay_41 (by decide) ?_
    exact x_zret C rfl (by decide) dX0_underWay_42 rfl rfl

def f_X0_shows_k92 (b8 : Bool) (b10 : Int32) (b12 : Int32) : Int32 := ((b2i b8) ||| b10) ||| b12
def f_X0_shows_k79 (uC : St) (b8 : Bool) (b10 : Int32) : Int32 := f_X0_shows_k92 b8 b10 (if (uC 7 0) = 0 then 0 else 4)
def f_X0_shows_k70 (uC : St) (b6 : Bool) (b8 : Bool) : Int32 := f_X0_shows_k79 uC b8 (if b6 = true then 2 else 0)
def f_X0_shows_k46 (uC : St) (uV : St) (b6 : Bool) : Int32 := f_X0_shows_k70 uC b6 (if (f_X4_allSeen uV 9) = true then true else false)
def f_X0_shows_k46_2 (uC : St) (uV : St) (b4 : Bool) : Int32 := f_X0_shows_k46 uC uV (if b4 = true then true else (if (f_X4_isSeen uV 11) = true then false else (if (f_X4_isSeen uV 14) = true then false else true)))
def f_X0_shows_k46_3 (uC : St) (uV : St) (b2 : Bool) : Int32 := f_X0_shows_k46_2 uC uV (if b2 = true then true else (if (f_X4_isSeen uV 10) = true then false else (if (f_X4_isSeen uV 13) = true then false else true)))
def f_X0_shows (uC : St) (uV : St) (uW : St) : Int32 := f_X0_shows_k46_3 uC uV (if (f_X4_isSeen uV 9) = true then false else (if (f_X4_isSeen uV 12) = true then false else true))
theorem hd_X0_shows : yX0_shows.cls ≠ "java/lang/invoke/MethodHandle" ∧ yX0_shows.cls ≠ "java/lang/invoke/VarHandle" ∧ (parseMethodDescriptor yX0_shows.desc).map (fun d => d.parameters.length) = some 0 := by decide +kernel
set_option maxHeartbeats 4000000 in
set_option maxRecDepth 100000 in
theorem c_X0_shows (l : Launch) (D : va_G) (cI cZ cO : ClassId) (hC hV aV0 aV1 hW aW0 : Nat) (uC : St) (uV : St) (uW : St)  : CTi l D (T3 cI cZ cO) yX0_shows (Cond.code yX0_shows cX0_shows 3 (some .int) :: WA) ({ frames := 1, cells := 0, slots := 0, locals := 21 } : Room) [.ref hC] (wX0 cI cZ cO hC hV hW uC ++ wX4 cI cZ cO hV aV0 aV1 uV ++ wX5 cI cZ cO hW aW0 uW) ((f_X0_shows uC uV uW)) (wX0 cI cZ cO hC hV hW uC ++ wX4 cI cZ cO hV aV0 aV1 uV ++ wX5 cI cZ cO hW aW0 uW) := by
  refine ct_i (K := fun z => z) (t := f_X0_shows uC uV uW) (rf := fun o => o) (wf := fun o => wX0 cI cZ cO hC hV hW uC ++ wX4 cI cZ cO hV aV0 aV1 uV ++ wX5 cI cZ cO hW aW0 uW) (own := RX0) (nm := "shows") (L0 := [(0, .ref hC)]) (plainFor_of_name (by decide +kernel)) rfl rfl (Nat.le_of_ble_eq_true rfl) rfl ?_
  intro p e s m args below meth c A C
  unfold f_X0_shows
  refine x_iconst C 0 dX0_shows_0 (by decide) ?_
  refine x_istore_n (L' := [(1, .int 0), (0, .ref hC)]) C dX0_shows_1 (by decide) rfl ?_
  refine x_iconst C 0 dX0_shows_2 (by decide) ?_
  refine x_istore_n (L' := [(2, .int 0), (1, .int 0), (0, .ref hC)]) C dX0_shows_3 (by decide) rfl ?_
  refine x_iload_n C dX0_shows_4 0 rfl ?_
  refine x_iconst C 3 dX0_shows_5 (by decide) ?_
  refine x_icmp_ge_f C 53 dX0_shows_6 (by decide) (by decide) ?_
  refine x_iload_n C dX0_shows_9 1 rfl ?_
  refine x_if_ne_f C 41 dX0_shows_10 (by decide) (by decide) ?_
  refine x_aload_n C dX0_shows_13 2 rfl ?_
  refine x_get (v := .ref hV) C hwsX00 1 mw_18 0 rfl rfl (by decide) rfl rfl dX0_shows_14 ?_
  refine x_bipush C 9 dX0_shows_17 (by decide) ?_
  refine x_iload_n C dX0_shows_19 0 rfl ?_
  refine x_iadd C dX0_shows_20 ?_
  refine x_top 9 (by decide) ?_
  refine x_cVi (q0 := 1) (As := [.int 9]) (ws' := wX0 cI cZ cO hC hV hW uC ++ wX4 cI cZ cO hV aV0 aV1 uV ++ wX5 cI cZ cO hW aW0 uW) C mw_52 mw_53 mw_54 mw_17 mw_49 hd_X4_isSeen rfl rfl ⟨Nat.le_of_ble_eq_true rfl, Nat.le_of_ble_eq_true rfl⟩ rfl rfl rfl (c_X4_isSeen l D cI cZ cO hV aV0 aV1 uV 9 (by omega)) [1, 2, 3] [.inl 0, .inr 0, .inr 1, .inr 2, .inl 4, .inl 5] ⟨rfl, rfl, rfl, trivial⟩ rfl ⟨rfl, rfl, rfl, rfl, rfl, rfl, trivial⟩ rfl ⟨rfl, rfl, rfl, rfl, rfl, rfl, trivial⟩ rfl rfl (Nat.le_of_ble_eq_true rfl) (Nat.le_of_ble_eq_true rfl) (Nat.le_of_ble_eq_true rfl) dX0_shows_21 ?_
  refine x_join (fun (b2 : Bool) => f_X0_shows_k46_3 uC uV b2) 46 (fun (b2 : Bool) => [(0, .ref hC), (1, .int 0), (2, .int 0)]) (fun (b2 : Bool) => [.int (b2i b2)]) (fun (b2 : Bool) => wX0 cI cZ cO hC hV hW uC ++ wX4 cI cZ cO hV aV0 aV1 uV ++ wX5 cI cZ cO hW aW0 uW) (fun b2 => ?_) _ (fun J22 => ?_)
  · unfold f_X0_shows_k46_3
    refine x_istore_n (L' := [(1, .int (b2i b2)), (0, .ref hC), (2, .int 0)]) C dX0_shows_46 (by decide) rfl ?_
    refine x_iinc (L' := [(2, .int 1), (1, .int (b2i b2)), (0, .ref hC)]) C 1 dX0_shows_47 2 rfl (by decide) (by decide) rfl ?_
    refine x_goto C 4 dX0_shows_50 (by decide) ?_
    refine x_iload_n C dX0_shows_4 0 rfl ?_
    refine x_iconst C 3 dX0_shows_5 (by decide) ?_
    refine x_icmp_ge_f C 53 dX0_shows_6 (by decide) (by decide) ?_
    refine x_iload_n C dX0_shows_9 1 rfl ?_
    refine x_join (fun (b4 : Bool) => f_X0_shows_k46_2 uC uV b4) 46 (fun (b4 : Bool) => [(0, .ref hC), (1, .int (b2i b2)), (2, .int 1)]) (fun (b4 : Bool) => [.int (b2i b4)]) (fun (b4 : Bool) => wX0 cI cZ cO hC hV hW uC ++ wX4 cI cZ cO hV aV0 aV1 uV ++ wX5 cI cZ cO hW aW0 uW) (fun b4 => ?_) _ (fun J19 => ?_)
    · unfold f_X0_shows_k46_2
      refine x_istore_n (L' := [(1, .int (b2i b4)), (0, .ref hC), (2, .int 1)]) C dX0_shows_46 (by decide) rfl ?_
      refine x_iinc (L' := [(2, .int 2), (1, .int (b2i b4)), (0, .ref hC)]) C 2 dX0_shows_47 2 rfl (by decide) (by decide) rfl ?_
      refine x_goto C 4 dX0_shows_50 (by decide) ?_
      refine x_iload_n C dX0_shows_4 0 rfl ?_
      refine x_iconst C 3 dX0_shows_5 (by decide) ?_
      refine x_icmp_ge_f C 53 dX0_shows_6 (by decide) (by decide) ?_
      refine x_iload_n C dX0_shows_9 1 rfl ?_
      refine x_join (fun (b6 : Bool) => f_X0_shows_k46 uC uV b6) 46 (fun (b6 : Bool) => [(0, .ref hC), (1, .int (b2i b4)), (2, .int 2)]) (fun (b6 : Bool) => [.int (b2i b6)]) (fun (b6 : Bool) => wX0 cI cZ cO hC hV hW uC ++ wX4 cI cZ cO hV aV0 aV1 uV ++ wX5 cI cZ cO hW aW0 uW) (fun b6 => ?_) _ (fun J16 => ?_)
      · unfold f_X0_shows_k46
        refine x_istore_n (L' := [(1, .int (b2i b6)), (0, .ref hC), (2, .int 2)]) C dX0_shows_46 (by decide) rfl ?_
        refine x_iinc (L' := [(2, .int 3), (1, .int (b2i b6)), (0, .ref hC)]) C 3 dX0_shows_47 2 rfl (by decide) (by decide) rfl ?_
        refine x_goto C 4 dX0_shows_50 (by decide) ?_
        refine x_iload_n C dX0_shows_4 0 rfl ?_
        refine x_iconst C 3 dX0_shows_5 (by decide) ?_
        refine x_icmp_ge_t C 53 dX0_shows_6 (by decide) (by decide) ?_
        refine x_aload_n C dX0_shows_53 2 rfl ?_
        refine x_get (v := .ref hV) C hwsX00 1 mw_18 0 rfl rfl (by decide) rfl rfl dX0_shows_54 ?_
        refine x_bipush C 9 dX0_shows_57 (by decide) ?_
        refine x_cVi (q0 := 1) (As := [.int 9]) (ws' := wX0 cI cZ cO hC hV hW uC ++ wX4 cI cZ cO hV aV0 aV1 uV ++ wX5 cI cZ cO hW aW0 uW) C mw_55 mw_56 mw_57 mw_17 mw_50 hd_X4_allSeen rfl rfl ⟨Nat.le_of_ble_eq_true rfl, Nat.le_of_ble_eq_true rfl⟩ rfl rfl rfl (c_X4_allSeen l D cI cZ cO hV aV0 aV1 uV 9 (by omega)) [1, 2, 3] [.inl 0, .inr 0, .inr 1, .inr 2, .inl 4, .inl 5] ⟨rfl, rfl, rfl, trivial⟩ rfl ⟨rfl, rfl, rfl, rfl, rfl, rfl, trivial⟩ rfl ⟨rfl, rfl, rfl, rfl, rfl, rfl, trivial⟩ rfl rfl (Nat.le_of_ble_eq_true rfl) (Nat.le_of_ble_eq_true rfl) (Nat.le_of_ble_eq_true rfl) dX0_shows_59 ?_
        refine x_join (fun (b8 : Bool) => f_X0_shows_k70 uC b6 b8) 70 (fun (b8 : Bool) => [(0, .ref hC), (1, .int (b2i b6)), (2, .int 3)]) (fun (b8 : Bool) => [.int (b2i b8)]) (fun (b8 : Bool) => wX0 cI cZ cO hC hV hW uC ++ wX4 cI cZ cO hV aV0 aV1 uV ++ wX5 cI cZ cO hW aW0 uW) (fun b8 => ?_) _ (fun J15 => ?_)
        · unfold f_X0_shows_k70
          refine x_iload_n C dX0_shows_70 1 rfl ?_
          refine x_join (fun (b10 : Int32) => f_X0_shows_k79 uC b8 b10) 79 (fun (b10 : Int32) => [(0, .ref hC), (1, .int (b2i b6)), (2, .int 3)]) (fun (b10 : Int32) => [.int b10, .int (b2i b8)]) (fun (b10 : Int32) => wX0 cI cZ cO hC hV hW uC ++ wX4 cI cZ cO hV aV0 aV1 uV ++ wX5 cI cZ cO hW aW0 uW) (fun b10 => ?_) _ (fun J14 => ?_)
          · unfold f_X0_shows_k79
            refine x_ior C dX0_shows_79 ?_
            refine x_aload_n C dX0_shows_80 0 rfl ?_
            refine x_get (v := .int (uC 7 0)) C hwsX00 7 mw_27 0 rfl rfl (by decide) rfl rfl dX0_shows_81 ?_
            refine x_join (fun (b12 : Int32) => f_X0_shows_k92 b8 b10 b12) 92 (fun (b12 : Int32) => [(0, .ref hC), (1, .int (b2i b6)), (2, .int 3)]) (fun (b12 : Int32) => [.int b12, .int ((b2i b8) ||| b10)]) (fun (b12 : Int32) => wX0 cI cZ cO hC hV hW uC ++ wX4 cI cZ cO hV aV0 aV1 uV ++ wX5 cI cZ cO hW aW0 uW) (fun b12 => ?_) _ (fun J13 => ?_)
            · unfold f_X0_shows_k92
              refine x_ior C dX0_shows_92 ?_
              exact x_iret C rfl dX0_shows_93 rfl rfl
            · refine x_if_eq C 91 dX0_shows_84 (by decide) (fun c11 => ?_) (fun c11 => ?_)
              · refine x_iconst C 0 dX0_shows_91 (by decide) ?_
                exact J13 0
              · refine x_iconst C 4 dX0_shows_87 (by decide) ?_
                refine x_goto C 92 dX0_shows_88 (by decide) ?_
                exact J13 4
          · refine x_if_eqZ C 78 dX0_shows_71 (by decide) (fun c9 => ?_) (fun c9 => ?_)
            · refine x_iconst C 2 dX0_shows_74 (by decide) ?_
              refine x_goto C 79 dX0_shows_75 (by decide) ?_
              exact J14 2
            · refine x_iconst C 0 dX0_shows_78 (by decide) ?_
              exact J14 0
        · refine x_if_eqZ C 69 dX0_shows_62 (by decide) (fun c7 => ?_) (fun c7 => ?_)
          · refine x_iconst C 1 dX0_shows_65 (by decide) ?_
            refine x_goto C 70 dX0_shows_66 (by decide) ?_
            refine x_lsub (L' := [(0, .ref hC), (1, .int (b2i b6)), (2, .int 3)]) [2, 1, 0] rfl ?_
            exact J15 true
          · refine x_iconst C 0 dX0_shows_69 (by decide) ?_
            refine x_lsub (L' := [(0, .ref hC), (1, .int (b2i b6)), (2, .int 3)]) [2, 1, 0] rfl ?_
            exact J15 false
      · refine x_if_neZ C 41 dX0_shows_10 (by decide) (fun c5 => ?_) (fun c5 => ?_)
        · refine x_iconst C 1 dX0_shows_41 (by decide) ?_
          refine x_goto C 46 dX0_shows_42 (by decide) ?_
          refine x_lsub (L' := [(0, .ref hC), (1, .int (b2i b4)), (2, .int 2)]) [2, 1, 0] rfl ?_
          exact J16 true
        · refine x_aload_n C dX0_shows_13 2 rfl ?_
          refine x_get (v := .ref hV) C hwsX00 1 mw_18 0 rfl rfl (by decide) rfl rfl dX0_shows_14 ?_
          refine x_bipush C 9 dX0_shows_17 (by decide) ?_
          refine x_iload_n C dX0_shows_19 0 rfl ?_
          refine x_iadd C dX0_shows_20 ?_
          refine x_top 11 (by decide) ?_
          refine x_cVi (q0 := 1) (As := [.int 11]) (ws' := wX0 cI cZ cO hC hV hW uC ++ wX4 cI cZ cO hV aV0 aV1 uV ++ wX5 cI cZ cO hW aW0 uW) C mw_52 mw_53 mw_54 mw_17 mw_49 hd_X4_isSeen rfl rfl ⟨Nat.le_of_ble_eq_true rfl, Nat.le_of_ble_eq_true rfl⟩ rfl rfl rfl (c_X4_isSeen l D cI cZ cO hV aV0 aV1 uV 11 (by omega)) [1, 2, 3] [.inl 0, .inr 0, .inr 1, .inr 2, .inl 4, .inl 5] ⟨rfl, rfl, rfl, trivial⟩ rfl ⟨rfl, rfl, rfl, rfl, rfl, rfl, trivial⟩ rfl ⟨rfl, rfl, rfl, rfl, rfl, rfl, trivial⟩ rfl rfl (Nat.le_of_ble_eq_true rfl) (Nat.le_of_ble_eq_true rfl) (Nat.le_of_ble_eq_true rfl) dX0_shows_21 ?_
          refine x_if_neZ C 45 dX0_shows_24 (by decide) (fun c17 => ?_) (fun c17 => ?_)
          · refine x_iconst C 0 dX0_shows_45 (by decide) ?_
            refine x_lsub (L' := [(0, .ref hC), (1, .int (b2i b4)), (2, .int 2)]) [2, 1, 0] rfl ?_
            exact J16 false
          · refine x_aload_n C dX0_shows_27 2 rfl ?_
            refine x_get (v := .ref hV) C hwsX00 1 mw_18 0 rfl rfl (by decide) rfl rfl dX0_shows_28 ?_
            refine x_bipush C 12 dX0_shows_31 (by decide) ?_
            refine x_iload_n C dX0_shows_33 0 rfl ?_
            refine x_iadd C dX0_shows_34 ?_
            refine x_top 14 (by decide) ?_
            refine x_cVi (q0 := 1) (As := [.int 14]) (ws' := wX0 cI cZ cO hC hV hW uC ++ wX4 cI cZ cO hV aV0 aV1 uV ++ wX5 cI cZ cO hW aW0 uW) C mw_52 mw_53 mw_54 mw_17 mw_49 hd_X4_isSeen rfl rfl ⟨Nat.le_of_ble_eq_true rfl, Nat.le_of_ble_eq_true rfl⟩ rfl rfl rfl (c_X4_isSeen l D cI cZ cO hV aV0 aV1 uV 14 (by omega)) [1, 2, 3] [.inl 0, .inr 0, .inr 1, .inr 2, .inl 4, .inl 5] ⟨rfl, rfl, rfl, trivial⟩ rfl ⟨rfl, rfl, rfl, rfl, rfl, rfl, trivial⟩ rfl ⟨rfl, rfl, rfl, rfl, rfl, rfl, trivial⟩ rfl rfl (Nat.le_of_ble_eq_true rfl) (Nat.le_of_ble_eq_true rfl) (Nat.le_of_ble_eq_true rfl) dX0_shows_35 ?_
            refine x_if_neZ C 45 dX0_shows_38 (by decide) (fun c18 => ?_) (fun c18 => ?_)
            · refine x_iconst C 0 dX0_shows_45 (by decide) ?_
              refine x_lsub (L' := [(0, .ref hC), (1, .int (b2i b4)), (2, .int 2)]) [2, 1, 0] rfl ?_
              exact J16 false
            · refine x_iconst C 1 dX0_shows_41 (by decide) ?_
              refine x_goto C 46 dX0_shows_42 (by decide) ?_
              refine x_lsub (L' := [(0, .ref hC), (1, .int (b2i b4)), (2, .int 2)]) [2, 1, 0] rfl ?_
              exact J16 true
    · refine x_if_neZ C 41 dX0_shows_10 (by decide) (fun c3 => ?_) (fun c3 => ?_)
      · refine x_iconst C 1 dX0_shows_41 (by decide) ?_
        refine x_goto C 46 dX0_shows_42 (by decide) ?_
        refine x_lsub (L' := [(0, .ref hC), (1, .int (b2i b2)), (2, .int 1)]) [2, 1, 0] rfl ?_
        exact J19 true
      · refine x_aload_n C dX0_shows_13 2 rfl ?_
        refine x_get (v := .ref hV) C hwsX00 1 mw_18 0 rfl rfl (by decide) rfl rfl dX0_shows_14 ?_
        refine x_bipush C 9 dX0_shows_17 (by decide) ?_
        refine x_iload_n C dX0_shows_19 0 rfl ?_
        refine x_iadd C dX0_shows_20 ?_
        refine x_top 10 (by decide) ?_
        refine x_cVi (q0 := 1) (As := [.int 10]) (ws' := wX0 cI cZ cO hC hV hW uC ++ wX4 cI cZ cO hV aV0 aV1 uV ++ wX5 cI cZ cO hW aW0 uW) C mw_52 mw_53 mw_54 mw_17 mw_49 hd_X4_isSeen rfl rfl ⟨Nat.le_of_ble_eq_true rfl, Nat.le_of_ble_eq_true rfl⟩ rfl rfl rfl (c_X4_isSeen l D cI cZ cO hV aV0 aV1 uV 10 (by omega)) [1, 2, 3] [.inl 0, .inr 0, .inr 1, .inr 2, .inl 4, .inl 5] ⟨rfl, rfl, rfl, trivial⟩ rfl ⟨rfl, rfl, rfl, rfl, rfl, rfl, trivial⟩ rfl ⟨rfl, rfl, rfl, rfl, rfl, rfl, trivial⟩ rfl rfl (Nat.le_of_ble_eq_true rfl) (Nat.le_of_ble_eq_true rfl) (Nat.le_of_ble_eq_true rfl) dX0_shows_21 ?_
        refine x_if_neZ C 45 dX0_shows_24 (by decide) (fun c20 => ?_) (fun c20 => ?_)
        · refine x_iconst C 0 dX0_shows_45 (by decide) ?_
          refine x_lsub (L' := [(0, .ref hC), (1, .int (b2i b2)), (2, .int 1)]) [2, 1, 0] rfl ?_
          exact J19 false
        · refine x_aload_n C dX0_shows_27 2 rfl ?_
          refine x_get (v := .ref hV) C hwsX00 1 mw_18 0 rfl rfl (by decide) rfl rfl dX0_shows_28 ?_
          refine x_bipush C 12 dX0_shows_31 (by decide) ?_
          refine x_iload_n C dX0_shows_33 0 rfl ?_
          refine x_iadd C dX0_shows_34 ?_
          refine x_top 13 (by decide) ?_
          refine x_cVi (q0 := 1) (As := [.int 13]) (ws' := wX0 cI cZ cO hC hV hW uC ++ wX4 cI cZ cO hV aV0 aV1 uV ++ wX5 cI cZ cO hW aW0 uW) C mw_52 mw_53 mw_54 mw_17 mw_49 hd_X4_isSeen rfl rfl ⟨Nat.le_of_ble_eq_true rfl, Nat.le_of_ble_eq_true rfl⟩ rfl rfl rfl (c_X4_isSeen l D cI cZ cO hV aV0 aV1 uV 13 (by omega)) [1, 2, 3] [.inl 0, .inr 0, .inr 1, .inr 2, .inl 4, .inl 5] ⟨rfl, rfl, rfl, trivial⟩ rfl ⟨rfl, rfl, rfl, rfl, rfl, rfl, trivial⟩ rfl ⟨rfl, rfl, rfl, rfl, rfl, rfl, trivial⟩ rfl rfl (Nat.le_of_ble_eq_true rfl) (Nat.le_of_ble_eq_true rfl) (Nat.le_of_ble_eq_true rfl) dX0_shows_35 ?_
          refine x_if_neZ C 45 dX0_shows_38 (by decide) (fun c21 => ?_) (fun c21 => ?_)
          · refine x_iconst C 0 dX0_shows_45 (by decide) ?_
            refine x_lsub (L' := [(0, .ref hC), (1, .int (b2i b2)), (2, .int 1)]) [2, 1, 0] rfl ?_
            exact J19 false
          · refine x_iconst C 1 dX0_shows_41 (by decide) ?_
            refine x_goto C 46 dX0_shows_42 (by decide) ?_
            refine x_lsub (L' := [(0, .ref hC), (1, .int (b2i b2)), (2, .int 1)]) [2, 1, 0] rfl ?_
            exact J19 true
  · refine x_if_neZ C 45 dX0_shows_24 (by decide) (fun c1 => ?_) (fun c1 => ?_)
    · refine x_iconst C 0 dX0_shows_45 (by decide) ?_
      refine x_lsub (L' := [(0, .ref hC), (1, .int 0), (2, .int 0)]) [2, 1, 0] rfl ?_
      exact J22 false
    · refine x_aload_n C dX0_shows_27 2 rfl ?_
      refine x_get (v := .ref hV) C hwsX00 1 mw_18 0 rfl rfl (by decide) rfl rfl dX0_shows_28 ?_
      refine x_bipush C 12 dX0_shows_31 (by decide) ?_
      refine x_iload_n C dX0_shows_33 0 rfl ?_
      refine x_iadd C dX0_shows_34 ?_
      refine x_top 12 (by decide) ?_
      refine x_cVi (q0 := 1) (As := [.int 12]) (ws' := wX0 cI cZ cO hC hV hW uC ++ wX4 cI cZ cO hV aV0 aV1 uV ++ wX5 cI cZ cO hW aW0 uW) C mw_52 mw_53 mw_54 mw_17 mw_49 hd_X4_isSeen rfl rfl ⟨Nat.le_of_ble_eq_true rfl, Nat.le_of_ble_eq_true rfl⟩ rfl rfl rfl (c_X4_isSeen l D cI cZ cO hV aV0 aV1 uV 12 (by omega)) [1, 2, 3] [.inl 0, .inr 0, .inr 1, .inr 2, .inl 4, .inl 5] ⟨rfl, rfl, rfl, trivial⟩ rfl ⟨rfl, rfl, rfl, rfl, rfl, rfl, trivial⟩ rfl ⟨rfl, rfl, rfl, rfl, rfl, rfl, trivial⟩ rfl rfl (Nat.le_of_ble_eq_true rfl) (Nat.le_of_ble_eq_true rfl) (Nat.le_of_ble_eq_true rfl) dX0_shows_35 ?_
      refine x_if_neZ C 45 dX0_shows_38 (by decide) (fun c23 => ?_) (fun c23 => ?_)
      · refine x_iconst C 0 dX0_shows_45 (by decide) ?_
        refine x_lsub (L' := [(0, .ref hC), (1, .int 0), (2, .int 0)]) [2, 1, 0] rfl ?_
        exact J22 false
      · refine x_iconst C 1 dX0_shows_41 (by decide) ?_
        refine x_goto C 46 dX0_shows_42 (by decide) ?_
        refine x_lsub (L' := [(0, .ref hC), (1, .int 0), (2, .int 0)]) [2, 1, 0] rfl ?_
        exact J22 true

def f_X0_come_k13 (xn : Int32) (b2 : St) : St := put (put b2 3 0 xn) 4 0 0
def f_X0_come (uC : St) (uV : St) (uW : St) (xn : Int32) : St := f_X0_come_k13 xn (if (uC 3 0) = 5 then (put uC 6 0 0) else uC)
theorem hd_X0_come : yX0_come.cls ≠ "java/lang/invoke/MethodHandle" ∧ yX0_come.cls ≠ "java/lang/invoke/VarHandle" ∧ (parseMethodDescriptor yX0_come.desc).map (fun d => d.parameters.length) = some 1 := by decide +kernel
set_option maxHeartbeats 4000000 in
set_option maxRecDepth 100000 in
theorem c_X0_come (l : Launch) (D : va_G) (cI cZ cO : ClassId) (hC hV aV0 aV1 hW aW0 : Nat) (uC : St) (uV : St) (uW : St) (xn : Int32)  : CTv l D (T3 cI cZ cO) yX0_come (Cond.code yX0_come cX0_come 2 none :: WA) ({ frames := 0, cells := 0, slots := 0, locals := 0 } : Room) [.ref hC, .int xn] (wX0 cI cZ cO hC hV hW uC ++ wX4 cI cZ cO hV aV0 aV1 uV ++ wX5 cI cZ cO hW aW0 uW) (wX0 cI cZ cO hC hV hW (f_X0_come uC uV uW xn) ++ wX4 cI cZ cO hV aV0 aV1 uV ++ wX5 cI cZ cO hW aW0 uW) := by
  refine ct_v (K := fun z => z) (t := f_X0_come uC uV uW xn) (wf := fun o => wX0 cI cZ cO hC hV hW o ++ wX4 cI cZ cO hV aV0 aV1 uV ++ wX5 cI cZ cO hW aW0 uW) (own := RX0) (nm := "come") (L0 := [(0, .ref hC), (1, .int xn)]) (plainFor_of_name (by decide +kernel)) rfl rfl (Nat.le_of_ble_eq_true rfl) rfl ?_
  intro p e s m args below meth c A C
  unfold f_X0_come
  refine x_aload_n C dX0_come_0 0 rfl ?_
  refine x_get (v := .int (uC 3 0)) C hwsX00 3 mw_23 0 rfl rfl (by decide) rfl rfl dX0_come_1 ?_
  refine x_iconst C 5 dX0_come_4 (by decide) ?_
  refine x_join (fun (b2 : St) => f_X0_come_k13 xn b2) 13 (fun (b2 : St) => [(0, .ref hC), (1, .int xn)]) (fun (b2 : St) => []) (fun (b2 : St) => wX0 cI cZ cO hC hV hW b2 ++ wX4 cI cZ cO hV aV0 aV1 uV ++ wX5 cI cZ cO hW aW0 uW) (fun b2 => ?_) _ (fun J3 => ?_)
  · unfold f_X0_come_k13
    refine x_aload_n C dX0_come_13 0 rfl ?_
    refine x_iload_n C dX0_come_14 1 rfl ?_
    refine x_put (ws' := wX0 cI cZ cO hC hV hW (put b2 3 0 xn) ++ wX4 cI cZ cO hV aV0 aV1 uV ++ wX5 cI cZ cO hW aW0 uW) C hwsX00 tyX0 tyX0_ok nmX0 3 mw_23 0 rfl rfl (by decide) rfl rfl rfl rfl (Nat.le_of_ble_eq_true rfl) dX0_come_15 rfl ?_
    refine x_aload_n C dX0_come_18 0 rfl ?_
    refine x_iconst C 0 dX0_come_19 (by decide) ?_
    refine x_put (ws' := wX0 cI cZ cO hC hV hW (put (put b2 3 0 xn) 4 0 0) ++ wX4 cI cZ cO hV aV0 aV1 uV ++ wX5 cI cZ cO hW aW0 uW) C hwsX00 tyX0 tyX0_ok nmX0 4 mw_24 0 rfl rfl (by decide) rfl rfl rfl rfl (Nat.le_of_ble_eq_true rfl) dX0_come_20 rfl ?_
    exact x_vret C rfl dX0_come_23 rfl
  · refine x_icmp_ne C 13 dX0_come_5 (by decide) (fun c1 => ?_) (fun c1 => ?_)
    · refine x_aload_n C dX0_come_8 0 rfl ?_
      refine x_iconst C 0 dX0_come_9 (by decide) ?_
      refine x_put (ws' := wX0 cI cZ cO hC hV hW (put uC 6 0 0) ++ wX4 cI cZ cO hV aV0 aV1 uV ++ wX5 cI cZ cO hW aW0 uW) C hwsX00 tyX0 tyX0_ok nmX0 6 mw_26 0 rfl rfl (by decide) rfl rfl rfl rfl (Nat.le_of_ble_eq_true rfl) dX0_come_10 rfl ?_
      exact J3 (put uC 6 0 0)
    · exact J3 uC

def f_X0_turn (uC : St) (uV : St) (uW : St) : Int32 × St := if (uC 3 0) = 0 then (1, put uC 5 0 (uV 0 0)) else (if (uC 3 0) = 1 then (uC 3 0, put uC 5 0 (uV 0 0)) else (if (uC 3 0) = 2 then (uC 3 0, put uC 5 0 (uV 0 0)) else (if (uC 3 0) = 3 then (4, put uC 5 0 (uV 0 0)) else (if (uC 3 0) = 4 then (uC 3 0, put uC 5 0 (uV 0 0)) else (if (uC 3 0) = 5 then (5, put (put uC 5 0 (uV 0 0)) 6 0 1) else (if (uC 3 0) = 6 then (5, put (put uC 5 0 (uV 0 0)) 6 0 1) else (if (uC 3 0) = 7 then (5, put (put uC 5 0 (uV 0 0)) 6 0 1) else (uC 3 0, put uC 5 0 (uV 0 0)))))))))
theorem hd_X0_turn : yX0_turn.cls ≠ "java/lang/invoke/MethodHandle" ∧ yX0_turn.cls ≠ "java/lang/invoke/VarHandle" ∧ (parseMethodDescriptor yX0_turn.desc).map (fun d => d.parameters.length) = some 0 := by decide +kernel
set_option maxHeartbeats 4000000 in
set_option maxRecDepth 100000 in
theorem c_X0_turn (l : Launch) (D : va_G) (cI cZ cO : ClassId) (hC hV aV0 aV1 hW aW0 : Nat) (uC : St) (uV : St) (uW : St)  : CTi l D (T3 cI cZ cO) yX0_turn (Cond.code yX0_turn cX0_turn 1 (some .int) :: WA) ({ frames := 0, cells := 0, slots := 0, locals := 0 } : Room) [.ref hC] (wX0 cI cZ cO hC hV hW uC ++ wX4 cI cZ cO hV aV0 aV1 uV ++ wX5 cI cZ cO hW aW0 uW) ((f_X0_turn uC uV uW).1) (wX0 cI cZ cO hC hV hW (f_X0_turn uC uV uW).2 ++ wX4 cI cZ cO hV aV0 aV1 uV ++ wX5 cI cZ cO hW aW0 uW) := by
  refine ct_i (K := fun z => z) (t := f_X0_turn uC uV uW) (rf := fun o => o.1) (wf := fun o => wX0 cI cZ cO hC hV hW o.2 ++ wX4 cI cZ cO hV aV0 aV1 uV ++ wX5 cI cZ cO hW aW0 uW) (own := RX0) (nm := "turn") (L0 := [(0, .ref hC)]) (plainFor_of_name (by decide +kernel)) rfl rfl (Nat.le_of_ble_eq_true rfl) rfl ?_
  intro p e s m args below meth c A C
  unfold f_X0_turn
  refine x_aload_n C dX0_turn_0 0 rfl ?_
  refine x_aload_n C dX0_turn_1 0 rfl ?_
  refine x_get (v := .ref hV) C hwsX00 1 mw_18 0 rfl rfl (by decide) rfl rfl dX0_turn_2 ?_
  refine x_get (v := .ref aV0) C hwsX40 0 mw_48 1 rfl rfl (by decide) rfl rfl dX0_turn_5 ?_
  refine x_iconst C 0 dX0_turn_8 (by decide) ?_
  refine x_iald C 2 0 rfl rfl 0 rfl (by omega) (by decide) (uV 0 0) rfl dX0_turn_9 ?_
  refine x_put (ws' := wX0 cI cZ cO hC hV hW (put uC 5 0 (uV 0 0)) ++ wX4 cI cZ cO hV aV0 aV1 uV ++ wX5 cI cZ cO hW aW0 uW) C hwsX00 tyX0 tyX0_ok nmX0 5 mw_25 0 rfl rfl (by decide) rfl rfl rfl rfl (Nat.le_of_ble_eq_true rfl) dX0_turn_10 rfl ?_
  refine x_aload_n C dX0_turn_13 0 rfl ?_
  refine x_get (v := .int (uC 3 0)) C hwsX00 3 mw_23 0 rfl rfl (by decide) rfl rfl dX0_turn_14 ?_
  refine x_split (fun c1 => ?_) (fun c1 => ?_)
  · refine x_tsI C 0 64 dX0_turn_17 (i_eq c1 (by decide : (0 : Int32).toInt = 0)) (by decide) (by decide) rfl (by decide) ?_
    refine x_iconst C 1 dX0_turn_64 (by decide) ?_
    exact x_iret C rfl dX0_turn_65 rfl rfl
  · refine x_split (fun c2 => ?_) (fun c2 => ?_)
    · refine x_tsI C 1 75 dX0_turn_17 (i_eq c2 (by decide : (1 : Int32).toInt = 1)) (by decide) (by decide) rfl (by decide) ?_
      refine x_aload_n C dX0_turn_75 0 rfl ?_
      refine x_get (v := .int (uC 3 0)) C hwsX00 3 mw_23 0 rfl rfl (by decide) rfl rfl dX0_turn_76 ?_
      exact x_iret C rfl dX0_turn_79 rfl rfl
    · refine x_split (fun c3 => ?_) (fun c3 => ?_)
      · refine x_tsI C 2 75 dX0_turn_17 (i_eq c3 (by decide : (2 : Int32).toInt = 2)) (by decide) (by decide) rfl (by decide) ?_
        refine x_aload_n C dX0_turn_75 0 rfl ?_
        refine x_get (v := .int (uC 3 0)) C hwsX00 3 mw_23 0 rfl rfl (by decide) rfl rfl dX0_turn_76 ?_
        exact x_iret C rfl dX0_turn_79 rfl rfl
      · refine x_split (fun c4 => ?_) (fun c4 => ?_)
        · refine x_tsI C 3 66 dX0_turn_17 (i_eq c4 (by decide : (3 : Int32).toInt = 3)) (by decide) (by decide) rfl (by decide) ?_
          refine x_iconst C 4 dX0_turn_66 (by decide) ?_
          exact x_iret C rfl dX0_turn_67 rfl rfl
        · refine x_split (fun c5 => ?_) (fun c5 => ?_)
          · refine x_tsI C 4 75 dX0_turn_17 (i_eq c5 (by decide : (4 : Int32).toInt = 4)) (by decide) (by decide) rfl (by decide) ?_
            refine x_aload_n C dX0_turn_75 0 rfl ?_
            refine x_get (v := .int (uC 3 0)) C hwsX00 3 mw_23 0 rfl rfl (by decide) rfl rfl dX0_turn_76 ?_
            exact x_iret C rfl dX0_turn_79 rfl rfl
          · refine x_split (fun c6 => ?_) (fun c6 => ?_)
            · refine x_tsI C 5 68 dX0_turn_17 (i_eq c6 (by decide : (5 : Int32).toInt = 5)) (by decide) (by decide) rfl (by decide) ?_
              refine x_aload_n C dX0_turn_68 0 rfl ?_
              refine x_iconst C 1 dX0_turn_69 (by decide) ?_
              refine x_put (ws' := wX0 cI cZ cO hC hV hW (put (put uC 5 0 (uV 0 0)) 6 0 1) ++ wX4 cI cZ cO hV aV0 aV1 uV ++ wX5 cI cZ cO hW aW0 uW) C hwsX00 tyX0 tyX0_ok nmX0 6 mw_26 0 rfl rfl (by decide) rfl rfl rfl rfl (Nat.le_of_ble_eq_true rfl) dX0_turn_70 rfl ?_
              refine x_iconst C 5 dX0_turn_73 (by decide) ?_
              exact x_iret C rfl dX0_turn_74 rfl rfl
            · refine x_split (fun c7 => ?_) (fun c7 => ?_)
              · refine x_tsI C 6 68 dX0_turn_17 (i_eq c7 (by decide : (6 : Int32).toInt = 6)) (by decide) (by decide) rfl (by decide) ?_
                refine x_aload_n C dX0_turn_68 0 rfl ?_
                refine x_iconst C 1 dX0_turn_69 (by decide) ?_
                refine x_put (ws' := wX0 cI cZ cO hC hV hW (put (put uC 5 0 (uV 0 0)) 6 0 1) ++ wX4 cI cZ cO hV aV0 aV1 uV ++ wX5 cI cZ cO hW aW0 uW) C hwsX00 tyX0 tyX0_ok nmX0 6 mw_26 0 rfl rfl (by decide) rfl rfl rfl rfl (Nat.le_of_ble_eq_true rfl) dX0_turn_70 rfl ?_
                refine x_iconst C 5 dX0_turn_73 (by decide) ?_
                exact x_iret C rfl dX0_turn_74 rfl rfl
              · refine x_split (fun c8 => ?_) (fun c8 => ?_)
                · refine x_tsI C 7 68 dX0_turn_17 (i_eq c8 (by decide : (7 : Int32).toInt = 7)) (by decide) (by decide) rfl (by decide) ?_
                  refine x_aload_n C dX0_turn_68 0 rfl ?_
                  refine x_iconst C 1 dX0_turn_69 (by decide) ?_
                  refine x_put (ws' := wX0 cI cZ cO hC hV hW (put (put uC 5 0 (uV 0 0)) 6 0 1) ++ wX4 cI cZ cO hV aV0 aV1 uV ++ wX5 cI cZ cO hW aW0 uW) C hwsX00 tyX0 tyX0_ok nmX0 6 mw_26 0 rfl rfl (by decide) rfl rfl rfl rfl (Nat.le_of_ble_eq_true rfl) dX0_turn_70 rfl ?_
                  refine x_iconst C 5 dX0_turn_73 (by decide) ?_
                  exact x_iret C rfl dX0_turn_74 rfl rfl
                · refine x_tsO C 75 dX0_turn_17 (by have g0 := i_ne c1 (by decide : (0 : Int32).toInt = 0); have g1 := i_ne c2 (by decide : (1 : Int32).toInt = 1); have g2 := i_ne c3 (by decide : (2 : Int32).toInt = 2); have g3 := i_ne c4 (by decide : (3 : Int32).toInt = 3); have g4 := i_ne c5 (by decide : (4 : Int32).toInt = 4); have g5 := i_ne c6 (by decide : (5 : Int32).toInt = 5); have g6 := i_ne c7 (by decide : (6 : Int32).toInt = 6); have g7 := i_ne c8 (by decide : (7 : Int32).toInt = 7); omega) (by decide) ?_
                  refine x_aload_n C dX0_turn_75 0 rfl ?_
                  refine x_get (v := .int (uC 3 0)) C hwsX00 3 mw_23 0 rfl rfl (by decide) rfl rfl dX0_turn_76 ?_
                  exact x_iret C rfl dX0_turn_79 rfl rfl

def f_X0_gearsThere (uC : St) (uV : St) (uW : St) : Bool := if (uC 5 0) = 1 then (f_X4_allSeen uV 9) else (f_X4_allSeen uV 12)
theorem hd_X0_gearsThere : yX0_gearsThere.cls ≠ "java/lang/invoke/MethodHandle" ∧ yX0_gearsThere.cls ≠ "java/lang/invoke/VarHandle" ∧ (parseMethodDescriptor yX0_gearsThere.desc).map (fun d => d.parameters.length) = some 0 := by decide +kernel
set_option maxHeartbeats 4000000 in
set_option maxRecDepth 100000 in
theorem c_X0_gearsThere (l : Launch) (D : va_G) (cI cZ cO : ClassId) (hC hV aV0 aV1 hW aW0 : Nat) (uC : St) (uV : St) (uW : St)  : CTi l D (T3 cI cZ cO) yX0_gearsThere (Cond.code yX0_gearsThere cX0_gearsThere 1 (some .boolean) :: WA) ({ frames := 1, cells := 0, slots := 0, locals := 21 } : Room) [.ref hC] (wX0 cI cZ cO hC hV hW uC ++ wX4 cI cZ cO hV aV0 aV1 uV ++ wX5 cI cZ cO hW aW0 uW) (b2i (f_X0_gearsThere uC uV uW)) (wX0 cI cZ cO hC hV hW uC ++ wX4 cI cZ cO hV aV0 aV1 uV ++ wX5 cI cZ cO hW aW0 uW) := by
  refine ct_i (K := fun z => z) (t := f_X0_gearsThere uC uV uW) (rf := fun o => b2i o) (wf := fun o => wX0 cI cZ cO hC hV hW uC ++ wX4 cI cZ cO hV aV0 aV1 uV ++ wX5 cI cZ cO hW aW0 uW) (own := RX0) (nm := "gearsThere") (L0 := [(0, .ref hC)]) (plainFor_of_name (by decide +kernel)) rfl rfl (Nat.le_of_ble_eq_true rfl) rfl ?_
  intro p e s m args below meth c A C
  unfold f_X0_gearsThere
  refine x_aload_n C dX0_gearsThere_0 0 rfl ?_
  refine x_get (v := .ref hV) C hwsX00 1 mw_18 0 rfl rfl (by decide) rfl rfl dX0_gearsThere_1 ?_
  refine x_aload_n C dX0_gearsThere_4 0 rfl ?_
  refine x_get (v := .int (uC 5 0)) C hwsX00 5 mw_25 0 rfl rfl (by decide) rfl rfl dX0_gearsThere_5 ?_
  refine x_iconst C 1 dX0_gearsThere_8 (by decide) ?_
  refine x_icmp_ne C 17 dX0_gearsThere_9 (by decide) (fun c1 => ?_) (fun c1 => ?_)
  · refine x_bipush C 9 dX0_gearsThere_12 (by decide) ?_
    refine x_goto C 19 dX0_gearsThere_14 (by decide) ?_
    refine x_cVi (q0 := 1) (As := [.int 9]) (ws' := wX0 cI cZ cO hC hV hW uC ++ wX4 cI cZ cO hV aV0 aV1 uV ++ wX5 cI cZ cO hW aW0 uW) C mw_55 mw_56 mw_57 mw_17 mw_50 hd_X4_allSeen rfl rfl ⟨Nat.le_of_ble_eq_true rfl, Nat.le_of_ble_eq_true rfl⟩ rfl rfl rfl (c_X4_allSeen l D cI cZ cO hV aV0 aV1 uV 9 (by omega)) [1, 2, 3] [.inl 0, .inr 0, .inr 1, .inr 2, .inl 4, .inl 5] ⟨rfl, rfl, rfl, trivial⟩ rfl ⟨rfl, rfl, rfl, rfl, rfl, rfl, trivial⟩ rfl ⟨rfl, rfl, rfl, rfl, rfl, rfl, trivial⟩ rfl rfl (Nat.le_of_ble_eq_true rfl) (Nat.le_of_ble_eq_true rfl) (Nat.le_of_ble_eq_true rfl) dX0_gearsThere_19 ?_
    exact x_zret C rfl (nz_b _) dX0_gearsThere_22 rfl rfl
  · refine x_bipush C 12 dX0_gearsThere_17 (by decide) ?_
    refine x_cVi (q0 := 1) (As := [.int 12]) (ws' := wX0 cI cZ cO hC hV hW uC ++ wX4 cI cZ cO hV aV0 aV1 uV ++ wX5 cI cZ cO hW aW0 uW) C mw_55 mw_56 mw_57 mw_17 mw_50 hd_X4_allSeen rfl rfl ⟨Nat.le_of_ble_eq_true rfl, Nat.le_of_ble_eq_true rfl⟩ rfl rfl rfl (c_X4_allSeen l D cI cZ cO hV aV0 aV1 uV 12 (by omega)) [1, 2, 3] [.inl 0, .inr 0, .inr 1, .inr 2, .inl 4, .inl 5] ⟨rfl, rfl, rfl, trivial⟩ rfl ⟨rfl, rfl, rfl, rfl, rfl, rfl, trivial⟩ rfl ⟨rfl, rfl, rfl, rfl, rfl, rfl, trivial⟩ rfl rfl (Nat.le_of_ble_eq_true rfl) (Nat.le_of_ble_eq_true rfl) (Nat.le_of_ble_eq_true rfl) dX0_gearsThere_19 ?_
    exact x_zret C rfl (nz_b _) dX0_gearsThere_22 rfl rfl

def f_X0_gearsMayGo (uC : St) (uV : St) (uW : St) : Bool := if (f_X0_gearsThere uC uV uW) = true then false else (if (uC 5 0) = 1 then true else (if (f_X4_someSeen uV 15) = true then false else true))
theorem hd_X0_gearsMayGo : yX0_gearsMayGo.cls ≠ "java/lang/invoke/MethodHandle" ∧ yX0_gearsMayGo.cls ≠ "java/lang/invoke/VarHandle" ∧ (parseMethodDescriptor yX0_gearsMayGo.desc).map (fun d => d.parameters.length) = some 0 := by decide +kernel
set_option maxHeartbeats 4000000 in
set_option maxRecDepth 100000 in
theorem c_X0_gearsMayGo (l : Launch) (D : va_G) (cI cZ cO : ClassId) (hC hV aV0 aV1 hW aW0 : Nat) (uC : St) (uV : St) (uW : St)  : CTi l D (T3 cI cZ cO) yX0_gearsMayGo (Cond.code yX0_gearsMayGo cX0_gearsMayGo 1 (some .boolean) :: WA) ({ frames := 2, cells := 0, slots := 0, locals := 41 } : Room) [.ref hC] (wX0 cI cZ cO hC hV hW uC ++ wX4 cI cZ cO hV aV0 aV1 uV ++ wX5 cI cZ cO hW aW0 uW) (b2i (f_X0_gearsMayGo uC uV uW)) (wX0 cI cZ cO hC hV hW uC ++ wX4 cI cZ cO hV aV0 aV1 uV ++ wX5 cI cZ cO hW aW0 uW) := by
  refine ct_i (K := fun z => z) (t := f_X0_gearsMayGo uC uV uW) (rf := fun o => b2i o) (wf := fun o => wX0 cI cZ cO hC hV hW uC ++ wX4 cI cZ cO hV aV0 aV1 uV ++ wX5 cI cZ cO hW aW0 uW) (own := RX0) (nm := "gearsMayGo") (L0 := [(0, .ref hC)]) (plainFor_of_name (by decide +kernel)) rfl rfl (Nat.le_of_ble_eq_true rfl) rfl ?_
  intro p e s m args below meth c A C
  unfold f_X0_gearsMayGo
  refine x_aload_n C dX0_gearsMayGo_0 0 rfl ?_
  refine x_cViW (q0 := 0) (As := []) C mw_87 mw_88 mw_89 mw_46 mw_84 hd_X0_gearsThere rfl rfl ⟨Nat.le_of_ble_eq_true rfl, Nat.le_of_ble_eq_true rfl⟩ rfl rfl rfl (c_X0_gearsThere l D cI cZ cO hC hV aV0 aV1 hW aW0 uC uV uW ) rfl rfl (Nat.le_of_ble_eq_true rfl) (Nat.le_of_ble_eq_true rfl) (Nat.le_of_ble_eq_true rfl) dX0_gearsMayGo_1 ?_
  refine x_if_neZ C 31 dX0_gearsMayGo_4 (by decide) (fun c1 => ?_) (fun c1 => ?_)
  · refine x_iconst C 0 dX0_gearsMayGo_31 (by decide) ?_
    exact x_zret C rfl (by decide) dX0_gearsMayGo_32 rfl rfl
  · refine x_aload_n C dX0_gearsMayGo_7 0 rfl ?_
    refine x_get (v := .int (uC 5 0)) C hwsX00 5 mw_25 0 rfl rfl (by decide) rfl rfl dX0_gearsMayGo_8 ?_
    refine x_iconst C 1 dX0_gearsMayGo_11 (by decide) ?_
    refine x_icmp_eq C 27 dX0_gearsMayGo_12 (by decide) (fun c2 => ?_) (fun c2 => ?_)
    · refine x_iconst C 1 dX0_gearsMayGo_27 (by decide) ?_
      refine x_goto C 32 dX0_gearsMayGo_28 (by decide) ?_
      exact x_zret C rfl (by decide) dX0_gearsMayGo_32 rfl rfl
    · refine x_aload_n C dX0_gearsMayGo_15 0 rfl ?_
      refine x_get (v := .ref hV) C hwsX00 1 mw_18 0 rfl rfl (by decide) rfl rfl dX0_gearsMayGo_16 ?_
      refine x_bipush C 15 dX0_gearsMayGo_19 (by decide) ?_
      refine x_cVi (q0 := 1) (As := [.int 15]) (ws' := wX0 cI cZ cO hC hV hW uC ++ wX4 cI cZ cO hV aV0 aV1 uV ++ wX5 cI cZ cO hW aW0 uW) C mw_90 mw_91 mw_92 mw_17 mw_85 hd_X4_someSeen rfl rfl ⟨Nat.le_of_ble_eq_true rfl, Nat.le_of_ble_eq_true rfl⟩ rfl rfl rfl (c_X4_someSeen l D cI cZ cO hV aV0 aV1 uV 15 (by omega)) [1, 2, 3] [.inl 0, .inr 0, .inr 1, .inr 2, .inl 4, .inl 5] ⟨rfl, rfl, rfl, trivial⟩ rfl ⟨rfl, rfl, rfl, rfl, rfl, rfl, trivial⟩ rfl ⟨rfl, rfl, rfl, rfl, rfl, rfl, trivial⟩ rfl rfl (Nat.le_of_ble_eq_true rfl) (Nat.le_of_ble_eq_true rfl) (Nat.le_of_ble_eq_true rfl) dX0_gearsMayGo_21 ?_
      refine x_if_neZ C 31 dX0_gearsMayGo_24 (by decide) (fun c3 => ?_) (fun c3 => ?_)
      · refine x_iconst C 0 dX0_gearsMayGo_31 (by decide) ?_
        exact x_zret C rfl (by decide) dX0_gearsMayGo_32 rfl rfl
      · refine x_iconst C 1 dX0_gearsMayGo_27 (by decide) ?_
        refine x_goto C 32 dX0_gearsMayGo_28 (by decide) ?_
        exact x_zret C rfl (by decide) dX0_gearsMayGo_32 rfl rfl

def f_X0_nextStage (uC : St) (uV : St) (uW : St) : Int32 := if (uC 3 0) = 1 then (if (uC 4 0) < 2 then 1 else 2) else (if (uC 3 0) = 2 then (if (f_X4_allSeen uV 6) = true then 4 else 2) else (if (uC 3 0) = 3 then (if (f_X0_gearsThere uC uV uW) = true then 4 else 3) else (if (uC 3 0) = 4 then (if (f_X0_gearsMayGo uC uV uW) = true then 3 else 5) else (if (uC 3 0) = 5 then (if (uC 6 0) = 1 then 2 else 6) else (if (uC 3 0) = 6 then (if (f_X4_allSeen uV 3) = true then 7 else 6) else (if (uC 3 0) = 7 then (if (uC 4 0) < 10 then 7 else 0) else (uC 3 0)))))))
theorem hd_X0_nextStage : yX0_nextStage.cls ≠ "java/lang/invoke/MethodHandle" ∧ yX0_nextStage.cls ≠ "java/lang/invoke/VarHandle" ∧ (parseMethodDescriptor yX0_nextStage.desc).map (fun d => d.parameters.length) = some 0 := by decide +kernel
set_option maxHeartbeats 4000000 in
set_option maxRecDepth 100000 in
theorem c_X0_nextStage (l : Launch) (D : va_G) (cI cZ cO : ClassId) (hC hV aV0 aV1 hW aW0 : Nat) (uC : St) (uV : St) (uW : St)  : CTi l D (T3 cI cZ cO) yX0_nextStage (Cond.code yX0_nextStage cX0_nextStage 1 (some .int) :: WA) ({ frames := 3, cells := 0, slots := 0, locals := 61 } : Room) [.ref hC] (wX0 cI cZ cO hC hV hW uC ++ wX4 cI cZ cO hV aV0 aV1 uV ++ wX5 cI cZ cO hW aW0 uW) ((f_X0_nextStage uC uV uW)) (wX0 cI cZ cO hC hV hW uC ++ wX4 cI cZ cO hV aV0 aV1 uV ++ wX5 cI cZ cO hW aW0 uW) := by
  refine ct_i (K := fun z => z) (t := f_X0_nextStage uC uV uW) (rf := fun o => o) (wf := fun o => wX0 cI cZ cO hC hV hW uC ++ wX4 cI cZ cO hV aV0 aV1 uV ++ wX5 cI cZ cO hW aW0 uW) (own := RX0) (nm := "nextStage") (L0 := [(0, .ref hC)]) (plainFor_of_name (by decide +kernel)) rfl rfl (Nat.le_of_ble_eq_true rfl) rfl ?_
  intro p e s m args below meth c A C
  unfold f_X0_nextStage
  refine x_aload_n C dX0_nextStage_0 0 rfl ?_
  refine x_get (v := .int (uC 3 0)) C hwsX00 3 mw_23 0 rfl rfl (by decide) rfl rfl dX0_nextStage_1 ?_
  refine x_split (fun c1 => ?_) (fun c1 => ?_)
  · refine x_tsI C 1 48 dX0_nextStage_4 (i_eq c1 (by decide : (1 : Int32).toInt = 1)) (by decide) (by decide) rfl (by decide) ?_
    refine x_aload_n C dX0_nextStage_48 0 rfl ?_
    refine x_get (v := .int (uC 4 0)) C hwsX00 4 mw_24 0 rfl rfl (by decide) rfl rfl dX0_nextStage_49 ?_
    refine x_iconst C 2 dX0_nextStage_52 (by decide) ?_
    refine x_icmp_lt C 60 dX0_nextStage_53 (by decide) (fun c8 => ?_) (fun c8 => ?_)
    · refine x_iconst C 1 dX0_nextStage_60 (by decide) ?_
      exact x_iret C rfl dX0_nextStage_61 rfl rfl
    · refine x_iconst C 2 dX0_nextStage_56 (by decide) ?_
      refine x_goto C 61 dX0_nextStage_57 (by decide) ?_
      exact x_iret C rfl dX0_nextStage_61 rfl rfl
  · refine x_split (fun c2 => ?_) (fun c2 => ?_)
    · refine x_tsI C 2 62 dX0_nextStage_4 (i_eq c2 (by decide : (2 : Int32).toInt = 2)) (by decide) (by decide) rfl (by decide) ?_
      refine x_aload_n C dX0_nextStage_62 0 rfl ?_
      refine x_get (v := .ref hV) C hwsX00 1 mw_18 0 rfl rfl (by decide) rfl rfl dX0_nextStage_63 ?_
      refine x_bipush C 6 dX0_nextStage_66 (by decide) ?_
      refine x_cVi (q0 := 1) (As := [.int 6]) (ws' := wX0 cI cZ cO hC hV hW uC ++ wX4 cI cZ cO hV aV0 aV1 uV ++ wX5 cI cZ cO hW aW0 uW) C mw_55 mw_56 mw_57 mw_17 mw_50 hd_X4_allSeen rfl rfl ⟨Nat.le_of_ble_eq_true rfl, Nat.le_of_ble_eq_true rfl⟩ rfl rfl rfl (c_X4_allSeen l D cI cZ cO hV aV0 aV1 uV 6 (by omega)) [1, 2, 3] [.inl 0, .inr 0, .inr 1, .inr 2, .inl 4, .inl 5] ⟨rfl, rfl, rfl, trivial⟩ rfl ⟨rfl, rfl, rfl, rfl, rfl, rfl, trivial⟩ rfl ⟨rfl, rfl, rfl, rfl, rfl, rfl, trivial⟩ rfl rfl (Nat.le_of_ble_eq_true rfl) (Nat.le_of_ble_eq_true rfl) (Nat.le_of_ble_eq_true rfl) dX0_nextStage_68 ?_
      refine x_if_eqZ C 78 dX0_nextStage_71 (by decide) (fun c9 => ?_) (fun c9 => ?_)
      · refine x_iconst C 4 dX0_nextStage_74 (by decide) ?_
        refine x_goto C 79 dX0_nextStage_75 (by decide) ?_
        exact x_iret C rfl dX0_nextStage_79 rfl rfl
      · refine x_iconst C 2 dX0_nextStage_78 (by decide) ?_
        exact x_iret C rfl dX0_nextStage_79 rfl rfl
    · refine x_split (fun c3 => ?_) (fun c3 => ?_)
      · refine x_tsI C 3 80 dX0_nextStage_4 (i_eq c3 (by decide : (3 : Int32).toInt = 3)) (by decide) (by decide) rfl (by decide) ?_
        refine x_aload_n C dX0_nextStage_80 0 rfl ?_
        refine x_cViW (q0 := 0) (As := []) C mw_87 mw_88 mw_89 mw_46 mw_84 hd_X0_gearsThere rfl rfl ⟨Nat.le_of_ble_eq_true rfl, Nat.le_of_ble_eq_true rfl⟩ rfl rfl rfl (c_X0_gearsThere l D cI cZ cO hC hV aV0 aV1 hW aW0 uC uV uW ) rfl rfl (Nat.le_of_ble_eq_true rfl) (Nat.le_of_ble_eq_true rfl) (Nat.le_of_ble_eq_true rfl) dX0_nextStage_81 ?_
        refine x_if_eqZ C 91 dX0_nextStage_84 (by decide) (fun c10 => ?_) (fun c10 => ?_)
        · refine x_iconst C 4 dX0_nextStage_87 (by decide) ?_
          refine x_goto C 92 dX0_nextStage_88 (by decide) ?_
          exact x_iret C rfl dX0_nextStage_92 rfl rfl
        · refine x_iconst C 3 dX0_nextStage_91 (by decide) ?_
          exact x_iret C rfl dX0_nextStage_92 rfl rfl
      · refine x_split (fun c4 => ?_) (fun c4 => ?_)
        · refine x_tsI C 4 93 dX0_nextStage_4 (i_eq c4 (by decide : (4 : Int32).toInt = 4)) (by decide) (by decide) rfl (by decide) ?_
          refine x_aload_n C dX0_nextStage_93 0 rfl ?_
          refine x_cViW (q0 := 0) (As := []) C mw_94 mw_95 mw_96 mw_46 mw_86 hd_X0_gearsMayGo rfl rfl ⟨Nat.le_of_ble_eq_true rfl, Nat.le_of_ble_eq_true rfl⟩ rfl rfl rfl (c_X0_gearsMayGo l D cI cZ cO hC hV aV0 aV1 hW aW0 uC uV uW ) rfl rfl (Nat.le_of_ble_eq_true rfl) (Nat.le_of_ble_eq_true rfl) (Nat.le_of_ble_eq_true rfl) dX0_nextStage_94 ?_
          refine x_if_eqZ C 104 dX0_nextStage_97 (by decide) (fun c11 => ?_) (fun c11 => ?_)
          · refine x_iconst C 3 dX0_nextStage_100 (by decide) ?_
            refine x_goto C 105 dX0_nextStage_101 (by decide) ?_
            exact x_iret C rfl dX0_nextStage_105 rfl rfl
          · refine x_iconst C 5 dX0_nextStage_104 (by decide) ?_
            exact x_iret C rfl dX0_nextStage_105 rfl rfl
        · refine x_split (fun c5 => ?_) (fun c5 => ?_)
          · refine x_tsI C 5 106 dX0_nextStage_4 (i_eq c5 (by decide : (5 : Int32).toInt = 5)) (by decide) (by decide) rfl (by decide) ?_
            refine x_aload_n C dX0_nextStage_106 0 rfl ?_
            refine x_get (v := .int (uC 6 0)) C hwsX00 6 mw_26 0 rfl rfl (by decide) rfl rfl dX0_nextStage_107 ?_
            refine x_iconst C 1 dX0_nextStage_110 (by decide) ?_
            refine x_icmp_ne C 118 dX0_nextStage_111 (by decide) (fun c12 => ?_) (fun c12 => ?_)
            · refine x_iconst C 2 dX0_nextStage_114 (by decide) ?_
              refine x_goto C 120 dX0_nextStage_115 (by decide) ?_
              exact x_iret C rfl dX0_nextStage_120 rfl rfl
            · refine x_bipush C 6 dX0_nextStage_118 (by decide) ?_
              exact x_iret C rfl dX0_nextStage_120 rfl rfl
          · refine x_split (fun c6 => ?_) (fun c6 => ?_)
            · refine x_tsI C 6 121 dX0_nextStage_4 (i_eq c6 (by decide : (6 : Int32).toInt = 6)) (by decide) (by decide) rfl (by decide) ?_
              refine x_aload_n C dX0_nextStage_121 0 rfl ?_
              refine x_get (v := .ref hV) C hwsX00 1 mw_18 0 rfl rfl (by decide) rfl rfl dX0_nextStage_122 ?_
              refine x_iconst C 3 dX0_nextStage_125 (by decide) ?_
              refine x_cVi (q0 := 1) (As := [.int 3]) (ws' := wX0 cI cZ cO hC hV hW uC ++ wX4 cI cZ cO hV aV0 aV1 uV ++ wX5 cI cZ cO hW aW0 uW) C mw_55 mw_56 mw_57 mw_17 mw_50 hd_X4_allSeen rfl rfl ⟨Nat.le_of_ble_eq_true rfl, Nat.le_of_ble_eq_true rfl⟩ rfl rfl rfl (c_X4_allSeen l D cI cZ cO hV aV0 aV1 uV 3 (by omega)) [1, 2, 3] [.inl 0, .inr 0, .inr 1, .inr 2, .inl 4, .inl 5] ⟨rfl, rfl, rfl, trivial⟩ rfl ⟨rfl, rfl, rfl, rfl, rfl, rfl, trivial⟩ rfl ⟨rfl, rfl, rfl, rfl, rfl, rfl, trivial⟩ rfl rfl (Nat.le_of_ble_eq_true rfl) (Nat.le_of_ble_eq_true rfl) (Nat.le_of_ble_eq_true rfl) dX0_nextStage_126 ?_
              refine x_if_eqZ C 137 dX0_nextStage_129 (by decide) (fun c13 => ?_) (fun c13 => ?_)
              · refine x_bipush C 7 dX0_nextStage_132 (by decide) ?_
                refine x_goto C 139 dX0_nextStage_134 (by decide) ?_
                exact x_iret C rfl dX0_nextStage_139 rfl rfl
              · refine x_bipush C 6 dX0_nextStage_137 (by decide) ?_
                exact x_iret C rfl dX0_nextStage_139 rfl rfl
            · refine x_split (fun c7 => ?_) (fun c7 => ?_)
              · refine x_tsI C 7 140 dX0_nextStage_4 (i_eq c7 (by decide : (7 : Int32).toInt = 7)) (by decide) (by decide) rfl (by decide) ?_
                refine x_aload_n C dX0_nextStage_140 0 rfl ?_
                refine x_get (v := .int (uC 4 0)) C hwsX00 4 mw_24 0 rfl rfl (by decide) rfl rfl dX0_nextStage_141 ?_
                refine x_bipush C 10 dX0_nextStage_144 (by decide) ?_
                refine x_icmp_lt C 153 dX0_nextStage_146 (by decide) (fun c14 => ?_) (fun c14 => ?_)
                · refine x_bipush C 7 dX0_nextStage_153 (by decide) ?_
                  exact x_iret C rfl dX0_nextStage_155 rfl rfl
                · refine x_iconst C 0 dX0_nextStage_149 (by decide) ?_
                  refine x_goto C 155 dX0_nextStage_150 (by decide) ?_
                  exact x_iret C rfl dX0_nextStage_155 rfl rfl
              · refine x_tsO C 156 dX0_nextStage_4 (by have g0 := i_ne c1 (by decide : (1 : Int32).toInt = 1); have g1 := i_ne c2 (by decide : (2 : Int32).toInt = 2); have g2 := i_ne c3 (by decide : (3 : Int32).toInt = 3); have g3 := i_ne c4 (by decide : (4 : Int32).toInt = 4); have g4 := i_ne c5 (by decide : (5 : Int32).toInt = 5); have g5 := i_ne c6 (by decide : (6 : Int32).toInt = 6); have g6 := i_ne c7 (by decide : (7 : Int32).toInt = 7); omega) (by decide) ?_
                refine x_aload_n C dX0_nextStage_156 0 rfl ?_
                refine x_get (v := .int (uC 3 0)) C hwsX00 3 mw_23 0 rfl rfl (by decide) rfl rfl dX0_nextStage_157 ?_
                exact x_iret C rfl dX0_nextStage_160 rfl rfl

def f_X0_act_o102 (xt : Int32) (o1 : St) (b7 : St × St) (o8 : St) : St × St × St × St := if (b7.1 7 0) = 0 then (if (f_X5_firstCause o8 o1) = 0 then (put b7.1 7 0 (f_X5_firstCause o8 o1), o1, o8, b7.2) else (put b7.1 7 0 (f_X5_firstCause o8 o1), o1, o8, (f_X1_add b7.2 xt (b7.1 0 0) (10 + (f_X5_firstCause o8 o1))))) else (b7.1, o1, o8, b7.2)
def f_X0_act_k92 (uW : St) (xt : Int32) (o1 : St) (b3 : Bool) (b7 : St × St) : St × St × St × St := f_X0_act_o102 xt o1 b7 (f_X5_count uW (f_X0_orders b7.1 o1 uW) b3)
def f_X0_act_o78 (uG : St) (xt : Int32) (b5 : Int32 × St) (o13 : St) : St × St := (o13, (f_X1_add uG xt (o13 0 0) b5.1))
def f_X0_act_k57 (uW : St) (uG : St) (xt : Int32) (o1 : St) (b3 : Bool) (b5 : Int32 × St) : St × St × St × St := f_X0_act_k92 uW xt o1 b3 (if (b5.2 7 0) = 0 then (if b5.1 = (b5.2 3 0) then (b5.2, uG) else (f_X0_act_o78 uG xt b5 (f_X0_come b5.2 o1 uW b5.1))) else (b5.2, uG))
def f_X0_act_o47 (o15 : Int32 × St) : Int32 × St := (o15.1, o15.2)
def f_X0_act_k39 (uC : St) (uW : St) (uG : St) (xt : Int32) (o1 : St) (b3 : Bool) : St × St × St × St := f_X0_act_k57 uW uG xt o1 b3 (if b3 = true then (f_X0_act_o47 (f_X0_turn (put uC 4 0 ((uC 4 0) + 1)) o1 uW)) else ((f_X0_nextStage (put uC 4 0 ((uC 4 0) + 1)) o1 uW), put uC 4 0 ((uC 4 0) + 1)))
def f_X0_act_o5 (uC : St) (uW : St) (uG : St) (xt : Int32) (o1 : St) : St × St × St × St := f_X0_act_k39 uC uW uG xt o1 (if (o1 0 0) = (uC 5 0) then false else true)
def f_X0_act (uC : St) (uV : St) (uW : St) (uS : St) (uG : St) (xt : Int32) : St × St × St × St := f_X0_act_o5 uC uW uG xt (f_X4_take uV uS)
theorem hd_X0_act : yX0_act.cls ≠ "java/lang/invoke/MethodHandle" ∧ yX0_act.cls ≠ "java/lang/invoke/VarHandle" ∧ (parseMethodDescriptor yX0_act.desc).map (fun d => d.parameters.length) = some 3 := by decide +kernel
set_option maxHeartbeats 4000000 in
set_option maxRecDepth 100000 in
theorem c_X0_act (l : Launch) (D : va_G) (cI cZ cO : ClassId) (hC hV aV0 aV1 hW aW0 hS aS0 aS1 hG aG0 : Nat) (uC : St) (uV : St) (uW : St) (uS : St) (uG : St) (xt : Int32)  : CTv l D (T3 cI cZ cO) yX0_act (Cond.code yX0_act cX0_act 6 none :: WA) ({ frames := 4, cells := 0, slots := 0, locals := 81 } : Room) [.ref hC, .ref hS, .ref hG, .int xt] (wX0 cI cZ cO hC hV hW uC ++ wX4 cI cZ cO hV aV0 aV1 uV ++ wX5 cI cZ cO hW aW0 uW ++ wX3 cI cZ cO hS aS0 aS1 uS ++ wX1 cI cZ cO hG aG0 uG) (wX0 cI cZ cO hC hV hW (f_X0_act uC uV uW uS uG xt).1 ++ wX4 cI cZ cO hV aV0 aV1 (f_X0_act uC uV uW uS uG xt).2.1 ++ wX5 cI cZ cO hW aW0 (f_X0_act uC uV uW uS uG xt).2.2.1 ++ wX3 cI cZ cO hS aS0 aS1 uS ++ wX1 cI cZ cO hG aG0 (f_X0_act uC uV uW uS uG xt).2.2.2) := by
  refine ct_v (K := fun z => z) (t := f_X0_act uC uV uW uS uG xt) (wf := fun o => wX0 cI cZ cO hC hV hW o.1 ++ wX4 cI cZ cO hV aV0 aV1 o.2.1 ++ wX5 cI cZ cO hW aW0 o.2.2.1 ++ wX3 cI cZ cO hS aS0 aS1 uS ++ wX1 cI cZ cO hG aG0 o.2.2.2) (own := RX0) (nm := "act") (L0 := [(0, .ref hC), (1, .ref hS), (2, .ref hG), (3, .int xt)]) (plainFor_of_name (by decide +kernel)) rfl rfl (Nat.le_of_ble_eq_true rfl) rfl ?_
  intro p e s m args below meth c A C
  unfold f_X0_act
  refine x_aload_n C dX0_act_0 0 rfl ?_
  refine x_get (v := .ref hV) C hwsX00 1 mw_18 0 rfl rfl (by decide) rfl rfl dX0_act_1 ?_
  refine x_aload_n C dX0_act_4 1 rfl ?_
  refine x_cVv (q0 := 1) (As := [.ref hS]) (ws' := wX0 cI cZ cO hC hV hW uC ++ wX4 cI cZ cO hV aV0 aV1 (f_X4_take uV uS) ++ wX5 cI cZ cO hW aW0 uW ++ wX3 cI cZ cO hS aS0 aS1 uS ++ wX1 cI cZ cO hG aG0 uG) C mw_129 mw_130 mw_131 mw_17 mw_82 hd_X4_take rfl rfl ⟨Nat.le_of_ble_eq_true rfl, Nat.le_of_ble_eq_true rfl⟩ rfl rfl rfl (c_X4_take l D cI cZ cO hV aV0 aV1 hS aS0 aS1 uV uS ) [1, 2, 3, 6, 7, 8] [.inl 0, .inr 0, .inr 1, .inr 2, .inl 4, .inl 5, .inr 3, .inr 4, .inr 5, .inl 9, .inl 10] ⟨rfl, rfl, rfl, rfl, rfl, rfl, trivial⟩ rfl ⟨rfl, rfl, rfl, rfl, rfl, rfl, rfl, rfl, rfl, rfl, rfl, trivial⟩ rfl ⟨rfl, rfl, rfl, rfl, rfl, rfl, rfl, rfl, rfl, rfl, rfl, trivial⟩ rfl rfl (Nat.le_of_ble_eq_true rfl) (Nat.le_of_ble_eq_true rfl) (Nat.le_of_ble_eq_true rfl) dX0_act_5 ?_
  unfold f_X0_act_o5
  generalize f_X4_take uV uS = o1
  refine x_aload_n C dX0_act_8 0 rfl ?_
  refine x_dup C dX0_act_9 rfl ?_
  refine x_get (v := .int (uC 4 0)) C hwsX00 4 mw_24 0 rfl rfl (by decide) rfl rfl dX0_act_10 ?_
  refine x_iconst C 1 dX0_act_13 (by decide) ?_
  refine x_iadd C dX0_act_14 ?_
  refine x_put (ws' := wX0 cI cZ cO hC hV hW (put uC 4 0 ((uC 4 0) + 1)) ++ wX4 cI cZ cO hV aV0 aV1 o1 ++ wX5 cI cZ cO hW aW0 uW ++ wX3 cI cZ cO hS aS0 aS1 uS ++ wX1 cI cZ cO hG aG0 uG) C hwsX00 tyX0 tyX0_ok nmX0 4 mw_24 0 rfl rfl (by decide) rfl rfl rfl rfl (Nat.le_of_ble_eq_true rfl) dX0_act_15 rfl ?_
  refine x_aload_n C dX0_act_18 0 rfl ?_
  refine x_get (v := .ref hV) C hwsX00 1 mw_18 0 rfl rfl (by decide) rfl rfl dX0_act_19 ?_
  refine x_get (v := .ref aV0) C hwsX40 0 mw_48 1 rfl rfl (by decide) rfl rfl dX0_act_22 ?_
  refine x_iconst C 0 dX0_act_25 (by decide) ?_
  refine x_iald C 2 0 rfl rfl 0 rfl (by omega) (by decide) (o1 0 0) rfl dX0_act_26 ?_
  refine x_aload_n C dX0_act_27 0 rfl ?_
  refine x_get (v := .int (uC 5 0)) C hwsX00 5 mw_25 0 rfl rfl (by decide) rfl rfl dX0_act_28 ?_
  refine x_join (fun (b3 : Bool) => f_X0_act_k39 uC uW uG xt o1 b3) 39 (fun (b3 : Bool) => [(0, .ref hC), (1, .ref hS), (2, .ref hG), (3, .int xt)]) (fun (b3 : Bool) => [.int (b2i b3)]) (fun (b3 : Bool) => wX0 cI cZ cO hC hV hW (put uC 4 0 ((uC 4 0) + 1)) ++ wX4 cI cZ cO hV aV0 aV1 o1 ++ wX5 cI cZ cO hW aW0 uW ++ wX3 cI cZ cO hS aS0 aS1 uS ++ wX1 cI cZ cO hG aG0 uG) (fun b3 => ?_) _ (fun J16 => ?_)
  · unfold f_X0_act_k39
    refine x_istore (L' := [(4, .int (b2i b3)), (0, .ref hC), (1, .ref hS), (2, .ref hG), (3, .int xt)]) C dX0_act_39 (by decide) rfl ?_
    refine x_iload C dX0_act_41 0 rfl ?_
    refine x_join (fun (b5 : Int32 × St) => f_X0_act_k57 uW uG xt o1 b3 b5) 57 (fun (b5 : Int32 × St) => [(0, .ref hC), (1, .ref hS), (2, .ref hG), (3, .int xt), (4, .int (b2i b3))]) (fun (b5 : Int32 × St) => [.int b5.1]) (fun (b5 : Int32 × St) => wX0 cI cZ cO hC hV hW b5.2 ++ wX4 cI cZ cO hV aV0 aV1 o1 ++ wX5 cI cZ cO hW aW0 uW ++ wX3 cI cZ cO hS aS0 aS1 uS ++ wX1 cI cZ cO hG aG0 uG) (fun b5 => ?_) _ (fun J14 => ?_)
    · unfold f_X0_act_k57
      refine x_istore (L' := [(5, .int b5.1), (0, .ref hC), (1, .ref hS), (2, .ref hG), (3, .int xt), (4, .int (b2i b3))]) C dX0_act_57 (by decide) rfl ?_
      refine x_aload_n C dX0_act_59 1 rfl ?_
      refine x_get (v := .int (b5.2 7 0)) C hwsX00 7 mw_27 0 rfl rfl (by decide) rfl rfl dX0_act_60 ?_
      refine x_join (fun (b7 : St × St) => f_X0_act_k92 uW xt o1 b3 b7) 92 (fun (b7 : St × St) => [(0, .ref hC), (1, .ref hS), (2, .ref hG), (3, .int xt), (4, .int (b2i b3)), (5, .int b5.1)]) (fun (b7 : St × St) => []) (fun (b7 : St × St) => wX0 cI cZ cO hC hV hW b7.1 ++ wX4 cI cZ cO hV aV0 aV1 o1 ++ wX5 cI cZ cO hW aW0 uW ++ wX3 cI cZ cO hS aS0 aS1 uS ++ wX1 cI cZ cO hG aG0 b7.2) (fun b7 => ?_) _ (fun J11 => ?_)
      · unfold f_X0_act_k92
        refine x_aload_n C dX0_act_92 0 rfl ?_
        refine x_get (v := .ref hW) C hwsX00 2 mw_22 0 rfl rfl (by decide) rfl rfl dX0_act_93 ?_
        refine x_aload_n C dX0_act_96 0 rfl ?_
        refine x_cVi (q0 := 0) (As := []) (ws' := wX0 cI cZ cO hC hV hW b7.1 ++ wX4 cI cZ cO hV aV0 aV1 o1 ++ wX5 cI cZ cO hW aW0 uW ++ wX3 cI cZ cO hS aS0 aS1 uS ++ wX1 cI cZ cO hG aG0 b7.2) C mw_43 mw_44 mw_45 mw_46 mw_35 hd_X0_orders rfl rfl ⟨Nat.le_of_ble_eq_true rfl, Nat.le_of_ble_eq_true rfl⟩ rfl rfl rfl (c_X0_orders l D cI cZ cO hC hV aV0 aV1 hW aW0 b7.1 o1 uW ) [0, 1, 2, 3, 4, 5] [.inr 0, .inr 1, .inr 2, .inr 3, .inr 4, .inr 5, .inl 6, .inl 7, .inl 8, .inl 9, .inl 10] ⟨rfl, rfl, rfl, rfl, rfl, rfl, trivial⟩ rfl ⟨rfl, rfl, rfl, rfl, rfl, rfl, rfl, rfl, rfl, rfl, rfl, trivial⟩ rfl ⟨rfl, rfl, rfl, rfl, rfl, rfl, rfl, rfl, rfl, rfl, rfl, trivial⟩ rfl rfl (Nat.le_of_ble_eq_true rfl) (Nat.le_of_ble_eq_true rfl) (Nat.le_of_ble_eq_true rfl) dX0_act_97 ?_
        refine x_iload C dX0_act_100 4 rfl ?_
        refine x_cVv (q0 := 4) (As := [.int (f_X0_orders b7.1 o1 uW), .int (b2i b3)]) (ws' := wX0 cI cZ cO hC hV hW b7.1 ++ wX4 cI cZ cO hV aV0 aV1 o1 ++ wX5 cI cZ cO hW aW0 (f_X5_count uW (f_X0_orders b7.1 o1 uW) b3) ++ wX3 cI cZ cO hS aS0 aS1 uS ++ wX1 cI cZ cO hG aG0 b7.2) C mw_145 mw_146 mw_147 mw_21 mw_106 hd_X5_count rfl rfl ⟨Nat.le_of_ble_eq_true rfl, Nat.le_of_ble_eq_true rfl⟩ rfl rfl rfl (c_X5_count l D cI cZ cO hW aW0 uW (f_X0_orders b7.1 o1 uW) b3 ) [4, 5] [.inl 0, .inl 1, .inl 2, .inl 3, .inr 0, .inr 1, .inl 6, .inl 7, .inl 8, .inl 9, .inl 10] ⟨rfl, rfl, trivial⟩ rfl ⟨rfl, rfl, rfl, rfl, rfl, rfl, rfl, rfl, rfl, rfl, rfl, trivial⟩ rfl ⟨rfl, rfl, rfl, rfl, rfl, rfl, rfl, rfl, rfl, rfl, rfl, trivial⟩ rfl rfl (Nat.le_of_ble_eq_true rfl) (Nat.le_of_ble_eq_true rfl) (Nat.le_of_ble_eq_true rfl) dX0_act_102 ?_
        unfold f_X0_act_o102
        generalize f_X5_count uW (f_X0_orders b7.1 o1 uW) b3 = o8
        refine x_aload_n C dX0_act_105 0 rfl ?_
        refine x_get (v := .int (b7.1 7 0)) C hwsX00 7 mw_27 0 rfl rfl (by decide) rfl rfl dX0_act_106 ?_
        refine x_if_ne C 150 dX0_act_109 (by decide) (fun c9 => ?_) (fun c9 => ?_)
        · refine x_aload_n C dX0_act_112 0 rfl ?_
          refine x_aload_n C dX0_act_113 0 rfl ?_
          refine x_get (v := .ref hW) C hwsX00 2 mw_22 0 rfl rfl (by decide) rfl rfl dX0_act_114 ?_
          refine x_aload_n C dX0_act_117 0 rfl ?_
          refine x_get (v := .ref hV) C hwsX00 1 mw_18 0 rfl rfl (by decide) rfl rfl dX0_act_118 ?_
          refine x_cVi (q0 := 4) (As := [.ref hV]) (ws' := wX0 cI cZ cO hC hV hW b7.1 ++ wX4 cI cZ cO hV aV0 aV1 o1 ++ wX5 cI cZ cO hW aW0 o8 ++ wX3 cI cZ cO hS aS0 aS1 uS ++ wX1 cI cZ cO hG aG0 b7.2) C mw_148 mw_149 mw_150 mw_21 mw_128 hd_X5_firstCause rfl rfl ⟨Nat.le_of_ble_eq_true rfl, Nat.le_of_ble_eq_true rfl⟩ rfl rfl rfl (c_X5_firstCause l D cI cZ cO hW aW0 hV aV0 aV1 o8 o1 ) [4, 5, 1, 2, 3] [.inl 0, .inr 2, .inr 3, .inr 4, .inr 0, .inr 1, .inl 6, .inl 7, .inl 8, .inl 9, .inl 10] ⟨rfl, rfl, rfl, rfl, rfl, trivial⟩ rfl ⟨rfl, rfl, rfl, rfl, rfl, rfl, rfl, rfl, rfl, rfl, rfl, trivial⟩ rfl ⟨rfl, rfl, rfl, rfl, rfl, rfl, rfl, rfl, rfl, rfl, rfl, trivial⟩ rfl rfl (Nat.le_of_ble_eq_true rfl) (Nat.le_of_ble_eq_true rfl) (Nat.le_of_ble_eq_true rfl) dX0_act_121 ?_
          refine x_put (ws' := wX0 cI cZ cO hC hV hW (put b7.1 7 0 (f_X5_firstCause o8 o1)) ++ wX4 cI cZ cO hV aV0 aV1 o1 ++ wX5 cI cZ cO hW aW0 o8 ++ wX3 cI cZ cO hS aS0 aS1 uS ++ wX1 cI cZ cO hG aG0 b7.2) C hwsX00 tyX0 tyX0_ok nmX0 7 mw_27 0 rfl rfl (by decide) rfl rfl rfl rfl (Nat.le_of_ble_eq_true rfl) dX0_act_124 rfl ?_
          refine x_aload_n C dX0_act_127 0 rfl ?_
          refine x_get (v := .int (f_X5_firstCause o8 o1)) C hwsX00 7 mw_27 0 rfl rfl (by decide) rfl rfl dX0_act_128 ?_
          refine x_if_eq C 150 dX0_act_131 (by decide) (fun c10 => ?_) (fun c10 => ?_)
          · exact x_vret C rfl dX0_act_150 rfl
          · refine x_aload_n C dX0_act_134 2 rfl ?_
            refine x_iload_n C dX0_act_135 3 rfl ?_
            refine x_aload_n C dX0_act_136 0 rfl ?_
            refine x_get (v := .int (b7.1 0 0)) C hwsX00 0 mw_14 0 rfl rfl (by decide) rfl rfl dX0_act_137 ?_
            refine x_bipush C 10 dX0_act_140 (by decide) ?_
            refine x_aload_n C dX0_act_142 0 rfl ?_
            refine x_get (v := .int (f_X5_firstCause o8 o1)) C hwsX00 7 mw_27 0 rfl rfl (by decide) rfl rfl dX0_act_143 ?_
            refine x_iadd C dX0_act_146 ?_
            refine x_cVv (q0 := 9) (As := [.int xt, .int (b7.1 0 0), .int (10 + (f_X5_firstCause o8 o1))]) (ws' := wX0 cI cZ cO hC hV hW (put b7.1 7 0 (f_X5_firstCause o8 o1)) ++ wX4 cI cZ cO hV aV0 aV1 o1 ++ wX5 cI cZ cO hW aW0 o8 ++ wX3 cI cZ cO hS aS0 aS1 uS ++ wX1 cI cZ cO hG aG0 (f_X1_add b7.2 xt (b7.1 0 0) (10 + (f_X5_firstCause o8 o1)))) C mw_141 mw_142 mw_143 mw_144 mw_99 hd_X1_add rfl rfl ⟨Nat.le_of_ble_eq_true rfl, Nat.le_of_ble_eq_true rfl⟩ rfl rfl rfl (c_X1_add l D cI cZ cO hG aG0 b7.2 xt (b7.1 0 0) (10 + (f_X5_firstCause o8 o1)) ) [9, 10] [.inl 0, .inl 1, .inl 2, .inl 3, .inl 4, .inl 5, .inl 6, .inl 7, .inl 8, .inr 0, .inr 1] ⟨rfl, rfl, trivial⟩ rfl ⟨rfl, rfl, rfl, rfl, rfl, rfl, rfl, rfl, rfl, rfl, rfl, trivial⟩ rfl ⟨rfl, rfl, rfl, rfl, rfl, rfl, rfl, rfl, rfl, rfl, rfl, trivial⟩ rfl rfl (Nat.le_of_ble_eq_true rfl) (Nat.le_of_ble_eq_true rfl) (Nat.le_of_ble_eq_true rfl) dX0_act_147 ?_
            exact x_vret C rfl dX0_act_150 rfl
        · exact x_vret C rfl dX0_act_150 rfl
      · refine x_if_ne C 92 dX0_act_63 (by decide) (fun c6 => ?_) (fun c6 => ?_)
        · refine x_iload C dX0_act_66 0 rfl ?_
          refine x_aload_n C dX0_act_68 1 rfl ?_
          refine x_get (v := .int (b5.2 3 0)) C hwsX00 3 mw_23 0 rfl rfl (by decide) rfl rfl dX0_act_69 ?_
          refine x_icmp_eq C 92 dX0_act_72 (by decide) (fun c12 => ?_) (fun c12 => ?_)
          · refine x_lsub (L' := [(0, .ref hC), (1, .ref hS), (2, .ref hG), (3, .int xt), (4, .int (b2i b3)), (5, .int b5.1)]) [1, 2, 3, 4, 5, 0] rfl ?_
            exact J11 (b5.2, uG)
          · refine x_aload_n C dX0_act_75 1 rfl ?_
            refine x_iload C dX0_act_76 0 rfl ?_
            refine x_cVv (q0 := 0) (As := [.int b5.1]) (ws' := wX0 cI cZ cO hC hV hW (f_X0_come b5.2 o1 uW b5.1) ++ wX4 cI cZ cO hV aV0 aV1 o1 ++ wX5 cI cZ cO hW aW0 uW ++ wX3 cI cZ cO hS aS0 aS1 uS ++ wX1 cI cZ cO hG aG0 uG) C mw_138 mw_139 mw_140 mw_46 mw_97 hd_X0_come rfl rfl ⟨Nat.le_of_ble_eq_true rfl, Nat.le_of_ble_eq_true rfl⟩ rfl rfl rfl (c_X0_come l D cI cZ cO hC hV aV0 aV1 hW aW0 b5.2 o1 uW b5.1 ) [0, 1, 2, 3, 4, 5] [.inr 0, .inr 1, .inr 2, .inr 3, .inr 4, .inr 5, .inl 6, .inl 7, .inl 8, .inl 9, .inl 10] ⟨rfl, rfl, rfl, rfl, rfl, rfl, trivial⟩ rfl ⟨rfl, rfl, rfl, rfl, rfl, rfl, rfl, rfl, rfl, rfl, rfl, trivial⟩ rfl ⟨rfl, rfl, rfl, rfl, rfl, rfl, rfl, rfl, rfl, rfl, rfl, trivial⟩ rfl rfl (Nat.le_of_ble_eq_true rfl) (Nat.le_of_ble_eq_true rfl) (Nat.le_of_ble_eq_true rfl) dX0_act_78 ?_
            unfold f_X0_act_o78
            generalize f_X0_come b5.2 o1 uW b5.1 = o13
            refine x_lsub (L' := [(0, .ref hC), (1, .ref hS), (2, .ref hG), (3, .int xt), (4, .int (b2i b3)), (5, .int b5.1)]) [1, 2, 3, 4, 5, 0] rfl ?_
            refine x_aload_n C dX0_act_81 2 rfl ?_
            refine x_iload_n C dX0_act_82 3 rfl ?_
            refine x_aload_n C dX0_act_83 0 rfl ?_
            refine x_get (v := .int (o13 0 0)) C hwsX00 0 mw_14 0 rfl rfl (by decide) rfl rfl dX0_act_84 ?_
            refine x_iload C dX0_act_87 5 rfl ?_
            refine x_cVv (q0 := 9) (As := [.int xt, .int (o13 0 0), .int b5.1]) (ws' := wX0 cI cZ cO hC hV hW o13 ++ wX4 cI cZ cO hV aV0 aV1 o1 ++ wX5 cI cZ cO hW aW0 uW ++ wX3 cI cZ cO hS aS0 aS1 uS ++ wX1 cI cZ cO hG aG0 (f_X1_add uG xt (o13 0 0) b5.1)) C mw_141 mw_142 mw_143 mw_144 mw_99 hd_X1_add rfl rfl ⟨Nat.le_of_ble_eq_true rfl, Nat.le_of_ble_eq_true rfl⟩ rfl rfl rfl (c_X1_add l D cI cZ cO hG aG0 uG xt (o13 0 0) b5.1 ) [9, 10] [.inl 0, .inl 1, .inl 2, .inl 3, .inl 4, .inl 5, .inl 6, .inl 7, .inl 8, .inr 0, .inr 1] ⟨rfl, rfl, trivial⟩ rfl ⟨rfl, rfl, rfl, rfl, rfl, rfl, rfl, rfl, rfl, rfl, rfl, trivial⟩ rfl ⟨rfl, rfl, rfl, rfl, rfl, rfl, rfl, rfl, rfl, rfl, rfl, trivial⟩ rfl rfl (Nat.le_of_ble_eq_true rfl) (Nat.le_of_ble_eq_true rfl) (Nat.le_of_ble_eq_true rfl) dX0_act_89 ?_
            exact J11 (o13, (f_X1_add uG xt (o13 0 0) b5.1))
        · refine x_lsub (L' := [(0, .ref hC), (1, .ref hS), (2, .ref hG), (3, .int xt), (4, .int (b2i b3)), (5, .int b5.1)]) [1, 2, 3, 4, 5, 0] rfl ?_
          exact J11 (b5.2, uG)
    · refine x_if_eqZ C 53 dX0_act_43 (by decide) (fun c4 => ?_) (fun c4 => ?_)
      · refine x_aload_n C dX0_act_46 1 rfl ?_
        refine x_cVi (q0 := 0) (As := []) (ws' := wX0 cI cZ cO hC hV hW ((f_X0_turn (put uC 4 0 ((uC 4 0) + 1)) o1 uW).2) ++ wX4 cI cZ cO hV aV0 aV1 o1 ++ wX5 cI cZ cO hW aW0 uW ++ wX3 cI cZ cO hS aS0 aS1 uS ++ wX1 cI cZ cO hG aG0 uG) C mw_132 mw_133 mw_134 mw_46 mw_83 hd_X0_turn rfl rfl ⟨Nat.le_of_ble_eq_true rfl, Nat.le_of_ble_eq_true rfl⟩ rfl rfl rfl (c_X0_turn l D cI cZ cO hC hV aV0 aV1 hW aW0 (put uC 4 0 ((uC 4 0) + 1)) o1 uW ) [0, 1, 2, 3, 4, 5] [.inr 0, .inr 1, .inr 2, .inr 3, .inr 4, .inr 5, .inl 6, .inl 7, .inl 8, .inl 9, .inl 10] ⟨rfl, rfl, rfl, rfl, rfl, rfl, trivial⟩ rfl ⟨rfl, rfl, rfl, rfl, rfl, rfl, rfl, rfl, rfl, rfl, rfl, trivial⟩ rfl ⟨rfl, rfl, rfl, rfl, rfl, rfl, rfl, rfl, rfl, rfl, rfl, trivial⟩ rfl rfl (Nat.le_of_ble_eq_true rfl) (Nat.le_of_ble_eq_true rfl) (Nat.le_of_ble_eq_true rfl) dX0_act_47 ?_
        unfold f_X0_act_o47
        generalize f_X0_turn (put uC 4 0 ((uC 4 0) + 1)) o1 uW = o15
        refine x_lsub (L' := [(0, .ref hC), (1, .ref hS), (2, .ref hG), (3, .int xt), (4, .int (b2i b3))]) [1, 2, 3, 4, 0] rfl ?_
        refine x_goto C 57 dX0_act_50 (by decide) ?_
        exact J14 (o15.1, o15.2)
      · refine x_aload_n C dX0_act_53 1 rfl ?_
        refine x_cVi (q0 := 0) (As := []) (ws' := wX0 cI cZ cO hC hV hW (put uC 4 0 ((uC 4 0) + 1)) ++ wX4 cI cZ cO hV aV0 aV1 o1 ++ wX5 cI cZ cO hW aW0 uW ++ wX3 cI cZ cO hS aS0 aS1 uS ++ wX1 cI cZ cO hG aG0 uG) C mw_135 mw_136 mw_137 mw_46 mw_93 hd_X0_nextStage rfl rfl ⟨Nat.le_of_ble_eq_true rfl, Nat.le_of_ble_eq_true rfl⟩ rfl rfl rfl (c_X0_nextStage l D cI cZ cO hC hV aV0 aV1 hW aW0 (put uC 4 0 ((uC 4 0) + 1)) o1 uW ) [0, 1, 2, 3, 4, 5] [.inr 0, .inr 1, .inr 2, .inr 3, .inr 4, .inr 5, .inl 6, .inl 7, .inl 8, .inl 9, .inl 10] ⟨rfl, rfl, rfl, rfl, rfl, rfl, trivial⟩ rfl ⟨rfl, rfl, rfl, rfl, rfl, rfl, rfl, rfl, rfl, rfl, rfl, trivial⟩ rfl ⟨rfl, rfl, rfl, rfl, rfl, rfl, rfl, rfl, rfl, rfl, rfl, trivial⟩ rfl rfl (Nat.le_of_ble_eq_true rfl) (Nat.le_of_ble_eq_true rfl) (Nat.le_of_ble_eq_true rfl) dX0_act_54 ?_
        refine x_lsub (L' := [(0, .ref hC), (1, .ref hS), (2, .ref hG), (3, .int xt), (4, .int (b2i b3))]) [1, 2, 3, 4, 0] rfl ?_
        exact J14 ((f_X0_nextStage (put uC 4 0 ((uC 4 0) + 1)) o1 uW), put uC 4 0 ((uC 4 0) + 1))
  · refine x_icmp_eq C 38 dX0_act_31 (by decide) (fun c2 => ?_) (fun c2 => ?_)
    · refine x_iconst C 0 dX0_act_38 (by decide) ?_
      exact J16 false
    · refine x_iconst C 1 dX0_act_34 (by decide) ?_
      refine x_goto C 39 dX0_act_35 (by decide) ?_
      exact J16 true
