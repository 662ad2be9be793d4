theorem case01 {x : Int32} (h : f_X6_outside x 1 = false) (h0 : ¬ x = 0) : x = 1 := by
  obtain ⟨h1, h2⟩ := out_nat 1 (by decide) (g := 1) rfl h
  have h3 : ixn x = 0 ∨ ixn x = 1 := by omega
  rcases h3 with h3 | h3
  · rw [h3] at h1; exact absurd h1 h0
  · rw [h3] at h1; exact h1
theorem run_nat {x : Int32} (h0 : ¬ x < 1) (h1 : ¬ 1000 < x) : x = nI (ixn x) ∧ ixn x ≤ 1000 ∧ ixn x < 2 ^ 31 := by
  have h : ¬ x < 0 := fun z => h0 (Int32.lt_trans z (by decide))
  obtain ⟨a, b⟩ := ix_of (M := 1000) (n := 1000) (by decide) rfl h h1
  exact ⟨a, b, by omega⟩
theorem lt_nat {x M : Int32} (n : Nat) (hn : n < 2 ^ 31) (h0 : ¬ x < 0) (h1 : x < M) (hM : M = nI n := by rfl) : x = nI (ixn x) ∧ ixn x < n := by
  subst hM
  obtain ⟨a, b⟩ := ix_of (M := nI n) (n := n) hn rfl h0 (Int32.not_lt.mpr (Int32.le_of_lt h1))
  refine ⟨a, ?_⟩
  rw [a] at h1
  exact (nI_ltI (by omega) hn).mp h1
theorem sub_nat {x : Int32} (h0 : ¬ x < 6) (h1 : x < 11) : x - 6 = nI (ixn (x - 6)) ∧ ixn (x - 6) < 5 := by
  have h : ¬ x < 0 := fun z => h0 (Int32.lt_trans z (by decide))
  obtain ⟨a, b⟩ := lt_nat 11 (by decide) h h1
  have h6 : ¬ ixn x < 6 := fun z => h0 (by rw [a]; exact (nI_ltI (b := 6) (by omega) (by decide)).mpr z)
  have e : x - 6 = nI (ixn x - 6) := by
    conv => lhs; rw [a]
    exact pk_sub (b := 6) (by omega)
  have e2 : ixn (x - 6) = ixn x - 6 := by rw [e]; exact nI_clamp (by omega)
  rw [e2]
  exact ⟨e, by omega⟩
theorem hd_X6_exchange : yX6_exchange.cls ≠ "java/lang/invoke/MethodHandle" ∧ yX6_exchange.cls ≠ "java/lang/invoke/VarHandle" ∧ (parseMethodDescriptor yX6_exchange.desc).map (fun d => d.parameters.length) = some 3 := by decide +kernel
set_option maxHeartbeats 4000000 in
theorem c_X6_exchange (l : Launch) (D : va_G) (cI cZ cO : ClassId) (a n : Nat) (f : Nat → Int32) (j : Nat) (x : Int32) (hj : j < n) (hn : n < 2 ^ 31) : CTi l D (T3 cI cZ cO) yX6_exchange (Cond.code yX6_exchange cX6_exchange 4 (some .int) :: WA) ({ frames := 0, cells := 0, slots := 0, locals := 0 } : Room) [.ref a, .int (nI j), .int x] [(a, .inl (cI, n, .inl f))] (f j) [(a, .inl (cI, n, .inl (upd f j x)))] := by
  refine ct_i (K := fun z => z) (t := ()) (rf := fun _ => f j) (wf := fun _ => [(a, .inl (cI, n, .inl (upd f j x)))]) (own := RX6) (nm := "exchange") (L0 := [(0, .ref a), (1, .int (nI j)), (2, .int x)]) (plainFor_of_name (by decide +kernel)) rfl rfl (Nat.le_of_ble_eq_true rfl) rfl ?_
  intro p e s m args below meth c A C
  refine x_aload_n C dX6_exchange_0 0 rfl ?_
  refine x_iload_n C dX6_exchange_1 1 rfl ?_
  refine x_iald C 0 0 rfl rfl j rfl hj hn (f j) rfl dX6_exchange_2 ?_
  refine x_istore_n (L' := [(3, .int (f j)), (0, .ref a), (1, .int (nI j)), (2, .int x)]) C dX6_exchange_3 (by decide) rfl ?_
  refine x_aload_n C dX6_exchange_4 1 rfl ?_
  refine x_iload_n C dX6_exchange_5 2 rfl ?_
  refine x_iload_n C dX6_exchange_6 3 rfl ?_
  refine x_iast (ws' := [(a, .inl (cI, n, .inl (upd f j x)))]) C 0 0 rfl rfl j rfl hj hn dX6_exchange_7 rfl ?_
  refine x_iload_n C dX6_exchange_8 0 rfl ?_
  exact x_iret C rfl dX6_exchange_9 rfl rfl
def f_X6_ordered_k21 (b1 : Int32) : Int32 := b1
def f_X6_ordered (x : Sy) : Int32 := f_X6_ordered_k21 ((0 ||| (f_X0_orders (x 3) (x 4) (x 5))) ||| (f_X0_orders (x 6) (x 7) (x 8)))
theorem hd_X6_ordered : yX6_ordered.cls ≠ "java/lang/invoke/MethodHandle" ∧ yX6_ordered.cls ≠ "java/lang/invoke/VarHandle" ∧ (parseMethodDescriptor yX6_ordered.desc).map (fun d => d.parameters.length) = some 0 := by decide +kernel
set_option maxHeartbeats 4000000 in
set_option maxRecDepth 100000 in
theorem c_X6_ordered (l : Launch) (D : va_G) (cI cZ cO : ClassId) (q : Nat → Nat) (x : Sy)  : CTi l D (T3 cI cZ cO) yX6_ordered (Cond.code yX6_ordered cX6_ordered 3 (some .int) :: WA) ({ frames := 2, cells := 0, slots := 0, locals := 42 } : Room) [.ref (q 0)] (wLG cI cZ cO q x) ((f_X6_ordered x)) (wLG cI cZ cO q x) := by
  refine ct_i (K := fun z => z) (t := f_X6_ordered x) (rf := fun o => o) (wf := fun o => wLG cI cZ cO q x) (own := RX6) (nm := "ordered") (L0 := [(0, .ref (q 0))]) (plainFor_of_name (by decide +kernel)) rfl rfl (Nat.le_of_ble_eq_true rfl) rfl ?_
  intro p e s m args below meth c A C
  unfold f_X6_ordered
  refine x_iconst C 0 dX6_ordered_0 (by decide) ?_
  refine x_istore_n (L' := [(1, .int 0), (0, .ref (q 0))]) C dX6_ordered_1 (by decide) rfl ?_
  refine x_iconst C 0 dX6_ordered_2 (by decide) ?_
  refine x_istore_n (L' := [(2, .int 0), (1, .int 0), (0, .ref (q 0))]) C dX6_ordered_3 (by decide) rfl ?_
  refine x_iload_n C dX6_ordered_4 0 rfl ?_
  refine x_iconst C 2 dX6_ordered_5 (by decide) ?_
  refine x_icmp_ge_f C 27 dX6_ordered_6 (by decide) (by decide) ?_
  refine x_iload_n C dX6_ordered_9 1 rfl ?_
  refine x_aload_n C dX6_ordered_10 2 rfl ?_
  refine x_get (v := .ref (q 1)) C hwsX60 2 mw_224 0 rfl rfl (by decide) rfl rfl dX6_ordered_11 ?_
  refine x_iload_n C dX6_ordered_14 0 rfl ?_
  refine x_aald C 1 2 rfl rfl 0 rfl (by decide) (by decide) rfl dX6_ordered_15 ?_
  refine x_cVi (q0 := 11) (As := []) (ws' := wLG cI cZ cO q x) C mw_265 mw_44 mw_45 mw_46 mw_35 hd_X0_orders rfl rfl ⟨Nat.le_of_ble_eq_true rfl, Nat.le_of_ble_eq_true rfl⟩ rfl rfl rfl (c_X0_orders l D cI cZ cO (q 11) (q 12) (q 13) (q 14) (q 15) (q 16) (x 3) (x 4) (x 5) ) [11, 12, 13, 14, 15, 16] [.inl 0, .inl 1, .inl 2, .inl 3, .inl 4, .inl 5, .inl 6, .inl 7, .inl 8, .inl 9, .inl 10, .inr 0, .inr 1, .inr 2, .inr 3, .inr 4, .inr 5, .inl 17, .inl 18, .inl 19, .inl 20, .inl 21, .inl 22, .inl 23, .inl 24] ⟨rfl, rfl, rfl, rfl, rfl, rfl, trivial⟩ rfl ⟨rfl, rfl, rfl, rfl, rfl, rfl, rfl, rfl, rfl, rfl, rfl, rfl, rfl, rfl, rfl, rfl, rfl, rfl, rfl, rfl, rfl, rfl, rfl, rfl, rfl, trivial⟩ rfl ⟨rfl, rfl, rfl, rfl, rfl, rfl, rfl, rfl, rfl, rfl, rfl, rfl, rfl, rfl, rfl, rfl, rfl, rfl, rfl, rfl, rfl, rfl, rfl, rfl, rfl, trivial⟩ rfl rfl (Nat.le_of_ble_eq_true rfl) (Nat.le_of_ble_eq_true rfl) (Nat.le_of_ble_eq_true rfl) dX6_ordered_16 ?_
  refine x_ior C dX6_ordered_19 ?_
  refine x_istore_n (L' := [(1, .int (0 ||| (f_X0_orders (x 3) (x 4) (x 5)))), (2, .int 0), (0, .ref (q 0))]) C dX6_ordered_20 (by decide) rfl ?_
  refine x_iinc (L' := [(2, .int 1), (1, .int (0 ||| (f_X0_orders (x 3) (x 4) (x 5)))), (0, .ref (q 0))]) C 1 dX6_ordered_21 1 rfl (by decide) (by decide) rfl ?_
  refine x_goto C 4 dX6_ordered_24 (by decide) ?_
  refine x_iload_n C dX6_ordered_4 0 rfl ?_
  refine x_iconst C 2 dX6_ordered_5 (by decide) ?_
  refine x_icmp_ge_f C 27 dX6_ordered_6 (by decide) (by decide) ?_
  refine x_iload_n C dX6_ordered_9 1 rfl ?_
  refine x_aload_n C dX6_ordered_10 2 rfl ?_
  refine x_get (v := .ref (q 1)) C hwsX60 2 mw_224 0 rfl rfl (by decide) rfl rfl dX6_ordered_11 ?_
  refine x_iload_n C dX6_ordered_14 0 rfl ?_
  refine x_aald C 1 2 rfl rfl 1 rfl (by decide) (by decide) rfl dX6_ordered_15 ?_
  refine x_cVi (q0 := 17) (As := []) (ws' := wLG cI cZ cO q x) C mw_265 mw_44 mw_45 mw_46 mw_35 hd_X0_orders rfl rfl ⟨Nat.le_of_ble_eq_true rfl, Nat.le_of_ble_eq_true rfl⟩ rfl rfl rfl (c_X0_orders l D cI cZ cO (q 17) (q 18) (q 19) (q 20) (q 21) (q 22) (x 6) (x 7) (x 8) ) [17, 18, 19, 20, 21, 22] [.inl 0, .inl 1, .inl 2, .inl 3, .inl 4, .inl 5, .inl 6, .inl 7, .inl 8, .inl 9, .inl 10, .inl 11, .inl 12, .inl 13, .inl 14, .inl 15, .inl 16, .inr 0, .inr 1, .inr 2, .inr 3, .inr 4, .inr 5, .inl 23, .inl 24] ⟨rfl, rfl, rfl, rfl, rfl, rfl, trivial⟩ rfl ⟨rfl, rfl, rfl, rfl, rfl, rfl, rfl, rfl, rfl, rfl, rfl, rfl, rfl, rfl, rfl, rfl, rfl, rfl, rfl, rfl, rfl, rfl, rfl, rfl, rfl, trivial⟩ rfl ⟨rfl, rfl, rfl, rfl, rfl, rfl, rfl, rfl, rfl, rfl, rfl, rfl, rfl, rfl, rfl, rfl, rfl, rfl, rfl, rfl, rfl, rfl, rfl, rfl, rfl, trivial⟩ rfl rfl (Nat.le_of_ble_eq_true rfl) (Nat.le_of_ble_eq_true rfl) (Nat.le_of_ble_eq_true rfl) dX6_ordered_16 ?_
  refine x_ior C dX6_ordered_19 ?_
  refine x_istore_n (L' := [(1, .int ((0 ||| (f_X0_orders (x 3) (x 4) (x 5))) ||| (f_X0_orders (x 6) (x 7) (x 8)))), (2, .int 1), (0, .ref (q 0))]) C dX6_ordered_20 (by decide) rfl ?_
  refine x_join (fun (b1 : Int32) => f_X6_ordered_k21 b1) 21 (fun (b1 : Int32) => [(0, .ref (q 0)), (1, .int b1), (2, .int 1)]) (fun (b1 : Int32) => []) (fun (b1 : Int32) => wLG cI cZ cO q x) (fun b1 => ?_) ((0 ||| (f_X0_orders (x 3) (x 4) (x 5))) ||| (f_X0_orders (x 6) (x 7) (x 8))) (fun J2 => ?_)
  · unfold f_X6_ordered_k21
    refine x_iinc (L' := [(2, .int 2), (0, .ref (q 0)), (1, .int b1)]) C 2 dX6_ordered_21 2 rfl (by decide) (by decide) rfl ?_
    refine x_goto C 4 dX6_ordered_24 (by decide) ?_
    refine x_iload_n C dX6_ordered_4 0 rfl ?_
    refine x_iconst C 2 dX6_ordered_5 (by decide) ?_
    refine x_icmp_ge_t C 27 dX6_ordered_6 (by decide) (by decide) ?_
    refine x_iload_n C dX6_ordered_27 2 rfl ?_
    exact x_iret C rfl dX6_ordered_28 rfl rfl
  · refine x_lsub (L' := [(0, .ref (q 0)), (1, .int ((0 ||| (f_X0_orders (x 3) (x 4) (x 5))) ||| (f_X0_orders (x 6) (x 7) (x 8)))), (2, .int 1)]) [2, 0, 1] rfl ?_
    exact J2 _

def f_X6_unsettled_k30 (b4 : Bool) : Bool := b4
def f_X6_unsettled_k30_2 (x : Sy) (b2 : Bool) : Bool := f_X6_unsettled_k30 (if b2 = true then true else (if (f_X0_underWay (x 6) (x 7) (x 8)) = true then true else false))
def f_X6_unsettled (x : Sy) : Bool := f_X6_unsettled_k30_2 x (if (f_X0_underWay (x 3) (x 4) (x 5)) = true then true else false)
theorem hd_X6_unsettled : yX6_unsettled.cls ≠ "java/lang/invoke/MethodHandle" ∧ yX6_unsettled.cls ≠ "java/lang/invoke/VarHandle" ∧ (parseMethodDescriptor yX6_unsettled.desc).map (fun d => d.parameters.length) = some 0 := by decide +kernel
set_option maxHeartbeats 4000000 in
set_option maxRecDepth 100000 in
theorem c_X6_unsettled (l : Launch) (D : va_G) (cI cZ cO : ClassId) (q : Nat → Nat) (x : Sy)  : CTi l D (T3 cI cZ cO) yX6_unsettled (Cond.code yX6_unsettled cX6_unsettled 3 (some .boolean) :: WA) ({ frames := 1, cells := 0, slots := 0, locals := 20 } : Room) [.ref (q 0)] (wLG cI cZ cO q x) (b2i (f_X6_unsettled x)) (wLG cI cZ cO q x) := by
  refine ct_i (K := fun z => z) (t := f_X6_unsettled x) (rf := fun o => b2i o) (wf := fun o => wLG cI cZ cO q x) (own := RX6) (nm := "unsettled") (L0 := [(0, .ref (q 0))]) (plainFor_of_name (by decide +kernel)) rfl rfl (Nat.le_of_ble_eq_true rfl) rfl ?_
  intro p e s m args below meth c A C
  unfold f_X6_unsettled
  refine x_iconst C 0 dX6_unsettled_0 (by decide) ?_
  refine x_istore_n (L' := [(1, .int 0), (0, .ref (q 0))]) C dX6_unsettled_1 (by decide) rfl ?_
  refine x_iconst C 0 dX6_unsettled_2 (by decide) ?_
  refine x_istore_n (L' := [(2, .int 0), (1, .int 0), (0, .ref (q 0))]) C dX6_unsettled_3 (by decide) rfl ?_
  refine x_iload_n C dX6_unsettled_4 0 rfl ?_
  refine x_iconst C 2 dX6_unsettled_5 (by decide) ?_
  refine x_icmp_ge_f C 37 dX6_unsettled_6 (by decide) (by decide) ?_
  refine x_iload_n C dX6_unsettled_9 1 rfl ?_
  refine x_if_ne_f C 25 dX6_unsettled_10 (by decide) (by decide) ?_
  refine x_aload_n C dX6_unsettled_13 2 rfl ?_
  refine x_get (v := .ref (q 1)) C hwsX60 2 mw_224 0 rfl rfl (by decide) rfl rfl dX6_unsettled_14 ?_
  refine x_iload_n C dX6_unsettled_17 0 rfl ?_
  refine x_aald C 1 2 rfl rfl 0 rfl (by decide) (by decide) rfl dX6_unsettled_18 ?_
  refine x_cVi (q0 := 11) (As := []) (ws' := wLG cI cZ cO q x) C mw_288 mw_289 mw_290 mw_46 mw_47 hd_X0_underWay rfl rfl ⟨Nat.le_of_ble_eq_true rfl, Nat.le_of_ble_eq_true rfl⟩ rfl rfl rfl (c_X0_underWay l D cI cZ cO (q 11) (q 12) (q 13) (q 14) (q 15) (q 16) (x 3) (x 4) (x 5) ) [11, 12, 13, 14, 15, 16] [.inl 0, .inl 1, .inl 2, .inl 3, .inl 4, .inl 5, .inl 6, .inl 7, .inl 8, .inl 9, .inl 10, .inr 0, .inr 1, .inr 2, .inr 3, .inr 4, .inr 5, .inl 17, .inl 18, .inl 19, .inl 20, .inl 21, .inl 22, .inl 23, .inl 24] ⟨rfl, rfl, rfl, rfl, rfl, rfl, trivial⟩ rfl ⟨rfl, rfl, rfl, rfl, rfl, rfl, rfl, rfl, rfl, rfl, rfl, rfl, rfl, rfl, rfl, rfl, rfl, rfl, rfl, rfl, rfl, rfl, rfl, rfl, rfl, trivial⟩ rfl ⟨rfl, rfl, rfl, rfl, rfl, rfl, rfl, rfl, rfl, rfl, rfl, rfl, rfl, rfl, rfl, rfl, rfl, rfl, rfl, rfl, rfl, rfl, rfl, rfl, rfl, trivial⟩ rfl rfl (Nat.le_of_ble_eq_true rfl) (Nat.le_of_ble_eq_true rfl) (Nat.le_of_ble_eq_true rfl) dX6_unsettled_19 ?_
  refine x_join (fun (b2 : Bool) => f_X6_unsettled_k30_2 x b2) 30 (fun (b2 : Bool) => [(0, .ref (q 0)), (1, .int 0), (2, .int 0)]) (fun (b2 : Bool) => [.int (b2i b2)]) (fun (b2 : Bool) => wLG cI cZ cO q x) (fun b2 => ?_) _ (fun J7 => ?_)
  · unfold f_X6_unsettled_k30_2
    refine x_istore_n (L' := [(1, .int (b2i b2)), (0, .ref (q 0)), (2, .int 0)]) C dX6_unsettled_30 (by decide) rfl ?_
    refine x_iinc (L' := [(2, .int 1), (1, .int (b2i b2)), (0, .ref (q 0))]) C 1 dX6_unsettled_31 2 rfl (by decide) (by decide) rfl ?_
    refine x_goto C 4 dX6_unsettled_34 (by decide) ?_
    refine x_iload_n C dX6_unsettled_4 0 rfl ?_
    refine x_iconst C 2 dX6_unsettled_5 (by decide) ?_
    refine x_icmp_ge_f C 37 dX6_unsettled_6 (by decide) (by decide) ?_
    refine x_iload_n C dX6_unsettled_9 1 rfl ?_
    refine x_join (fun (b4 : Bool) => f_X6_unsettled_k30 b4) 30 (fun (b4 : Bool) => [(0, .ref (q 0)), (1, .int (b2i b2)), (2, .int 1)]) (fun (b4 : Bool) => [.int (b2i b4)]) (fun (b4 : Bool) => wLG cI cZ cO q x) (fun b4 => ?_) _ (fun J5 => ?_)
    · unfold f_X6_unsettled_k30
      refine x_istore_n (L' := [(1, .int (b2i b4)), (0, .ref (q 0)), (2, .int 1)]) C dX6_unsettled_30 (by decide) rfl ?_
      refine x_iinc (L' := [(2, .int 2), (1, .int (b2i b4)), (0, .ref (q 0))]) C 2 dX6_unsettled_31 2 rfl (by decide) (by decide) rfl ?_
      refine x_goto C 4 dX6_unsettled_34 (by decide) ?_
      refine x_iload_n C dX6_unsettled_4 0 rfl ?_
      refine x_iconst C 2 dX6_unsettled_5 (by decide) ?_
      refine x_icmp_ge_t C 37 dX6_unsettled_6 (by decide) (by decide) ?_
      refine x_iload_n C dX6_unsettled_37 1 rfl ?_
      exact x_zret C rfl (nz_b _) dX6_unsettled_38 rfl rfl
    · refine x_if_neZ C 25 dX6_unsettled_10 (by decide) (fun c3 => ?_) (fun c3 => ?_)
      · refine x_iconst C 1 dX6_unsettled_25 (by decide) ?_
        refine x_goto C 30 dX6_unsettled_26 (by decide) ?_
        refine x_lsub (L' := [(0, .ref (q 0)), (1, .int (b2i b2)), (2, .int 1)]) [2, 1, 0] rfl ?_
        exact J5 true
      · refine x_aload_n C dX6_unsettled_13 2 rfl ?_
        refine x_get (v := .ref (q 1)) C hwsX60 2 mw_224 0 rfl rfl (by decide) rfl rfl dX6_unsettled_14 ?_
        refine x_iload_n C dX6_unsettled_17 0 rfl ?_
        refine x_aald C 1 2 rfl rfl 1 rfl (by decide) (by decide) rfl dX6_unsettled_18 ?_
        refine x_cVi (q0 := 17) (As := []) (ws' := wLG cI cZ cO q x) C mw_288 mw_289 mw_290 mw_46 mw_47 hd_X0_underWay rfl rfl ⟨Nat.le_of_ble_eq_true rfl, Nat.le_of_ble_eq_true rfl⟩ rfl rfl rfl (c_X0_underWay l D cI cZ cO (q 17) (q 18) (q 19) (q 20) (q 21) (q 22) (x 6) (x 7) (x 8) ) [17, 18, 19, 20, 21, 22] [.inl 0, .inl 1, .inl 2, .inl 3, .inl 4, .inl 5, .inl 6, .inl 7, .inl 8, .inl 9, .inl 10, .inl 11, .inl 12, .inl 13, .inl 14, .inl 15, .inl 16, .inr 0, .inr 1, .inr 2, .inr 3, .inr 4, .inr 5, .inl 23, .inl 24] ⟨rfl, rfl, rfl, rfl, rfl, rfl, trivial⟩ rfl ⟨rfl, rfl, rfl, rfl, rfl, rfl, rfl, rfl, rfl, rfl, rfl, rfl, rfl, rfl, rfl, rfl, rfl, rfl, rfl, rfl, rfl, rfl, rfl, rfl, rfl, trivial⟩ rfl ⟨rfl, rfl, rfl, rfl, rfl, rfl, rfl, rfl, rfl, rfl, rfl, rfl, rfl, rfl, rfl, rfl, rfl, rfl, rfl, rfl, rfl, rfl, rfl, rfl, rfl, trivial⟩ rfl rfl (Nat.le_of_ble_eq_true rfl) (Nat.le_of_ble_eq_true rfl) (Nat.le_of_ble_eq_true rfl) dX6_unsettled_19 ?_
        refine x_if_eqZ C 29 dX6_unsettled_22 (by decide) (fun c6 => ?_) (fun c6 => ?_)
        · refine x_iconst C 1 dX6_unsettled_25 (by decide) ?_
          refine x_goto C 30 dX6_unsettled_26 (by decide) ?_
          refine x_lsub (L' := [(0, .ref (q 0)), (1, .int (b2i b2)), (2, .int 1)]) [2, 1, 0] rfl ?_
          exact J5 true
        · refine x_iconst C 0 dX6_unsettled_29 (by decide) ?_
          refine x_lsub (L' := [(0, .ref (q 0)), (1, .int (b2i b2)), (2, .int 1)]) [2, 1, 0] rfl ?_
          exact J5 false
  · refine x_if_eqZ C 29 dX6_unsettled_22 (by decide) (fun c1 => ?_) (fun c1 => ?_)
    · refine x_iconst C 1 dX6_unsettled_25 (by decide) ?_
      refine x_goto C 30 dX6_unsettled_26 (by decide) ?_
      refine x_lsub (L' := [(0, .ref (q 0)), (1, .int 0), (2, .int 0)]) [2, 1, 0] rfl ?_
      exact J7 true
    · refine x_iconst C 0 dX6_unsettled_29 (by decide) ?_
      refine x_lsub (L' := [(0, .ref (q 0)), (1, .int 0), (2, .int 0)]) [2, 1, 0] rfl ?_
      exact J7 false

def f_X6_tick_k111 (b8 : Int32 × Sy) : Sy := upY b8.2 0 (put (b8.2 0) 5 0 b8.1)
def f_X6_tick_o96 (b6 : Int32 × Sy) (o10 : St × St × St × St) : Int32 × Sy := (b6.1 ||| (f_X0_shows o10.1 o10.2.1 o10.2.2.1), upY (upY (upY (upY b6.2 6 o10.1) 7 o10.2.1) 8 o10.2.2.1) 9 o10.2.2.2)
def f_X6_tick_k111_2 (b6 : Int32 × Sy) : Sy := f_X6_tick_k111 (if ((b6.2 6) 8 0) = 0 then (f_X6_tick_o96 b6 (f_X0_act (b6.2 6) (b6.2 7) (b6.2 8) (b6.2 2) (b6.2 9) ((b6.2 0) 4 0))) else (b6.1, b6.2))
def f_X6_tick_o96_2 (b2 : Sy) (o3 : St) (o4 : St) (o12 : St × St × St × St) : Int32 × Sy := (0 ||| (f_X0_shows o12.1 o12.2.1 o12.2.2.1), upY (upY (upY (upY (upY (upY (upY b2 0 (put (b2 0) 4 0 (((b2 0) 4 0) + 1))) 1 o3) 2 o4) 3 o12.1) 4 o12.2.1) 5 o12.2.2.1) 9 o12.2.2.2)
def f_X6_tick_o54 (b2 : Sy) (o3 : St) (o4 : St) : Sy := f_X6_tick_k111_2 (if ((b2 3) 8 0) = 0 then (f_X6_tick_o96_2 b2 o3 o4 (f_X0_act (b2 3) (b2 4) (b2 5) o4 (b2 9) (((b2 0) 4 0) + 1))) else (0, upY (upY (upY b2 0 (put (b2 0) 4 0 (((b2 0) 4 0) + 1))) 1 o3) 2 o4))
def f_X6_tick_o43 (b2 : Sy) (o3 : St) : Sy := f_X6_tick_o54 b2 o3 (f_X3_feel (b2 2) o3)
def f_X6_tick_k28 (x : Sy) (b2 : Sy) : Sy := f_X6_tick_o43 b2 (f_X2_move (b2 1) (f_X6_ordered x))
def f_X6_tick (x : Sy) : Sy := f_X6_tick_k28 x (if (f_X6_both (f_X6_ordered x) 1 2) = true then (upY x 0 (put (x 0) 6 0 1)) else (if (f_X6_both (f_X6_ordered x) 3 4) = true then (upY x 0 (put (x 0) 6 0 1)) else x))
theorem hd_X6_tick : yX6_tick.cls ≠ "java/lang/invoke/MethodHandle" ∧ yX6_tick.cls ≠ "java/lang/invoke/VarHandle" ∧ (parseMethodDescriptor yX6_tick.desc).map (fun d => d.parameters.length) = some 0 := by decide +kernel
set_option maxHeartbeats 4000000 in
set_option maxRecDepth 100000 in
theorem c_X6_tick (l : Launch) (D : va_G) (cI cZ cO : ClassId) (q : Nat → Nat) (x : Sy)  : CTv l D (T3 cI cZ cO) yX6_tick (Cond.code yX6_tick cX6_tick 4 none :: WA) ({ frames := 5, cells := 0, slots := 0, locals := 106 } : Room) [.ref (q 0)] (wLG cI cZ cO q x) (wLG cI cZ cO q (f_X6_tick x)) := by
  refine ct_v (K := fun z => z) (t := f_X6_tick x) (wf := fun o => wLG cI cZ cO q o) (own := RX6) (nm := "tick") (L0 := [(0, .ref (q 0))]) (plainFor_of_name (by decide +kernel)) rfl rfl (Nat.le_of_ble_eq_true rfl) rfl ?_
  intro p e s m args below meth c A C
  unfold f_X6_tick
  refine x_aload_n C dX6_tick_0 0 rfl ?_
  refine x_cViW (q0 := 0) (As := []) C mw_268 mw_269 mw_270 mw_37 mw_264 hd_X6_ordered rfl rfl ⟨Nat.le_of_ble_eq_true rfl, Nat.le_of_ble_eq_true rfl⟩ rfl rfl rfl (c_X6_ordered l D cI cZ cO q x ) rfl rfl (Nat.le_of_ble_eq_true rfl) (Nat.le_of_ble_eq_true rfl) (Nat.le_of_ble_eq_true rfl) dX6_tick_1 ?_
  refine x_istore_n (L' := [(1, .int (f_X6_ordered x)), (0, .ref (q 0))]) C dX6_tick_4 (by decide) rfl ?_
  refine x_iload_n C dX6_tick_5 0 rfl ?_
  refine x_iconst C 1 dX6_tick_6 (by decide) ?_
  refine x_iconst C 2 dX6_tick_7 (by decide) ?_
  refine x_cSi (As := [.int (f_X6_ordered x), .int 1, .int 2]) (ws' := wLG cI cZ cO q x) C mw_271 mw_272 mw_37 mw_266 hd_X6_both rfl rfl ⟨Nat.le_of_ble_eq_true rfl, Nat.le_of_ble_eq_true rfl⟩ (c_X6_both l D cI cZ cO  (f_X6_ordered x) 1 2 ) [] [.inl 0, .inl 1, .inl 2, .inl 3, .inl 4, .inl 5, .inl 6, .inl 7, .inl 8, .inl 9, .inl 10, .inl 11, .inl 12, .inl 13, .inl 14, .inl 15, .inl 16, .inl 17, .inl 18, .inl 19, .inl 20, .inl 21, .inl 22, .inl 23, .inl 24] trivial rfl ⟨rfl, rfl, rfl, rfl, rfl, rfl, rfl, rfl, rfl, rfl, rfl, rfl, rfl, rfl, rfl, rfl, rfl, rfl, rfl, rfl, rfl, rfl, rfl, rfl, rfl, trivial⟩ rfl ⟨rfl, rfl, rfl, rfl, rfl, rfl, rfl, rfl, rfl, rfl, rfl, rfl, rfl, rfl, rfl, rfl, rfl, rfl, rfl, rfl, rfl, rfl, rfl, rfl, rfl, trivial⟩ rfl rfl (Nat.le_of_ble_eq_true rfl) (Nat.le_of_ble_eq_true rfl) (Nat.le_of_ble_eq_true rfl) dX6_tick_8 ?_
  refine x_join (fun (b2 : Sy) => f_X6_tick_k28 x b2) 28 (fun (b2 : Sy) => [(0, .ref (q 0)), (1, .int (f_X6_ordered x))]) (fun (b2 : Sy) => []) (fun (b2 : Sy) => wLG cI cZ cO q b2) (fun b2 => ?_) _ (fun J13 => ?_)
  · unfold f_X6_tick_k28
    refine x_aload_n C dX6_tick_28 0 rfl ?_
    refine x_dup C dX6_tick_29 rfl ?_
    refine x_get (v := .int ((b2 0) 4 0)) C hwsX60 4 mw_229 0 rfl rfl (by decide) rfl rfl dX6_tick_30 ?_
    refine x_iconst C 1 dX6_tick_33 (by decide) ?_
    refine x_iadd C dX6_tick_34 ?_
    refine x_put (ws' := wLG cI cZ cO q (upY b2 0 (put (b2 0) 4 0 (((b2 0) 4 0) + 1)))) C hwsX60 tyX6 tyX6_ok nmX6 4 mw_229 0 rfl rfl (by decide) rfl rfl rfl rfl (Nat.le_of_ble_eq_true rfl) dX6_tick_35 rfl ?_
    refine x_aload_n C dX6_tick_38 0 rfl ?_
    refine x_get (v := .ref (q 2)) C hwsX60 0 mw_219 0 rfl rfl (by decide) rfl rfl dX6_tick_39 ?_
    refine x_iload_n C dX6_tick_42 1 rfl ?_
    refine x_cVv (q0 := 2) (As := [.int (f_X6_ordered x)]) (ws' := wLG cI cZ cO q (upY (upY b2 0 (put (b2 0) 4 0 (((b2 0) 4 0) + 1))) 1 (f_X2_move (b2 1) (f_X6_ordered x)))) C mw_273 mw_274 mw_275 mw_171 mw_206 hd_X2_move rfl rfl ⟨Nat.le_of_ble_eq_true rfl, Nat.le_of_ble_eq_true rfl⟩ rfl rfl rfl (c_X2_move l D cI cZ cO (q 2) (q 3) (q 4) (q 5) (q 6) (q 7) (b2 1) (f_X6_ordered x) ) [2, 3, 4, 5, 6, 7] [.inl 0, .inl 1, .inr 0, .inr 1, .inr 2, .inr 3, .inr 4, .inr 5, .inl 8, .inl 9, .inl 10, .inl 11, .inl 12, .inl 13, .inl 14, .inl 15, .inl 16, .inl 17, .inl 18, .inl 19, .inl 20, .inl 21, .inl 22, .inl 23, .inl 24] ⟨rfl, rfl, rfl, rfl, rfl, rfl, trivial⟩ rfl ⟨rfl, rfl, rfl, rfl, rfl, rfl, rfl, rfl, rfl, rfl, rfl, rfl, rfl, rfl, rfl, rfl, rfl, rfl, rfl, rfl, rfl, rfl, rfl, rfl, rfl, trivial⟩ rfl ⟨rfl, rfl, rfl, rfl, rfl, rfl, rfl, rfl, rfl, rfl, rfl, rfl, rfl, rfl, rfl, rfl, rfl, rfl, rfl, rfl, rfl, rfl, rfl, rfl, rfl, trivial⟩ rfl rfl (Nat.le_of_ble_eq_true rfl) (Nat.le_of_ble_eq_true rfl) (Nat.le_of_ble_eq_true rfl) dX6_tick_43 ?_
    unfold f_X6_tick_o43
    generalize f_X2_move (b2 1) (f_X6_ordered x) = o3
    refine x_aload_n C dX6_tick_46 0 rfl ?_
    refine x_get (v := .ref (q 8)) C hwsX60 1 mw_222 0 rfl rfl (by decide) rfl rfl dX6_tick_47 ?_
    refine x_aload_n C dX6_tick_50 0 rfl ?_
    refine x_get (v := .ref (q 2)) C hwsX60 0 mw_219 0 rfl rfl (by decide) rfl rfl dX6_tick_51 ?_
    refine x_cVv (q0 := 8) (As := [.ref (q 2)]) (ws' := wLG cI cZ cO q (upY (upY (upY b2 0 (put (b2 0) 4 0 (((b2 0) 4 0) + 1))) 1 o3) 2 (f_X3_feel (b2 2) o3))) C mw_236 mw_237 mw_238 mw_65 mw_209 hd_X3_feel rfl rfl ⟨Nat.le_of_ble_eq_true rfl, Nat.le_of_ble_eq_true rfl⟩ rfl rfl rfl (c_X3_feel l D cI cZ cO (q 8) (q 9) (q 10) (q 2) (q 3) (q 4) (q 5) (q 6) (q 7) (b2 2) o3 ) [8, 9, 10, 2, 3, 4, 5, 6, 7] [.inl 0, .inl 1, .inr 3, .inr 4, .inr 5, .inr 6, .inr 7, .inr 8, .inr 0, .inr 1, .inr 2, .inl 11, .inl 12, .inl 13, .inl 14, .inl 15, .inl 16, .inl 17, .inl 18, .inl 19, .inl 20, .inl 21, .inl 22, .inl 23, .inl 24] ⟨rfl, rfl, rfl, rfl, rfl, rfl, rfl, rfl, rfl, trivial⟩ rfl ⟨rfl, rfl, rfl, rfl, rfl, rfl, rfl, rfl, rfl, rfl, rfl, rfl, rfl, rfl, rfl, rfl, rfl, rfl, rfl, rfl, rfl, rfl, rfl, rfl, rfl, trivial⟩ rfl ⟨rfl, rfl, rfl, rfl, rfl, rfl, rfl, rfl, rfl, rfl, rfl, rfl, rfl, rfl, rfl, rfl, rfl, rfl, rfl, rfl, rfl, rfl, rfl, rfl, rfl, trivial⟩ rfl rfl (Nat.le_of_ble_eq_true rfl) (Nat.le_of_ble_eq_true rfl) (Nat.le_of_ble_eq_true rfl) dX6_tick_54 ?_
    unfold f_X6_tick_o54
    generalize f_X3_feel (b2 2) o3 = o4
    refine x_iconst C 0 dX6_tick_57 (by decide) ?_
    refine x_istore_n (L' := [(2, .int 0), (0, .ref (q 0)), (1, .int (f_X6_ordered x))]) C dX6_tick_58 (by decide) rfl ?_
    refine x_iconst C 0 dX6_tick_59 (by decide) ?_
    refine x_istore_n (L' := [(3, .int 0), (2, .int 0), (0, .ref (q 0)), (1, .int (f_X6_ordered x))]) C dX6_tick_60 (by decide) rfl ?_
    refine x_iload_n C dX6_tick_61 0 rfl ?_
    refine x_iconst C 2 dX6_tick_62 (by decide) ?_
    refine x_icmp_ge_f C 117 dX6_tick_63 (by decide) (by decide) ?_
    refine x_aload_n C dX6_tick_66 2 rfl ?_
    refine x_get (v := .ref (q 1)) C hwsX60 2 mw_224 0 rfl rfl (by decide) rfl rfl dX6_tick_67 ?_
    refine x_iload_n C dX6_tick_70 0 rfl ?_
    refine x_aald C 1 2 rfl rfl 0 rfl (by decide) (by decide) rfl dX6_tick_71 ?_
    refine x_get (v := .int ((b2 3) 8 0)) C hwsX00 8 mw_263 11 rfl rfl (by decide) rfl rfl dX6_tick_72 ?_
    refine x_join (fun (b6 : Int32 × Sy) => f_X6_tick_k111_2 b6) 111 (fun (b6 : Int32 × Sy) => [(0, .ref (q 0)), (1, .int (f_X6_ordered x)), (2, .int b6.1), (3, .int 0)]) (fun (b6 : Int32 × Sy) => []) (fun (b6 : Int32 × Sy) => wLG cI cZ cO q b6.2) (fun b6 => ?_) _ (fun J11 => ?_)
    · unfold f_X6_tick_k111_2
      refine x_iinc (L' := [(3, .int 1), (0, .ref (q 0)), (1, .int (f_X6_ordered x)), (2, .int b6.1)]) C 1 dX6_tick_111 3 rfl (by decide) (by decide) rfl ?_
      refine x_goto C 61 dX6_tick_114 (by decide) ?_
      refine x_iload_n C dX6_tick_61 0 rfl ?_
      refine x_iconst C 2 dX6_tick_62 (by decide) ?_
      refine x_icmp_ge_f C 117 dX6_tick_63 (by decide) (by decide) ?_
      refine x_aload_n C dX6_tick_66 1 rfl ?_
      refine x_get (v := .ref (q 1)) C hwsX60 2 mw_224 0 rfl rfl (by decide) rfl rfl dX6_tick_67 ?_
      refine x_iload_n C dX6_tick_70 0 rfl ?_
      refine x_aald C 1 2 rfl rfl 1 rfl (by decide) (by decide) rfl dX6_tick_71 ?_
      refine x_get (v := .int ((b6.2 6) 8 0)) C hwsX00 8 mw_263 17 rfl rfl (by decide) rfl rfl dX6_tick_72 ?_
      refine x_join (fun (b8 : Int32 × Sy) => f_X6_tick_k111 b8) 111 (fun (b8 : Int32 × Sy) => [(0, .ref (q 0)), (1, .int (f_X6_ordered x)), (2, .int b8.1), (3, .int 1)]) (fun (b8 : Int32 × Sy) => []) (fun (b8 : Int32 × Sy) => wLG cI cZ cO q b8.2) (fun b8 => ?_) _ (fun J9 => ?_)
      · unfold f_X6_tick_k111
        refine x_iinc (L' := [(3, .int 2), (0, .ref (q 0)), (1, .int (f_X6_ordered x)), (2, .int b8.1)]) C 2 dX6_tick_111 3 rfl (by decide) (by decide) rfl ?_
        refine x_goto C 61 dX6_tick_114 (by decide) ?_
        refine x_iload_n C dX6_tick_61 0 rfl ?_
        refine x_iconst C 2 dX6_tick_62 (by decide) ?_
        refine x_icmp_ge_t C 117 dX6_tick_63 (by decide) (by decide) ?_
        refine x_aload_n C dX6_tick_117 1 rfl ?_
        refine x_iload_n C dX6_tick_118 3 rfl ?_
        refine x_put (ws' := wLG cI cZ cO q (upY b8.2 0 (put (b8.2 0) 5 0 b8.1))) C hwsX60 tyX6 tyX6_ok nmX6 5 mw_230 0 rfl rfl (by decide) rfl rfl rfl rfl (Nat.le_of_ble_eq_true rfl) dX6_tick_119 rfl ?_
        exact x_vret C rfl dX6_tick_122 rfl
      · refine x_if_ne C 111 dX6_tick_75 (by decide) (fun c7 => ?_) (fun c7 => ?_)
        · refine x_aload_n C dX6_tick_78 1 rfl ?_
          refine x_get (v := .ref (q 1)) C hwsX60 2 mw_224 0 rfl rfl (by decide) rfl rfl dX6_tick_79 ?_
          refine x_iload_n C dX6_tick_82 0 rfl ?_
          refine x_aald C 1 2 rfl rfl 1 rfl (by decide) (by decide) rfl dX6_tick_83 ?_
          refine x_aload_n C dX6_tick_84 1 rfl ?_
          refine x_get (v := .ref (q 8)) C hwsX60 1 mw_222 0 rfl rfl (by decide) rfl rfl dX6_tick_85 ?_
          refine x_aload_n C dX6_tick_88 1 rfl ?_
          refine x_get (v := .ref (q 23)) C hwsX60 3 mw_228 0 rfl rfl (by decide) rfl rfl dX6_tick_89 ?_
          refine x_aload_n C dX6_tick_92 1 rfl ?_
          refine x_get (v := .int ((b6.2 0) 4 0)) C hwsX60 4 mw_229 0 rfl rfl (by decide) rfl rfl dX6_tick_93 ?_
          refine x_cVv (q0 := 17) (As := [.ref (q 8), .ref (q 23), .int ((b6.2 0) 4 0)]) (ws' := wLG cI cZ cO q (upY (upY (upY (upY b6.2 6 ((f_X0_act (b6.2 6) (b6.2 7) (b6.2 8) (b6.2 2) (b6.2 9) ((b6.2 0) 4 0)).1)) 7 ((f_X0_act (b6.2 6) (b6.2 7) (b6.2 8) (b6.2 2) (b6.2 9) ((b6.2 0) 4 0)).2.1)) 8 ((f_X0_act (b6.2 6) (b6.2 7) (b6.2 8) (b6.2 2) (b6.2 9) ((b6.2 0) 4 0)).2.2.1)) 9 ((f_X0_act (b6.2 6) (b6.2 7) (b6.2 8) (b6.2 2) (b6.2 9) ((b6.2 0) 4 0)).2.2.2))) C mw_276 mw_277 mw_278 mw_46 mw_151 hd_X0_act rfl rfl ⟨Nat.le_of_ble_eq_true rfl, Nat.le_of_ble_eq_true rfl⟩ rfl rfl rfl (c_X0_act l D cI cZ cO (q 17) (q 18) (q 19) (q 20) (q 21) (q 22) (q 8) (q 9) (q 10) (q 23) (q 24) (b6.2 6) (b6.2 7) (b6.2 8) (b6.2 2) (b6.2 9) ((b6.2 0) 4 0) ) [17, 18, 19, 20, 21, 22, 8, 9, 10, 23, 24] [.inl 0, .inl 1, .inl 2, .inl 3, .inl 4, .inl 5, .inl 6, .inl 7, .inr 6, .inr 7, .inr 8, .inl 11, .inl 12, .inl 13, .inl 14, .inl 15, .inl 16, .inr 0, .inr 1, .inr 2, .inr 3, .inr 4, .inr 5, .inr 9, .inr 10] ⟨rfl, rfl, rfl, rfl, rfl, rfl, rfl, rfl, rfl, rfl, rfl, trivial⟩ rfl ⟨rfl, rfl, rfl, rfl, rfl, rfl, rfl, rfl, rfl, rfl, rfl, rfl, rfl, rfl, rfl, rfl, rfl, rfl, rfl, rfl, rfl, rfl, rfl, rfl, rfl, trivial⟩ rfl ⟨rfl, rfl, rfl, rfl, rfl, rfl, rfl, rfl, rfl, rfl, rfl, rfl, rfl, rfl, rfl, rfl, rfl, rfl, rfl, rfl, rfl, rfl, rfl, rfl, rfl, trivial⟩ rfl rfl (Nat.le_of_ble_eq_true rfl) (Nat.le_of_ble_eq_true rfl) (Nat.le_of_ble_eq_true rfl) dX6_tick_96 ?_
          unfold f_X6_tick_o96
          generalize f_X0_act (b6.2 6) (b6.2 7) (b6.2 8) (b6.2 2) (b6.2 9) ((b6.2 0) 4 0) = o10
          refine x_lsub (L' := [(0, .ref (q 0)), (1, .int (f_X6_ordered x)), (2, .int b6.1), (3, .int 1)]) [1, 2, 3, 0] rfl ?_
          refine x_iload_n C dX6_tick_99 2 rfl ?_
          refine x_aload_n C dX6_tick_100 0 rfl ?_
          refine x_get (v := .ref (q 1)) C hwsX60 2 mw_224 0 rfl rfl (by decide) rfl rfl dX6_tick_101 ?_
          refine x_iload_n C dX6_tick_104 3 rfl ?_
          refine x_aald C 1 2 rfl rfl 1 rfl (by decide) (by decide) rfl dX6_tick_105 ?_
          refine x_cVi (q0 := 17) (As := []) (ws' := wLG cI cZ cO q (upY (upY (upY (upY b6.2 6 o10.1) 7 o10.2.1) 8 o10.2.2.1) 9 o10.2.2.2)) C mw_279 mw_280 mw_281 mw_46 mw_51 hd_X0_shows rfl rfl ⟨Nat.le_of_ble_eq_true rfl, Nat.le_of_ble_eq_true rfl⟩ rfl rfl rfl (c_X0_shows l D cI cZ cO (q 17) (q 18) (q 19) (q 20) (q 21) (q 22) o10.1 o10.2.1 o10.2.2.1 ) [17, 18, 19, 20, 21, 22] [.inl 0, .inl 1, .inl 2, .inl 3, .inl 4, .inl 5, .inl 6, .inl 7, .inl 8, .inl 9, .inl 10, .inl 11, .inl 12, .inl 13, .inl 14, .inl 15, .inl 16, .inr 0, .inr 1, .inr 2, .inr 3, .inr 4, .inr 5, .inl 23, .inl 24] ⟨rfl, rfl, rfl, rfl, rfl, rfl, trivial⟩ rfl ⟨rfl, rfl, rfl, rfl, rfl, rfl, rfl, rfl, rfl, rfl, rfl, rfl, rfl, rfl, rfl, rfl, rfl, rfl, rfl, rfl, rfl, rfl, rfl, rfl, rfl, trivial⟩ rfl ⟨rfl, rfl, rfl, rfl, rfl, rfl, rfl, rfl, rfl, rfl, rfl, rfl, rfl, rfl, rfl, rfl, rfl, rfl, rfl, rfl, rfl, rfl, rfl, rfl, rfl, trivial⟩ rfl rfl (Nat.le_of_ble_eq_true rfl) (Nat.le_of_ble_eq_true rfl) (Nat.le_of_ble_eq_true rfl) dX6_tick_106 ?_
          refine x_ior C dX6_tick_109 ?_
          refine x_istore_n (L' := [(2, .int (b6.1 ||| (f_X0_shows o10.1 o10.2.1 o10.2.2.1))), (0, .ref (q 0)), (1, .int (f_X6_ordered x)), (3, .int 1)]) C dX6_tick_110 (by decide) rfl ?_
          refine x_lsub (L' := [(0, .ref (q 0)), (1, .int (f_X6_ordered x)), (2, .int (b6.1 ||| (f_X0_shows o10.1 o10.2.1 o10.2.2.1))), (3, .int 1)]) [1, 2, 0, 3] rfl ?_
          exact J9 (b6.1 ||| (f_X0_shows o10.1 o10.2.1 o10.2.2.1), upY (upY (upY (upY b6.2 6 o10.1) 7 o10.2.1) 8 o10.2.2.1) 9 o10.2.2.2)
        · refine x_lsub (L' := [(0, .ref (q 0)), (1, .int (f_X6_ordered x)), (2, .int b6.1), (3, .int 1)]) [1, 2, 3, 0] rfl ?_
          exact J9 (b6.1, b6.2)
    · refine x_if_ne C 111 dX6_tick_75 (by decide) (fun c5 => ?_) (fun c5 => ?_)
      · refine x_aload_n C dX6_tick_78 2 rfl ?_
        refine x_get (v := .ref (q 1)) C hwsX60 2 mw_224 0 rfl rfl (by decide) rfl rfl dX6_tick_79 ?_
        refine x_iload_n C dX6_tick_82 0 rfl ?_
        refine x_aald C 1 2 rfl rfl 0 rfl (by decide) (by decide) rfl dX6_tick_83 ?_
        refine x_aload_n C dX6_tick_84 2 rfl ?_
        refine x_get (v := .ref (q 8)) C hwsX60 1 mw_222 0 rfl rfl (by decide) rfl rfl dX6_tick_85 ?_
        refine x_aload_n C dX6_tick_88 2 rfl ?_
        refine x_get (v := .ref (q 23)) C hwsX60 3 mw_228 0 rfl rfl (by decide) rfl rfl dX6_tick_89 ?_
        refine x_aload_n C dX6_tick_92 2 rfl ?_
        refine x_get (v := .int (((b2 0) 4 0) + 1)) C hwsX60 4 mw_229 0 rfl rfl (by decide) rfl rfl dX6_tick_93 ?_
        refine x_cVv (q0 := 11) (As := [.ref (q 8), .ref (q 23), .int (((b2 0) 4 0) + 1)]) (ws' := wLG cI cZ cO q (upY (upY (upY (upY (upY (upY (upY b2 0 (put (b2 0) 4 0 (((b2 0) 4 0) + 1))) 1 o3) 2 o4) 3 ((f_X0_act (b2 3) (b2 4) (b2 5) o4 (b2 9) (((b2 0) 4 0) + 1)).1)) 4 ((f_X0_act (b2 3) (b2 4) (b2 5) o4 (b2 9) (((b2 0) 4 0) + 1)).2.1)) 5 ((f_X0_act (b2 3) (b2 4) (b2 5) o4 (b2 9) (((b2 0) 4 0) + 1)).2.2.1)) 9 ((f_X0_act (b2 3) (b2 4) (b2 5) o4 (b2 9) (((b2 0) 4 0) + 1)).2.2.2))) C mw_276 mw_277 mw_278 mw_46 mw_151 hd_X0_act rfl rfl ⟨Nat.le_of_ble_eq_true rfl, Nat.le_of_ble_eq_true rfl⟩ rfl rfl rfl (c_X0_act l D cI cZ cO (q 11) (q 12) (q 13) (q 14) (q 15) (q 16) (q 8) (q 9) (q 10) (q 23) (q 24) (b2 3) (b2 4) (b2 5) o4 (b2 9) (((b2 0) 4 0) + 1) ) [11, 12, 13, 14, 15, 16, 8, 9, 10, 23, 24] [.inl 0, .inl 1, .inl 2, .inl 3, .inl 4, .inl 5, .inl 6, .inl 7, .inr 6, .inr 7, .inr 8, .inr 0, .inr 1, .inr 2, .inr 3, .inr 4, .inr 5, .inl 17, .inl 18, .inl 19, .inl 20, .inl 21, .inl 22, .inr 9, .inr 10] ⟨rfl, rfl, rfl, rfl, rfl, rfl, rfl, rfl, rfl, rfl, rfl, trivial⟩ rfl ⟨rfl, rfl, rfl, rfl, rfl, rfl, rfl, rfl, rfl, rfl, rfl, rfl, rfl, rfl, rfl, rfl, rfl, rfl, rfl, rfl, rfl, rfl, rfl, rfl, rfl, trivial⟩ rfl ⟨rfl, rfl, rfl, rfl, rfl, rfl, rfl, rfl, rfl, rfl, rfl, rfl, rfl, rfl, rfl, rfl, rfl, rfl, rfl, rfl, rfl, rfl, rfl, rfl, rfl, trivial⟩ rfl rfl (Nat.le_of_ble_eq_true rfl) (Nat.le_of_ble_eq_true rfl) (Nat.le_of_ble_eq_true rfl) dX6_tick_96 ?_
        unfold f_X6_tick_o96_2
        generalize f_X0_act (b2 3) (b2 4) (b2 5) o4 (b2 9) (((b2 0) 4 0) + 1) = o12
        refine x_lsub (L' := [(0, .ref (q 0)), (1, .int (f_X6_ordered x)), (2, .int 0), (3, .int 0)]) [2, 3, 1, 0] rfl ?_
        refine x_iload_n C dX6_tick_99 2 rfl ?_
        refine x_aload_n C dX6_tick_100 0 rfl ?_
        refine x_get (v := .ref (q 1)) C hwsX60 2 mw_224 0 rfl rfl (by decide) rfl rfl dX6_tick_101 ?_
        refine x_iload_n C dX6_tick_104 3 rfl ?_
        refine x_aald C 1 2 rfl rfl 0 rfl (by decide) (by decide) rfl dX6_tick_105 ?_
        refine x_cVi (q0 := 11) (As := []) (ws' := wLG cI cZ cO q (upY (upY (upY (upY (upY (upY (upY b2 0 (put (b2 0) 4 0 (((b2 0) 4 0) + 1))) 1 o3) 2 o4) 3 o12.1) 4 o12.2.1) 5 o12.2.2.1) 9 o12.2.2.2)) C mw_279 mw_280 mw_281 mw_46 mw_51 hd_X0_shows rfl rfl ⟨Nat.le_of_ble_eq_true rfl, Nat.le_of_ble_eq_true rfl⟩ rfl rfl rfl (c_X0_shows l D cI cZ cO (q 11) (q 12) (q 13) (q 14) (q 15) (q 16) o12.1 o12.2.1 o12.2.2.1 ) [11, 12, 13, 14, 15, 16] [.inl 0, .inl 1, .inl 2, .inl 3, .inl 4, .inl 5, .inl 6, .inl 7, .inl 8, .inl 9, .inl 10, .inr 0, .inr 1, .inr 2, .inr 3, .inr 4, .inr 5, .inl 17, .inl 18, .inl 19, .inl 20, .inl 21, .inl 22, .inl 23, .inl 24] ⟨rfl, rfl, rfl, rfl, rfl, rfl, trivial⟩ rfl ⟨rfl, rfl, rfl, rfl, rfl, rfl, rfl, rfl, rfl, rfl, rfl, rfl, rfl, rfl, rfl, rfl, rfl, rfl, rfl, rfl, rfl, rfl, rfl, rfl, rfl, trivial⟩ rfl ⟨rfl, rfl, rfl, rfl, rfl, rfl, rfl, rfl, rfl, rfl, rfl, rfl, rfl, rfl, rfl, rfl, rfl, rfl, rfl, rfl, rfl, rfl, rfl, rfl, rfl, trivial⟩ rfl rfl (Nat.le_of_ble_eq_true rfl) (Nat.le_of_ble_eq_true rfl) (Nat.le_of_ble_eq_true rfl) dX6_tick_106 ?_
        refine x_ior C dX6_tick_109 ?_
        refine x_istore_n (L' := [(2, .int (0 ||| (f_X0_shows o12.1 o12.2.1 o12.2.2.1))), (0, .ref (q 0)), (1, .int (f_X6_ordered x)), (3, .int 0)]) C dX6_tick_110 (by decide) rfl ?_
        refine x_lsub (L' := [(0, .ref (q 0)), (1, .int (f_X6_ordered x)), (2, .int (0 ||| (f_X0_shows o12.1 o12.2.1 o12.2.2.1))), (3, .int 0)]) [1, 2, 0, 3] rfl ?_
        exact J11 (0 ||| (f_X0_shows o12.1 o12.2.1 o12.2.2.1), upY (upY (upY (upY (upY (upY (upY b2 0 (put (b2 0) 4 0 (((b2 0) 4 0) + 1))) 1 o3) 2 o4) 3 o12.1) 4 o12.2.1) 5 o12.2.2.1) 9 o12.2.2.2)
      · refine x_lsub (L' := [(0, .ref (q 0)), (1, .int (f_X6_ordered x)), (2, .int 0), (3, .int 0)]) [2, 3, 1, 0] rfl ?_
        exact J11 (0, upY (upY (upY b2 0 (put (b2 0) 4 0 (((b2 0) 4 0) + 1))) 1 o3) 2 o4)
  · refine x_if_neZ C 23 dX6_tick_11 (by decide) (fun c1 => ?_) (fun c1 => ?_)
    · refine x_aload_n C dX6_tick_23 1 rfl ?_
      refine x_iconst C 1 dX6_tick_24 (by decide) ?_
      refine x_put (ws' := wLG cI cZ cO q (upY x 0 (put (x 0) 6 0 1))) C hwsX60 tyX6 tyX6_ok nmX6 6 mw_231 0 rfl rfl (by decide) rfl rfl (by decide) (by decide) (Nat.le_of_ble_eq_true rfl) dX6_tick_25 rfl ?_
      refine x_lsub (L' := [(0, .ref (q 0)), (1, .int (f_X6_ordered x))]) [1, 0] rfl ?_
      exact J13 (upY x 0 (put (x 0) 6 0 1))
    · refine x_iload_n C dX6_tick_14 0 rfl ?_
      refine x_iconst C 3 dX6_tick_15 (by decide) ?_
      refine x_iconst C 4 dX6_tick_16 (by decide) ?_
      refine x_cSi (As := [.int (f_X6_ordered x), .int 3, .int 4]) (ws' := wLG cI cZ cO q x) C mw_271 mw_272 mw_37 mw_266 hd_X6_both rfl rfl ⟨Nat.le_of_ble_eq_true rfl, Nat.le_of_ble_eq_true rfl⟩ (c_X6_both l D cI cZ cO  (f_X6_ordered x) 3 4 ) [] [.inl 0, .inl 1, .inl 2, .inl 3, .inl 4, .inl 5, .inl 6, .inl 7, .inl 8, .inl 9, .inl 10, .inl 11, .inl 12, .inl 13, .inl 14, .inl 15, .inl 16, .inl 17, .inl 18, .inl 19, .inl 20, .inl 21, .inl 22, .inl 23, .inl 24] trivial rfl ⟨rfl, rfl, rfl, rfl, rfl, rfl, rfl, rfl, rfl, rfl, rfl, rfl, rfl, rfl, rfl, rfl, rfl, rfl, rfl, rfl, rfl, rfl, rfl, rfl, rfl, trivial⟩ rfl ⟨rfl, rfl, rfl, rfl, rfl, rfl, rfl, rfl, rfl, rfl, rfl, rfl, rfl, rfl, rfl, rfl, rfl, rfl, rfl, rfl, rfl, rfl, rfl, rfl, rfl, trivial⟩ rfl rfl (Nat.le_of_ble_eq_true rfl) (Nat.le_of_ble_eq_true rfl) (Nat.le_of_ble_eq_true rfl) dX6_tick_17 ?_
      refine x_if_eqZ C 28 dX6_tick_20 (by decide) (fun c14 => ?_) (fun c14 => ?_)
      · refine x_aload_n C dX6_tick_23 1 rfl ?_
        refine x_iconst C 1 dX6_tick_24 (by decide) ?_
        refine x_put (ws' := wLG cI cZ cO q (upY x 0 (put (x 0) 6 0 1))) C hwsX60 tyX6 tyX6_ok nmX6 6 mw_231 0 rfl rfl (by decide) rfl rfl (by decide) (by decide) (Nat.le_of_ble_eq_true rfl) dX6_tick_25 rfl ?_
        refine x_lsub (L' := [(0, .ref (q 0)), (1, .int (f_X6_ordered x))]) [1, 0] rfl ?_
        exact J13 (upY x 0 (put (x 0) 6 0 1))
      · refine x_lsub (L' := [(0, .ref (q 0)), (1, .int (f_X6_ordered x))]) [1, 0] rfl ?_
        exact J13 x

def f_X6_handle (x : Sy) (xd : Int32) : Int32 × Sy := if (f_X6_outside xd 1) = true then ((-2), x) else ((f_X2_moveHandle (x 1) xd).1, upY x 1 ((f_X2_moveHandle (x 1) xd).2))
theorem hd_X6_handle : yX6_handle.cls ≠ "java/lang/invoke/MethodHandle" ∧ yX6_handle.cls ≠ "java/lang/invoke/VarHandle" ∧ (parseMethodDescriptor yX6_handle.desc).map (fun d => d.parameters.length) = some 1 := by decide +kernel
set_option maxHeartbeats 4000000 in
set_option maxRecDepth 100000 in
theorem c_X6_handle (l : Launch) (D : va_G) (cI cZ cO : ClassId) (q : Nat → Nat) (x : Sy) (xd : Int32)  : CTi l D (T3 cI cZ cO) yX6_handle (Cond.code yX6_handle cX6_handle 2 (some .int) :: WA) ({ frames := 1, cells := 0, slots := 0, locals := 22 } : Room) [.ref (q 0), .int xd] (wLG cI cZ cO q x) ((f_X6_handle x xd).1) (wLG cI cZ cO q (f_X6_handle x xd).2) := by
  refine ct_i (K := fun z => z) (t := f_X6_handle x xd) (rf := fun o => o.1) (wf := fun o => wLG cI cZ cO q o.2) (own := RX6) (nm := "handle") (L0 := [(0, .ref (q 0)), (1, .int xd)]) (plainFor_of_name (by decide +kernel)) rfl rfl (Nat.le_of_ble_eq_true rfl) rfl ?_
  intro p e s m args below meth c A C
  unfold f_X6_handle
  refine x_iload_n C dX6_handle_0 1 rfl ?_
  refine x_iconst C 1 dX6_handle_1 (by decide) ?_
  refine x_cSi (As := [.int xd, .int 1]) (ws' := wLG cI cZ cO q x) C mw_245 mw_36 mw_37 mw_34 hd_X6_outside rfl rfl ⟨Nat.le_of_ble_eq_true rfl, Nat.le_of_ble_eq_true rfl⟩ (c_X6_outside l D cI cZ cO  xd 1 ) [] [.inl 0, .inl 1, .inl 2, .inl 3, .inl 4, .inl 5, .inl 6, .inl 7, .inl 8, .inl 9, .inl 10, .inl 11, .inl 12, .inl 13, .inl 14, .inl 15, .inl 16, .inl 17, .inl 18, .inl 19, .inl 20, .inl 21, .inl 22, .inl 23, .inl 24] trivial rfl ⟨rfl, rfl, rfl, rfl, rfl, rfl, rfl, rfl, rfl, rfl, rfl, rfl, rfl, rfl, rfl, rfl, rfl, rfl, rfl, rfl, rfl, rfl, rfl, rfl, rfl, trivial⟩ rfl ⟨rfl, rfl, rfl, rfl, rfl, rfl, rfl, rfl, rfl, rfl, rfl, rfl, rfl, rfl, rfl, rfl, rfl, rfl, rfl, rfl, rfl, rfl, rfl, rfl, rfl, trivial⟩ rfl rfl (Nat.le_of_ble_eq_true rfl) (Nat.le_of_ble_eq_true rfl) (Nat.le_of_ble_eq_true rfl) dX6_handle_2 ?_
  refine x_if_eqZ C 13 dX6_handle_5 (by decide) (fun c1 => ?_) (fun c1 => ?_)
  · refine x_bipush C (-2) dX6_handle_8 (by decide) ?_
    refine x_goto C 21 dX6_handle_10 (by decide) ?_
    exact x_iret C rfl dX6_handle_21 rfl rfl
  · refine x_aload_n C dX6_handle_13 0 rfl ?_
    refine x_get (v := .ref (q 2)) C hwsX60 0 mw_219 0 rfl rfl (by decide) rfl rfl dX6_handle_14 ?_
    refine x_iload_n C dX6_handle_17 1 rfl ?_
    refine x_cVi (q0 := 2) (As := [.int xd]) (ws' := wLG cI cZ cO q (upY x 1 ((f_X2_moveHandle (x 1) xd).2))) C mw_246 mw_247 mw_248 mw_171 mw_176 hd_X2_moveHandle rfl rfl ⟨Nat.le_of_ble_eq_true rfl, Nat.le_of_ble_eq_true rfl⟩ rfl rfl rfl (c_X2_moveHandle l D cI cZ cO (q 2) (q 3) (q 4) (q 5) (q 6) (q 7) (x 1) xd ) [2, 3, 4, 5, 6, 7] [.inl 0, .inl 1, .inr 0, .inr 1, .inr 2, .inr 3, .inr 4, .inr 5, .inl 8, .inl 9, .inl 10, .inl 11, .inl 12, .inl 13, .inl 14, .inl 15, .inl 16, .inl 17, .inl 18, .inl 19, .inl 20, .inl 21, .inl 22, .inl 23, .inl 24] ⟨rfl, rfl, rfl, rfl, rfl, rfl, trivial⟩ rfl ⟨rfl, rfl, rfl, rfl, rfl, rfl, rfl, rfl, rfl, rfl, rfl, rfl, rfl, rfl, rfl, rfl, rfl, rfl, rfl, rfl, rfl, rfl, rfl, rfl, rfl, trivial⟩ rfl ⟨rfl, rfl, rfl, rfl, rfl, rfl, rfl, rfl, rfl, rfl, rfl, rfl, rfl, rfl, rfl, rfl, rfl, rfl, rfl, rfl, rfl, rfl, rfl, rfl, rfl, trivial⟩ rfl rfl (Nat.le_of_ble_eq_true rfl) (Nat.le_of_ble_eq_true rfl) (Nat.le_of_ble_eq_true rfl) dX6_handle_18 ?_
    exact x_iret C rfl dX6_handle_21 rfl rfl

def f_X6_ground (x : Sy) (xb : Int32) : Int32 × Sy := if (f_X6_outside xb 7) = true then ((-2), x) else ((x 1) 9 0, upY x 1 (put (x 1) 9 0 xb))
theorem hd_X6_ground : yX6_ground.cls ≠ "java/lang/invoke/MethodHandle" ∧ yX6_ground.cls ≠ "java/lang/invoke/VarHandle" ∧ (parseMethodDescriptor yX6_ground.desc).map (fun d => d.parameters.length) = some 1 := by decide +kernel
set_option maxHeartbeats 4000000 in
set_option maxRecDepth 100000 in
theorem c_X6_ground (l : Launch) (D : va_G) (cI cZ cO : ClassId) (q : Nat → Nat) (x : Sy) (xb : Int32)  : CTi l D (T3 cI cZ cO) yX6_ground (Cond.code yX6_ground cX6_ground 3 (some .int) :: WA) ({ frames := 1, cells := 0, slots := 0, locals := 21 } : Room) [.ref (q 0), .int xb] (wLG cI cZ cO q x) ((f_X6_ground x xb).1) (wLG cI cZ cO q (f_X6_ground x xb).2) := by
  refine ct_i (K := fun z => z) (t := f_X6_ground x xb) (rf := fun o => o.1) (wf := fun o => wLG cI cZ cO q o.2) (own := RX6) (nm := "ground") (L0 := [(0, .ref (q 0)), (1, .int xb)]) (plainFor_of_name (by decide +kernel)) rfl rfl (Nat.le_of_ble_eq_true rfl) rfl ?_
  intro p e s m args below meth c A C
  unfold f_X6_ground
  refine x_iload_n C dX6_ground_0 1 rfl ?_
  refine x_bipush C 7 dX6_ground_1 (by decide) ?_
  refine x_cSi (As := [.int xb, .int 7]) (ws' := wLG cI cZ cO q x) C mw_245 mw_36 mw_37 mw_34 hd_X6_outside rfl rfl ⟨Nat.le_of_ble_eq_true rfl, Nat.le_of_ble_eq_true rfl⟩ (c_X6_outside l D cI cZ cO  xb 7 ) [] [.inl 0, .inl 1, .inl 2, .inl 3, .inl 4, .inl 5, .inl 6, .inl 7, .inl 8, .inl 9, .inl 10, .inl 11, .inl 12, .inl 13, .inl 14, .inl 15, .inl 16, .inl 17, .inl 18, .inl 19, .inl 20, .inl 21, .inl 22, .inl 23, .inl 24] trivial rfl ⟨rfl, rfl, rfl, rfl, rfl, rfl, rfl, rfl, rfl, rfl, rfl, rfl, rfl, rfl, rfl, rfl, rfl, rfl, rfl, rfl, rfl, rfl, rfl, rfl, rfl, trivial⟩ rfl ⟨rfl, rfl, rfl, rfl, rfl, rfl, rfl, rfl, rfl, rfl, rfl, rfl, rfl, rfl, rfl, rfl, rfl, rfl, rfl, rfl, rfl, rfl, rfl, rfl, rfl, trivial⟩ rfl rfl (Nat.le_of_ble_eq_true rfl) (Nat.le_of_ble_eq_true rfl) (Nat.le_of_ble_eq_true rfl) dX6_ground_3 ?_
  refine x_if_eqZ C 12 dX6_ground_6 (by decide) (fun c1 => ?_) (fun c1 => ?_)
  · refine x_bipush C (-2) dX6_ground_9 (by decide) ?_
    exact x_iret C rfl dX6_ground_11 rfl rfl
  · refine x_aload_n C dX6_ground_12 0 rfl ?_
    refine x_get (v := .ref (q 2)) C hwsX60 0 mw_219 0 rfl rfl (by decide) rfl rfl dX6_ground_13 ?_
    refine x_get (v := .int ((x 1) 9 0)) C hwsX20 9 mw_250 2 rfl rfl (by decide) rfl rfl dX6_ground_16 ?_
    refine x_istore_n (L' := [(2, .int ((x 1) 9 0)), (0, .ref (q 0)), (1, .int xb)]) C dX6_ground_19 (by decide) rfl ?_
    refine x_aload_n C dX6_ground_20 1 rfl ?_
    refine x_get (v := .ref (q 2)) C hwsX60 0 mw_219 0 rfl rfl (by decide) rfl rfl dX6_ground_21 ?_
    refine x_iload_n C dX6_ground_24 2 rfl ?_
    refine x_put (ws' := wLG cI cZ cO q (upY x 1 (put (x 1) 9 0 xb))) C hwsX20 tyX2 tyX2_ok nmX2 9 mw_250 2 rfl rfl (by decide) rfl rfl rfl rfl (Nat.le_of_ble_eq_true rfl) dX6_ground_25 rfl ?_
    refine x_iload_n C dX6_ground_28 0 rfl ?_
    exact x_iret C rfl dX6_ground_29 rfl rfl

def f_X6_channel (x : Sy) (xs : Int32) (xc : Int32) (xf : Int32) : Int32 × Sy := if (f_X6_outside xs 17) = true then ((-2), x) else (if (f_X6_outside xc 2) = true then ((-2), x) else (if (f_X6_outside xf 3) = true then ((-2), x) else ((x 2) 1 (((ixn xs) * 3) + (ixn xc)), upY x 2 (put (x 2) 1 (((ixn xs) * 3) + (ixn xc)) xf))))
theorem hd_X6_channel : yX6_channel.cls ≠ "java/lang/invoke/MethodHandle" ∧ yX6_channel.cls ≠ "java/lang/invoke/VarHandle" ∧ (parseMethodDescriptor yX6_channel.desc).map (fun d => d.parameters.length) = some 3 := by decide +kernel
set_option maxHeartbeats 4000000 in
set_option maxRecDepth 100000 in
theorem c_X6_channel (l : Launch) (D : va_G) (cI cZ cO : ClassId) (q : Nat → Nat) (x : Sy) (xs : Int32) (xc : Int32) (xf : Int32)  : CTi l D (T3 cI cZ cO) yX6_channel (Cond.code yX6_channel cX6_channel 4 (some .int) :: WA) ({ frames := 1, cells := 0, slots := 0, locals := 23 } : Room) [.ref (q 0), .int xs, .int xc, .int xf] (wLG cI cZ cO q x) ((f_X6_channel x xs xc xf).1) (wLG cI cZ cO q (f_X6_channel x xs xc xf).2) := by
  refine ct_i (K := fun z => z) (t := f_X6_channel x xs xc xf) (rf := fun o => o.1) (wf := fun o => wLG cI cZ cO q o.2) (own := RX6) (nm := "channel") (L0 := [(0, .ref (q 0)), (1, .int xs), (2, .int xc), (3, .int xf)]) (plainFor_of_name (by decide +kernel)) rfl rfl (Nat.le_of_ble_eq_true rfl) rfl ?_
  intro p e s m args below meth c A C
  unfold f_X6_channel
  refine x_iload_n C dX6_channel_0 1 rfl ?_
  refine x_bipush C 17 dX6_channel_1 (by decide) ?_
  refine x_cSi (As := [.int xs, .int 17]) (ws' := wLG cI cZ cO q x) C mw_245 mw_36 mw_37 mw_34 hd_X6_outside rfl rfl ⟨Nat.le_of_ble_eq_true rfl, Nat.le_of_ble_eq_true rfl⟩ (c_X6_outside l D cI cZ cO  xs 17 ) [] [.inl 0, .inl 1, .inl 2, .inl 3, .inl 4, .inl 5, .inl 6, .inl 7, .inl 8, .inl 9, .inl 10, .inl 11, .inl 12, .inl 13, .inl 14, .inl 15, .inl 16, .inl 17, .inl 18, .inl 19, .inl 20, .inl 21, .inl 22, .inl 23, .inl 24] trivial rfl ⟨rfl, rfl, rfl, rfl, rfl, rfl, rfl, rfl, rfl, rfl, rfl, rfl, rfl, rfl, rfl, rfl, rfl, rfl, rfl, rfl, rfl, rfl, rfl, rfl, rfl, trivial⟩ rfl ⟨rfl, rfl, rfl, rfl, rfl, rfl, rfl, rfl, rfl, rfl, rfl, rfl, rfl, rfl, rfl, rfl, rfl, rfl, rfl, rfl, rfl, rfl, rfl, rfl, rfl, trivial⟩ rfl rfl (Nat.le_of_ble_eq_true rfl) (Nat.le_of_ble_eq_true rfl) (Nat.le_of_ble_eq_true rfl) dX6_channel_3 ?_
  refine x_if_neZ C 25 dX6_channel_6 (by decide) (fun c1 => ?_) (fun c1 => ?_)
  · refine x_bipush C (-2) dX6_channel_25 (by decide) ?_
    exact x_iret C rfl dX6_channel_27 rfl rfl
  · refine x_iload_n C dX6_channel_9 2 rfl ?_
    refine x_iconst C 2 dX6_channel_10 (by decide) ?_
    refine x_cSi (As := [.int xc, .int 2]) (ws' := wLG cI cZ cO q x) C mw_245 mw_36 mw_37 mw_34 hd_X6_outside rfl rfl ⟨Nat.le_of_ble_eq_true rfl, Nat.le_of_ble_eq_true rfl⟩ (c_X6_outside l D cI cZ cO  xc 2 ) [] [.inl 0, .inl 1, .inl 2, .inl 3, .inl 4, .inl 5, .inl 6, .inl 7, .inl 8, .inl 9, .inl 10, .inl 11, .inl 12, .inl 13, .inl 14, .inl 15, .inl 16, .inl 17, .inl 18, .inl 19, .inl 20, .inl 21, .inl 22, .inl 23, .inl 24] trivial rfl ⟨rfl, rfl, rfl, rfl, rfl, rfl, rfl, rfl, rfl, rfl, rfl, rfl, rfl, rfl, rfl, rfl, rfl, rfl, rfl, rfl, rfl, rfl, rfl, rfl, rfl, trivial⟩ rfl ⟨rfl, rfl, rfl, rfl, rfl, rfl, rfl, rfl, rfl, rfl, rfl, rfl, rfl, rfl, rfl, rfl, rfl, rfl, rfl, rfl, rfl, rfl, rfl, rfl, rfl, trivial⟩ rfl rfl (Nat.le_of_ble_eq_true rfl) (Nat.le_of_ble_eq_true rfl) (Nat.le_of_ble_eq_true rfl) dX6_channel_11 ?_
    refine x_if_neZ C 25 dX6_channel_14 (by decide) (fun c2 => ?_) (fun c2 => ?_)
    · refine x_bipush C (-2) dX6_channel_25 (by decide) ?_
      exact x_iret C rfl dX6_channel_27 rfl rfl
    · refine x_iload_n C dX6_channel_17 3 rfl ?_
      refine x_iconst C 3 dX6_channel_18 (by decide) ?_
      refine x_cSi (As := [.int xf, .int 3]) (ws' := wLG cI cZ cO q x) C mw_245 mw_36 mw_37 mw_34 hd_X6_outside rfl rfl ⟨Nat.le_of_ble_eq_true rfl, Nat.le_of_ble_eq_true rfl⟩ (c_X6_outside l D cI cZ cO  xf 3 ) [] [.inl 0, .inl 1, .inl 2, .inl 3, .inl 4, .inl 5, .inl 6, .inl 7, .inl 8, .inl 9, .inl 10, .inl 11, .inl 12, .inl 13, .inl 14, .inl 15, .inl 16, .inl 17, .inl 18, .inl 19, .inl 20, .inl 21, .inl 22, .inl 23, .inl 24] trivial rfl ⟨rfl, rfl, rfl, rfl, rfl, rfl, rfl, rfl, rfl, rfl, rfl, rfl, rfl, rfl, rfl, rfl, rfl, rfl, rfl, rfl, rfl, rfl, rfl, rfl, rfl, trivial⟩ rfl ⟨rfl, rfl, rfl, rfl, rfl, rfl, rfl, rfl, rfl, rfl, rfl, rfl, rfl, rfl, rfl, rfl, rfl, rfl, rfl, rfl, rfl, rfl, rfl, rfl, rfl, trivial⟩ rfl rfl (Nat.le_of_ble_eq_true rfl) (Nat.le_of_ble_eq_true rfl) (Nat.le_of_ble_eq_true rfl) dX6_channel_19 ?_
      refine x_if_eqZ C 28 dX6_channel_22 (by decide) (fun c3 => ?_) (fun c3 => ?_)
      · refine x_bipush C (-2) dX6_channel_25 (by decide) ?_
        exact x_iret C rfl dX6_channel_27 rfl rfl
      · have hN4 := out_nat 17 (by decide) (g := 17) rfl (by assumption : f_X6_outside xs 17 = false)
        refine x_leq (congrArg (fun (z : Int32) => ([(0, .ref (q 0)), (1, .int z), (2, .int xc), (3, .int xf)] : List (Nat × Value))) hN4.1) ?_
        have hN5 := out_nat 2 (by decide) (g := 2) rfl (by assumption : f_X6_outside xc 2 = false)
        refine x_leq (congrArg (fun (z : Int32) => ([(0, .ref (q 0)), (1, .int (nI (ixn xs))), (2, .int z), (3, .int xf)] : List (Nat × Value))) hN5.1) ?_
        refine x_aload_n C dX6_channel_28 0 rfl ?_
        refine x_get (v := .ref (q 8)) C hwsX60 1 mw_222 0 rfl rfl (by decide) rfl rfl dX6_channel_29 ?_
        refine x_get (v := .ref (q 10)) C hwsX30 1 mw_253 8 rfl rfl (by decide) rfl rfl dX6_channel_32 ?_
        refine x_iload_n C dX6_channel_35 1 rfl ?_
        refine x_iconst C 3 dX6_channel_36 (by decide) ?_
        refine x_imul C dX6_channel_37 ?_
        refine x_top (nI ((ixn xs) * 3)) (pk_mul _ _) ?_
        refine x_iload_n C dX6_channel_38 2 rfl ?_
        refine x_iadd C dX6_channel_39 ?_
        refine x_top (nI (((ixn xs) * 3) + (ixn xc))) (nI_add _ _) ?_
        refine x_iload_n C dX6_channel_40 3 rfl ?_
        refine x_cSi (As := [.ref (q 10), .int (nI (((ixn xs) * 3) + (ixn xc))), .int xf]) (ws' := wLG cI cZ cO q (upY x 2 (put (x 2) 1 (((ixn xs) * 3) + (ixn xc)) xf))) C mw_254 mw_255 mw_37 mw_251 hd_X6_exchange rfl rfl ⟨Nat.le_of_ble_eq_true rfl, Nat.le_of_ble_eq_true rfl⟩ (c_X6_exchange l D cI cZ cO (q 10) 54 ((x 2) 1) (((ixn xs) * 3) + (ixn xc)) xf (by omega) (by decide)) [10] [.inl 0, .inl 1, .inl 2, .inl 3, .inl 4, .inl 5, .inl 6, .inl 7, .inl 8, .inl 9, .inr 0, .inl 11, .inl 12, .inl 13, .inl 14, .inl 15, .inl 16, .inl 17, .inl 18, .inl 19, .inl 20, .inl 21, .inl 22, .inl 23, .inl 24] ⟨rfl, trivial⟩ rfl ⟨rfl, rfl, rfl, rfl, rfl, rfl, rfl, rfl, rfl, rfl, rfl, rfl, rfl, rfl, rfl, rfl, rfl, rfl, rfl, rfl, rfl, rfl, rfl, rfl, rfl, trivial⟩ rfl ⟨rfl, rfl, rfl, rfl, rfl, rfl, rfl, rfl, rfl, rfl, rfl, rfl, rfl, rfl, rfl, rfl, rfl, rfl, rfl, rfl, rfl, rfl, rfl, rfl, rfl, trivial⟩ rfl rfl (Nat.le_of_ble_eq_true rfl) (Nat.le_of_ble_eq_true rfl) (Nat.le_of_ble_eq_true rfl) dX6_channel_41 ?_
        exact x_iret C rfl dX6_channel_44 rfl rfl

def f_X6_cylinder (x : Sy) (xk : Int32) (xf : Int32) : Int32 × Sy := if (f_X6_outside xk 5) = true then ((-2), x) else (if (f_X6_outside xf 1) = true then ((-2), x) else ((x 1) 2 (ixn xk), upY x 1 (put (x 1) 2 (ixn xk) xf)))
theorem hd_X6_cylinder : yX6_cylinder.cls ≠ "java/lang/invoke/MethodHandle" ∧ yX6_cylinder.cls ≠ "java/lang/invoke/VarHandle" ∧ (parseMethodDescriptor yX6_cylinder.desc).map (fun d => d.parameters.length) = some 2 := by decide +kernel
set_option maxHeartbeats 4000000 in
set_option maxRecDepth 100000 in
theorem c_X6_cylinder (l : Launch) (D : va_G) (cI cZ cO : ClassId) (q : Nat → Nat) (x : Sy) (xk : Int32) (xf : Int32)  : CTi l D (T3 cI cZ cO) yX6_cylinder (Cond.code yX6_cylinder cX6_cylinder 3 (some .int) :: WA) ({ frames := 1, cells := 0, slots := 0, locals := 23 } : Room) [.ref (q 0), .int xk, .int xf] (wLG cI cZ cO q x) ((f_X6_cylinder x xk xf).1) (wLG cI cZ cO q (f_X6_cylinder x xk xf).2) := by
  refine ct_i (K := fun z => z) (t := f_X6_cylinder x xk xf) (rf := fun o => o.1) (wf := fun o => wLG cI cZ cO q o.2) (own := RX6) (nm := "cylinder") (L0 := [(0, .ref (q 0)), (1, .int xk), (2, .int xf)]) (plainFor_of_name (by decide +kernel)) rfl rfl (Nat.le_of_ble_eq_true rfl) rfl ?_
  intro p e s m args below meth c A C
  unfold f_X6_cylinder
  refine x_iload_n C dX6_cylinder_0 1 rfl ?_
  refine x_iconst C 5 dX6_cylinder_1 (by decide) ?_
  refine x_cSi (As := [.int xk, .int 5]) (ws' := wLG cI cZ cO q x) C mw_245 mw_36 mw_37 mw_34 hd_X6_outside rfl rfl ⟨Nat.le_of_ble_eq_true rfl, Nat.le_of_ble_eq_true rfl⟩ (c_X6_outside l D cI cZ cO  xk 5 ) [] [.inl 0, .inl 1, .inl 2, .inl 3, .inl 4, .inl 5, .inl 6, .inl 7, .inl 8, .inl 9, .inl 10, .inl 11, .inl 12, .inl 13, .inl 14, .inl 15, .inl 16, .inl 17, .inl 18, .inl 19, .inl 20, .inl 21, .inl 22, .inl 23, .inl 24] trivial rfl ⟨rfl, rfl, rfl, rfl, rfl, rfl, rfl, rfl, rfl, rfl, rfl, rfl, rfl, rfl, rfl, rfl, rfl, rfl, rfl, rfl, rfl, rfl, rfl, rfl, rfl, trivial⟩ rfl ⟨rfl, rfl, rfl, rfl, rfl, rfl, rfl, rfl, rfl, rfl, rfl, rfl, rfl, rfl, rfl, rfl, rfl, rfl, rfl, rfl, rfl, rfl, rfl, rfl, rfl, trivial⟩ rfl rfl (Nat.le_of_ble_eq_true rfl) (Nat.le_of_ble_eq_true rfl) (Nat.le_of_ble_eq_true rfl) dX6_cylinder_2 ?_
  refine x_if_neZ C 16 dX6_cylinder_5 (by decide) (fun c1 => ?_) (fun c1 => ?_)
  · refine x_bipush C (-2) dX6_cylinder_16 (by decide) ?_
    exact x_iret C rfl dX6_cylinder_18 rfl rfl
  · refine x_iload_n C dX6_cylinder_8 2 rfl ?_
    refine x_iconst C 1 dX6_cylinder_9 (by decide) ?_
    refine x_cSi (As := [.int xf, .int 1]) (ws' := wLG cI cZ cO q x) C mw_245 mw_36 mw_37 mw_34 hd_X6_outside rfl rfl ⟨Nat.le_of_ble_eq_true rfl, Nat.le_of_ble_eq_true rfl⟩ (c_X6_outside l D cI cZ cO  xf 1 ) [] [.inl 0, .inl 1, .inl 2, .inl 3, .inl 4, .inl 5, .inl 6, .inl 7, .inl 8, .inl 9, .inl 10, .inl 11, .inl 12, .inl 13, .inl 14, .inl 15, .inl 16, .inl 17, .inl 18, .inl 19, .inl 20, .inl 21, .inl 22, .inl 23, .inl 24] trivial rfl ⟨rfl, rfl, rfl, rfl, rfl, rfl, rfl, rfl, rfl, rfl, rfl, rfl, rfl, rfl, rfl, rfl, rfl, rfl, rfl, rfl, rfl, rfl, rfl, rfl, rfl, trivial⟩ rfl ⟨rfl, rfl, rfl, rfl, rfl, rfl, rfl, rfl, rfl, rfl, rfl, rfl, rfl, rfl, rfl, rfl, rfl, rfl, rfl, rfl, rfl, rfl, rfl, rfl, rfl, trivial⟩ rfl rfl (Nat.le_of_ble_eq_true rfl) (Nat.le_of_ble_eq_true rfl) (Nat.le_of_ble_eq_true rfl) dX6_cylinder_10 ?_
    refine x_if_eqZ C 19 dX6_cylinder_13 (by decide) (fun c2 => ?_) (fun c2 => ?_)
    · refine x_bipush C (-2) dX6_cylinder_16 (by decide) ?_
      exact x_iret C rfl dX6_cylinder_18 rfl rfl
    · have hN3 := out_nat 5 (by decide) (g := 5) rfl (by assumption : f_X6_outside xk 5 = false)
      refine x_leq (congrArg (fun (z : Int32) => ([(0, .ref (q 0)), (1, .int z), (2, .int xf)] : List (Nat × Value))) hN3.1) ?_
      refine x_aload_n C dX6_cylinder_19 0 rfl ?_
      refine x_get (v := .ref (q 2)) C hwsX60 0 mw_219 0 rfl rfl (by decide) rfl rfl dX6_cylinder_20 ?_
      refine x_get (v := .ref (q 5)) C hwsX20 2 mw_257 2 rfl rfl (by decide) rfl rfl dX6_cylinder_23 ?_
      refine x_iload_n C dX6_cylinder_26 1 rfl ?_
      refine x_iload_n C dX6_cylinder_27 2 rfl ?_
      refine x_cSi (As := [.ref (q 5), .int (nI (ixn xk)), .int xf]) (ws' := wLG cI cZ cO q (upY x 1 (put (x 1) 2 (ixn xk) xf))) C mw_254 mw_255 mw_37 mw_251 hd_X6_exchange rfl rfl ⟨Nat.le_of_ble_eq_true rfl, Nat.le_of_ble_eq_true rfl⟩ (c_X6_exchange l D cI cZ cO (q 5) 6 ((x 1) 2) (ixn xk) xf (by omega) (by decide)) [5] [.inl 0, .inl 1, .inl 2, .inl 3, .inl 4, .inr 0, .inl 6, .inl 7, .inl 8, .inl 9, .inl 10, .inl 11, .inl 12, .inl 13, .inl 14, .inl 15, .inl 16, .inl 17, .inl 18, .inl 19, .inl 20, .inl 21, .inl 22, .inl 23, .inl 24] ⟨rfl, trivial⟩ rfl ⟨rfl, rfl, rfl, rfl, rfl, rfl, rfl, rfl, rfl, rfl, rfl, rfl, rfl, rfl, rfl, rfl, rfl, rfl, rfl, rfl, rfl, rfl, rfl, rfl, rfl, trivial⟩ rfl ⟨rfl, rfl, rfl, rfl, rfl, rfl, rfl, rfl, rfl, rfl, rfl, rfl, rfl, rfl, rfl, rfl, rfl, rfl, rfl, rfl, rfl, rfl, rfl, rfl, rfl, trivial⟩ rfl rfl (Nat.le_of_ble_eq_true rfl) (Nat.le_of_ble_eq_true rfl) (Nat.le_of_ble_eq_true rfl) dX6_cylinder_28 ?_
      exact x_iret C rfl dX6_cylinder_31 rfl rfl

def f_X6_valve (x : Sy) (xk : Int32) (xf : Int32) : Int32 × Sy := if (f_X6_outside xk 4) = true then ((-2), x) else (if (f_X6_outside xf 2) = true then ((-2), x) else ((x 1) 4 (ixn xk), upY x 1 (put (x 1) 4 (ixn xk) xf)))
theorem hd_X6_valve : yX6_valve.cls ≠ "java/lang/invoke/MethodHandle" ∧ yX6_valve.cls ≠ "java/lang/invoke/VarHandle" ∧ (parseMethodDescriptor yX6_valve.desc).map (fun d => d.parameters.length) = some 2 := by decide +kernel
set_option maxHeartbeats 4000000 in
set_option maxRecDepth 100000 in
theorem c_X6_valve (l : Launch) (D : va_G) (cI cZ cO : ClassId) (q : Nat → Nat) (x : Sy) (xk : Int32) (xf : Int32)  : CTi l D (T3 cI cZ cO) yX6_valve (Cond.code yX6_valve cX6_valve 3 (some .int) :: WA) ({ frames := 1, cells := 0, slots := 0, locals := 23 } : Room) [.ref (q 0), .int xk, .int xf] (wLG cI cZ cO q x) ((f_X6_valve x xk xf).1) (wLG cI cZ cO q (f_X6_valve x xk xf).2) := by
  refine ct_i (K := fun z => z) (t := f_X6_valve x xk xf) (rf := fun o => o.1) (wf := fun o => wLG cI cZ cO q o.2) (own := RX6) (nm := "valve") (L0 := [(0, .ref (q 0)), (1, .int xk), (2, .int xf)]) (plainFor_of_name (by decide +kernel)) rfl rfl (Nat.le_of_ble_eq_true rfl) rfl ?_
  intro p e s m args below meth c A C
  unfold f_X6_valve
  refine x_iload_n C dX6_valve_0 1 rfl ?_
  refine x_iconst C 4 dX6_valve_1 (by decide) ?_
  refine x_cSi (As := [.int xk, .int 4]) (ws' := wLG cI cZ cO q x) C mw_245 mw_36 mw_37 mw_34 hd_X6_outside rfl rfl ⟨Nat.le_of_ble_eq_true rfl, Nat.le_of_ble_eq_true rfl⟩ (c_X6_outside l D cI cZ cO  xk 4 ) [] [.inl 0, .inl 1, .inl 2, .inl 3, .inl 4, .inl 5, .inl 6, .inl 7, .inl 8, .inl 9, .inl 10, .inl 11, .inl 12, .inl 13, .inl 14, .inl 15, .inl 16, .inl 17, .inl 18, .inl 19, .inl 20, .inl 21, .inl 22, .inl 23, .inl 24] trivial rfl ⟨rfl, rfl, rfl, rfl, rfl, rfl, rfl, rfl, rfl, rfl, rfl, rfl, rfl, rfl, rfl, rfl, rfl, rfl, rfl, rfl, rfl, rfl, rfl, rfl, rfl, trivial⟩ rfl ⟨rfl, rfl, rfl, rfl, rfl, rfl, rfl, rfl, rfl, rfl, rfl, rfl, rfl, rfl, rfl, rfl, rfl, rfl, rfl, rfl, rfl, rfl, rfl, rfl, rfl, trivial⟩ rfl rfl (Nat.le_of_ble_eq_true rfl) (Nat.le_of_ble_eq_true rfl) (Nat.le_of_ble_eq_true rfl) dX6_valve_2 ?_
  refine x_if_neZ C 16 dX6_valve_5 (by decide) (fun c1 => ?_) (fun c1 => ?_)
  · refine x_bipush C (-2) dX6_valve_16 (by decide) ?_
    exact x_iret C rfl dX6_valve_18 rfl rfl
  · refine x_iload_n C dX6_valve_8 2 rfl ?_
    refine x_iconst C 2 dX6_valve_9 (by decide) ?_
    refine x_cSi (As := [.int xf, .int 2]) (ws' := wLG cI cZ cO q x) C mw_245 mw_36 mw_37 mw_34 hd_X6_outside rfl rfl ⟨Nat.le_of_ble_eq_true rfl, Nat.le_of_ble_eq_true rfl⟩ (c_X6_outside l D cI cZ cO  xf 2 ) [] [.inl 0, .inl 1, .inl 2, .inl 3, .inl 4, .inl 5, .inl 6, .inl 7, .inl 8, .inl 9, .inl 10, .inl 11, .inl 12, .inl 13, .inl 14, .inl 15, .inl 16, .inl 17, .inl 18, .inl 19, .inl 20, .inl 21, .inl 22, .inl 23, .inl 24] trivial rfl ⟨rfl, rfl, rfl, rfl, rfl, rfl, rfl, rfl, rfl, rfl, rfl, rfl, rfl, rfl, rfl, rfl, rfl, rfl, rfl, rfl, rfl, rfl, rfl, rfl, rfl, trivial⟩ rfl ⟨rfl, rfl, rfl, rfl, rfl, rfl, rfl, rfl, rfl, rfl, rfl, rfl, rfl, rfl, rfl, rfl, rfl, rfl, rfl, rfl, rfl, rfl, rfl, rfl, rfl, trivial⟩ rfl rfl (Nat.le_of_ble_eq_true rfl) (Nat.le_of_ble_eq_true rfl) (Nat.le_of_ble_eq_true rfl) dX6_valve_10 ?_
    refine x_if_eqZ C 19 dX6_valve_13 (by decide) (fun c2 => ?_) (fun c2 => ?_)
    · refine x_bipush C (-2) dX6_valve_16 (by decide) ?_
      exact x_iret C rfl dX6_valve_18 rfl rfl
    · have hN3 := out_nat 4 (by decide) (g := 4) rfl (by assumption : f_X6_outside xk 4 = false)
      refine x_leq (congrArg (fun (z : Int32) => ([(0, .ref (q 0)), (1, .int z), (2, .int xf)] : List (Nat × Value))) hN3.1) ?_
      refine x_aload_n C dX6_valve_19 0 rfl ?_
      refine x_get (v := .ref (q 2)) C hwsX60 0 mw_219 0 rfl rfl (by decide) rfl rfl dX6_valve_20 ?_
      refine x_get (v := .ref (q 7)) C hwsX20 4 mw_259 2 rfl rfl (by decide) rfl rfl dX6_valve_23 ?_
      refine x_iload_n C dX6_valve_26 1 rfl ?_
      refine x_iload_n C dX6_valve_27 2 rfl ?_
      refine x_cSi (As := [.ref (q 7), .int (nI (ixn xk)), .int xf]) (ws' := wLG cI cZ cO q (upY x 1 (put (x 1) 4 (ixn xk) xf))) C mw_254 mw_255 mw_37 mw_251 hd_X6_exchange rfl rfl ⟨Nat.le_of_ble_eq_true rfl, Nat.le_of_ble_eq_true rfl⟩ (c_X6_exchange l D cI cZ cO (q 7) 5 ((x 1) 4) (ixn xk) xf (by omega) (by decide)) [7] [.inl 0, .inl 1, .inl 2, .inl 3, .inl 4, .inl 5, .inl 6, .inr 0, .inl 8, .inl 9, .inl 10, .inl 11, .inl 12, .inl 13, .inl 14, .inl 15, .inl 16, .inl 17, .inl 18, .inl 19, .inl 20, .inl 21, .inl 22, .inl 23, .inl 24] ⟨rfl, trivial⟩ rfl ⟨rfl, rfl, rfl, rfl, rfl, rfl, rfl, rfl, rfl, rfl, rfl, rfl, rfl, rfl, rfl, rfl, rfl, rfl, rfl, rfl, rfl, rfl, rfl, rfl, rfl, trivial⟩ rfl ⟨rfl, rfl, rfl, rfl, rfl, rfl, rfl, rfl, rfl, rfl, rfl, rfl, rfl, rfl, rfl, rfl, rfl, rfl, rfl, rfl, rfl, rfl, rfl, rfl, rfl, trivial⟩ rfl rfl (Nat.le_of_ble_eq_true rfl) (Nat.le_of_ble_eq_true rfl) (Nat.le_of_ble_eq_true rfl) dX6_valve_28 ?_
      exact x_iret C rfl dX6_valve_31 rfl rfl

def f_X6_stick (x : Sy) (xf : Int32) : Int32 × Sy := if (f_X6_outside xf 1) = true then ((-2), x) else ((x 1) 8 0, upY x 1 (put (x 1) 8 0 xf))
theorem hd_X6_stick : yX6_stick.cls ≠ "java/lang/invoke/MethodHandle" ∧ yX6_stick.cls ≠ "java/lang/invoke/VarHandle" ∧ (parseMethodDescriptor yX6_stick.desc).map (fun d => d.parameters.length) = some 1 := by decide +kernel
set_option maxHeartbeats 4000000 in
set_option maxRecDepth 100000 in
theorem c_X6_stick (l : Launch) (D : va_G) (cI cZ cO : ClassId) (q : Nat → Nat) (x : Sy) (xf : Int32)  : CTi l D (T3 cI cZ cO) yX6_stick (Cond.code yX6_stick cX6_stick 3 (some .int) :: WA) ({ frames := 1, cells := 0, slots := 0, locals := 21 } : Room) [.ref (q 0), .int xf] (wLG cI cZ cO q x) ((f_X6_stick x xf).1) (wLG cI cZ cO q (f_X6_stick x xf).2) := by
  refine ct_i (K := fun z => z) (t := f_X6_stick x xf) (rf := fun o => o.1) (wf := fun o => wLG cI cZ cO q o.2) (own := RX6) (nm := "stick") (L0 := [(0, .ref (q 0)), (1, .int xf)]) (plainFor_of_name (by decide +kernel)) rfl rfl (Nat.le_of_ble_eq_true rfl) rfl ?_
  intro p e s m args below meth c A C
  unfold f_X6_stick
  refine x_iload_n C dX6_stick_0 1 rfl ?_
  refine x_iconst C 1 dX6_stick_1 (by decide) ?_
  refine x_cSi (As := [.int xf, .int 1]) (ws' := wLG cI cZ cO q x) C mw_245 mw_36 mw_37 mw_34 hd_X6_outside rfl rfl ⟨Nat.le_of_ble_eq_true rfl, Nat.le_of_ble_eq_true rfl⟩ (c_X6_outside l D cI cZ cO  xf 1 ) [] [.inl 0, .inl 1, .inl 2, .inl 3, .inl 4, .inl 5, .inl 6, .inl 7, .inl 8, .inl 9, .inl 10, .inl 11, .inl 12, .inl 13, .inl 14, .inl 15, .inl 16, .inl 17, .inl 18, .inl 19, .inl 20, .inl 21, .inl 22, .inl 23, .inl 24] trivial rfl ⟨rfl, rfl, rfl, rfl, rfl, rfl, rfl, rfl, rfl, rfl, rfl, rfl, rfl, rfl, rfl, rfl, rfl, rfl, rfl, rfl, rfl, rfl, rfl, rfl, rfl, trivial⟩ rfl ⟨rfl, rfl, rfl, rfl, rfl, rfl, rfl, rfl, rfl, rfl, rfl, rfl, rfl, rfl, rfl, rfl, rfl, rfl, rfl, rfl, rfl, rfl, rfl, rfl, rfl, trivial⟩ rfl rfl (Nat.le_of_ble_eq_true rfl) (Nat.le_of_ble_eq_true rfl) (Nat.le_of_ble_eq_true rfl) dX6_stick_2 ?_
  refine x_if_eqZ C 11 dX6_stick_5 (by decide) (fun c1 => ?_) (fun c1 => ?_)
  · refine x_bipush C (-2) dX6_stick_8 (by decide) ?_
    exact x_iret C rfl dX6_stick_10 rfl rfl
  · refine x_aload_n C dX6_stick_11 0 rfl ?_
    refine x_get (v := .ref (q 2)) C hwsX60 0 mw_219 0 rfl rfl (by decide) rfl rfl dX6_stick_12 ?_
    refine x_get (v := .int ((x 1) 8 0)) C hwsX20 8 mw_261 2 rfl rfl (by decide) rfl rfl dX6_stick_15 ?_
    refine x_istore_n (L' := [(2, .int ((x 1) 8 0)), (0, .ref (q 0)), (1, .int xf)]) C dX6_stick_18 (by decide) rfl ?_
    refine x_aload_n C dX6_stick_19 1 rfl ?_
    refine x_get (v := .ref (q 2)) C hwsX60 0 mw_219 0 rfl rfl (by decide) rfl rfl dX6_stick_20 ?_
    refine x_iload_n C dX6_stick_23 2 rfl ?_
    refine x_put (ws' := wLG cI cZ cO q (upY x 1 (put (x 1) 8 0 xf))) C hwsX20 tyX2 tyX2_ok nmX2 8 mw_261 2 rfl rfl (by decide) rfl rfl rfl rfl (Nat.le_of_ble_eq_true rfl) dX6_stick_24 rfl ?_
    refine x_iload_n C dX6_stick_27 0 rfl ?_
    exact x_iret C rfl dX6_stick_28 rfl rfl

def f_X6_module (x : Sy) (xm : Int32) (xf : Int32) : Int32 × Sy := if (f_X6_outside xm 1) = true then ((-2), x) else (if (f_X6_outside xf 1) = true then ((-2), x) else (if xm = 0 then ((x 3) 8 0, upY x 3 (put (x 3) 8 0 xf)) else ((x 6) 8 0, upY x 6 (put (x 6) 8 0 xf))))
theorem hd_X6_module : yX6_module.cls ≠ "java/lang/invoke/MethodHandle" ∧ yX6_module.cls ≠ "java/lang/invoke/VarHandle" ∧ (parseMethodDescriptor yX6_module.desc).map (fun d => d.parameters.length) = some 2 := by decide +kernel
set_option maxHeartbeats 4000000 in
set_option maxRecDepth 100000 in
theorem c_X6_module (l : Launch) (D : va_G) (cI cZ cO : ClassId) (q : Nat → Nat) (x : Sy) (xm : Int32) (xf : Int32)  : CTi l D (T3 cI cZ cO) yX6_module (Cond.code yX6_module cX6_module 4 (some .int) :: WA) ({ frames := 1, cells := 0, slots := 0, locals := 21 } : Room) [.ref (q 0), .int xm, .int xf] (wLG cI cZ cO q x) ((f_X6_module x xm xf).1) (wLG cI cZ cO q (f_X6_module x xm xf).2) := by
  refine ct_i (K := fun z => z) (t := f_X6_module x xm xf) (rf := fun o => o.1) (wf := fun o => wLG cI cZ cO q o.2) (own := RX6) (nm := "module") (L0 := [(0, .ref (q 0)), (1, .int xm), (2, .int xf)]) (plainFor_of_name (by decide +kernel)) rfl rfl (Nat.le_of_ble_eq_true rfl) rfl ?_
  intro p e s m args below meth c A C
  unfold f_X6_module
  refine x_iload_n C dX6_module_0 1 rfl ?_
  refine x_iconst C 1 dX6_module_1 (by decide) ?_
  refine x_cSi (As := [.int xm, .int 1]) (ws' := wLG cI cZ cO q x) C mw_245 mw_36 mw_37 mw_34 hd_X6_outside rfl rfl ⟨Nat.le_of_ble_eq_true rfl, Nat.le_of_ble_eq_true rfl⟩ (c_X6_outside l D cI cZ cO  xm 1 ) [] [.inl 0, .inl 1, .inl 2, .inl 3, .inl 4, .inl 5, .inl 6, .inl 7, .inl 8, .inl 9, .inl 10, .inl 11, .inl 12, .inl 13, .inl 14, .inl 15, .inl 16, .inl 17, .inl 18, .inl 19, .inl 20, .inl 21, .inl 22, .inl 23, .inl 24] trivial rfl ⟨rfl, rfl, rfl, rfl, rfl, rfl, rfl, rfl, rfl, rfl, rfl, rfl, rfl, rfl, rfl, rfl, rfl, rfl, rfl, rfl, rfl, rfl, rfl, rfl, rfl, trivial⟩ rfl ⟨rfl, rfl, rfl, rfl, rfl, rfl, rfl, rfl, rfl, rfl, rfl, rfl, rfl, rfl, rfl, rfl, rfl, rfl, rfl, rfl, rfl, rfl, rfl, rfl, rfl, trivial⟩ rfl rfl (Nat.le_of_ble_eq_true rfl) (Nat.le_of_ble_eq_true rfl) (Nat.le_of_ble_eq_true rfl) dX6_module_2 ?_
  refine x_if_neZ C 16 dX6_module_5 (by decide) (fun c1 => ?_) (fun c1 => ?_)
  · refine x_bipush C (-2) dX6_module_16 (by decide) ?_
    exact x_iret C rfl dX6_module_18 rfl rfl
  · refine x_iload_n C dX6_module_8 2 rfl ?_
    refine x_iconst C 1 dX6_module_9 (by decide) ?_
    refine x_cSi (As := [.int xf, .int 1]) (ws' := wLG cI cZ cO q x) C mw_245 mw_36 mw_37 mw_34 hd_X6_outside rfl rfl ⟨Nat.le_of_ble_eq_true rfl, Nat.le_of_ble_eq_true rfl⟩ (c_X6_outside l D cI cZ cO  xf 1 ) [] [.inl 0, .inl 1, .inl 2, .inl 3, .inl 4, .inl 5, .inl 6, .inl 7, .inl 8, .inl 9, .inl 10, .inl 11, .inl 12, .inl 13, .inl 14, .inl 15, .inl 16, .inl 17, .inl 18, .inl 19, .inl 20, .inl 21, .inl 22, .inl 23, .inl 24] trivial rfl ⟨rfl, rfl, rfl, rfl, rfl, rfl, rfl, rfl, rfl, rfl, rfl, rfl, rfl, rfl, rfl, rfl, rfl, rfl, rfl, rfl, rfl, rfl, rfl, rfl, rfl, trivial⟩ rfl ⟨rfl, rfl, rfl, rfl, rfl, rfl, rfl, rfl, rfl, rfl, rfl, rfl, rfl, rfl, rfl, rfl, rfl, rfl, rfl, rfl, rfl, rfl, rfl, rfl, rfl, trivial⟩ rfl rfl (Nat.le_of_ble_eq_true rfl) (Nat.le_of_ble_eq_true rfl) (Nat.le_of_ble_eq_true rfl) dX6_module_10 ?_
    refine x_if_eqZ C 19 dX6_module_13 (by decide) (fun c2 => ?_) (fun c2 => ?_)
    · refine x_bipush C (-2) dX6_module_16 (by decide) ?_
      exact x_iret C rfl dX6_module_18 rfl rfl
    · refine x_split (fun c3 => ?_) (fun c3 => ?_)
      · refine x_leq (congrArg (fun (z : Int32) => ([(0, .ref (q 0)), (1, .int z), (2, .int xf)] : List (Nat × Value))) (c3 : xm = 0)) ?_
        refine x_aload_n C dX6_module_19 0 rfl ?_
        refine x_get (v := .ref (q 1)) C hwsX60 2 mw_224 0 rfl rfl (by decide) rfl rfl dX6_module_20 ?_
        refine x_iload_n C dX6_module_23 1 rfl ?_
        refine x_aald C 1 2 rfl rfl 0 rfl (by decide) (by decide) rfl dX6_module_24 ?_
        refine x_get (v := .int ((x 3) 8 0)) C hwsX00 8 mw_263 11 rfl rfl (by decide) rfl rfl dX6_module_25 ?_
        refine x_istore_n (L' := [(3, .int ((x 3) 8 0)), (0, .ref (q 0)), (1, .int 0), (2, .int xf)]) C dX6_module_28 (by decide) rfl ?_
        refine x_aload_n C dX6_module_29 1 rfl ?_
        refine x_get (v := .ref (q 1)) C hwsX60 2 mw_224 0 rfl rfl (by decide) rfl rfl dX6_module_30 ?_
        refine x_iload_n C dX6_module_33 2 rfl ?_
        refine x_aald C 1 2 rfl rfl 0 rfl (by decide) (by decide) rfl dX6_module_34 ?_
        refine x_iload_n C dX6_module_35 3 rfl ?_
        refine x_put (ws' := wLG cI cZ cO q (upY x 3 (put (x 3) 8 0 xf))) C hwsX00 tyX0 tyX0_ok nmX0 8 mw_263 11 rfl rfl (by decide) rfl rfl rfl rfl (Nat.le_of_ble_eq_true rfl) dX6_module_36 rfl ?_
        refine x_iload_n C dX6_module_39 0 rfl ?_
        exact x_iret C rfl dX6_module_40 rfl rfl
      · refine x_leq (congrArg (fun (z : Int32) => ([(0, .ref (q 0)), (1, .int z), (2, .int xf)] : List (Nat × Value))) (case01 (by assumption) c3 : xm = 1)) ?_
        refine x_aload_n C dX6_module_19 0 rfl ?_
        refine x_get (v := .ref (q 1)) C hwsX60 2 mw_224 0 rfl rfl (by decide) rfl rfl dX6_module_20 ?_
        refine x_iload_n C dX6_module_23 1 rfl ?_
        refine x_aald C 1 2 rfl rfl 1 rfl (by decide) (by decide) rfl dX6_module_24 ?_
        refine x_get (v := .int ((x 6) 8 0)) C hwsX00 8 mw_263 17 rfl rfl (by decide) rfl rfl dX6_module_25 ?_
        refine x_istore_n (L' := [(3, .int ((x 6) 8 0)), (0, .ref (q 0)), (1, .int 1), (2, .int xf)]) C dX6_module_28 (by decide) rfl ?_
        refine x_aload_n C dX6_module_29 1 rfl ?_
        refine x_get (v := .ref (q 1)) C hwsX60 2 mw_224 0 rfl rfl (by decide) rfl rfl dX6_module_30 ?_
        refine x_iload_n C dX6_module_33 2 rfl ?_
        refine x_aald C 1 2 rfl rfl 1 rfl (by decide) (by decide) rfl dX6_module_34 ?_
        refine x_iload_n C dX6_module_35 3 rfl ?_
        refine x_put (ws' := wLG cI cZ cO q (upY x 6 (put (x 6) 8 0 xf))) C hwsX00 tyX0 tyX0_ok nmX0 8 mw_263 17 rfl rfl (by decide) rfl rfl rfl rfl (Nat.le_of_ble_eq_true rfl) dX6_module_36 rfl ?_
        refine x_iload_n C dX6_module_39 0 rfl ?_
        exact x_iret C rfl dX6_module_40 rfl rfl

def f_X6_run_x17 (a5 : Sy) : Int32 × Sy := ((a5 0) 5 0, a5)
def f_X6_run_o23 (o9 : Sy) : Sy := o9
def f_X6_run_t17 (i4 : Nat) (a5 : Sy) : Sy := f_X6_run_o23 (f_X6_tick a5)
def f_X6_run (x : Sy) (xn : Int32) : Int32 × Sy := if xn < 1 then ((-2), x) else (if 1000 < xn then ((-2), x) else (f_X6_run_x17 (up f_X6_run_t17 0 (ixn xn) x)))
theorem hd_X6_run : yX6_run.cls ≠ "java/lang/invoke/MethodHandle" ∧ yX6_run.cls ≠ "java/lang/invoke/VarHandle" ∧ (parseMethodDescriptor yX6_run.desc).map (fun d => d.parameters.length) = some 1 := by decide +kernel
set_option maxHeartbeats 4000000 in
set_option maxRecDepth 100000 in
theorem c_X6_run (l : Launch) (D : va_G) (cI cZ cO : ClassId) (q : Nat → Nat) (x : Sy) (xn : Int32)  : CTi l D (T3 cI cZ cO) yX6_run (Cond.code yX6_run cX6_run 3 (some .int) :: WA) ({ frames := 6, cells := 0, slots := 0, locals := 129 } : Room) [.ref (q 0), .int xn] (wLG cI cZ cO q x) ((f_X6_run x xn).1) (wLG cI cZ cO q (f_X6_run x xn).2) := by
  refine ct_i (K := fun z => z) (t := f_X6_run x xn) (rf := fun o => o.1) (wf := fun o => wLG cI cZ cO q o.2) (own := RX6) (nm := "run") (L0 := [(0, .ref (q 0)), (1, .int xn)]) (plainFor_of_name (by decide +kernel)) rfl rfl (Nat.le_of_ble_eq_true rfl) rfl ?_
  intro p e s m args below meth c A C
  unfold f_X6_run
  refine x_iload_n C dX6_run_0 1 rfl ?_
  refine x_iconst C 1 dX6_run_1 (by decide) ?_
  refine x_icmp_lt C 12 dX6_run_2 (by decide) (fun c1 => ?_) (fun c1 => ?_)
  · refine x_bipush C (-2) dX6_run_12 (by decide) ?_
    exact x_iret C rfl dX6_run_14 rfl rfl
  · refine x_iload_n C dX6_run_5 1 rfl ?_
    refine x_sipush C 1000 dX6_run_6 (by decide) ?_
    refine x_icmp_le C 15 dX6_run_9 (by decide) (fun c2 => ?_) (fun c2 => ?_)
    · refine x_bipush C (-2) dX6_run_12 (by decide) ?_
      exact x_iret C rfl dX6_run_14 rfl rfl
    · have hN3 := run_nat (by assumption) (by assumption)
      refine x_leq (congrArg (fun (z : Int32) => ([(0, .ref (q 0)), (1, .int z)] : List (Nat × Value))) hN3.1) ?_
      refine x_iconst C 0 dX6_run_15 (by decide) ?_
      refine x_istore_n (L' := [(2, .int 0), (0, .ref (q 0)), (1, .int (nI (ixn xn)))]) C dX6_run_16 (by decide) rfl ?_
      refine x_lsub (L' := [(0, .ref (q 0)), (1, .int (nI (ixn xn))), (2, .int 0)]) [1, 2, 0] rfl ?_
      refine x_loop f_X6_run_t17 (fun (a5 : Sy) => f_X6_run_x17 a5) (ixn xn) 17 (fun (i4 : Nat) (a5 : Sy) => [(0, .ref (q 0)), (1, .int (nI (ixn xn))), (2, .int (nI i4))]) (fun (i4 : Nat) (a5 : Sy) => []) (fun (i4 : Nat) (a5 : Sy) => wLG cI cZ cO q a5) (fun a5 => ?_) (fun i4 a5 K8 hk6 ih7 => ?_) (ixn xn) 0 x (by omega)
      · unfold f_X6_run_x17
        refine x_iload_n C dX6_run_17 2 rfl ?_
        refine x_iload_n C dX6_run_18 1 rfl ?_
        refine x_icmp_ge_t C 32 dX6_run_19 (by decide) Int32.lt_irrefl ?_
        refine x_aload_n C dX6_run_32 0 rfl ?_
        refine x_get (v := .int ((a5 0) 5 0)) C hwsX60 5 mw_230 0 rfl rfl (by decide) rfl rfl dX6_run_33 ?_
        exact x_iret C rfl dX6_run_36 rfl rfl
      · unfold f_X6_run_t17
        refine x_iload_n C dX6_run_17 2 rfl ?_
        refine x_iload_n C dX6_run_18 1 rfl ?_
        refine x_icmp_ge_f C 32 dX6_run_19 (by decide) (nI_lt (b := ixn xn) hk6 (by omega)) ?_
        refine x_aload_n C dX6_run_22 0 rfl ?_
        refine x_cVvW (q0 := 0) (As := []) C mw_283 mw_284 mw_285 mw_37 mw_282 hd_X6_tick rfl rfl ⟨Nat.le_of_ble_eq_true rfl, Nat.le_of_ble_eq_true rfl⟩ rfl rfl rfl (c_X6_tick l D cI cZ cO q a5 ) rfl rfl (Nat.le_of_ble_eq_true rfl) (Nat.le_of_ble_eq_true rfl) (Nat.le_of_ble_eq_true rfl) dX6_run_23 ?_
        unfold f_X6_run_o23
        generalize f_X6_tick a5 = o9
        refine x_iinc (L' := [(2, .int (nI (i4 + 1))), (0, .ref (q 0)), (1, .int (nI (ixn xn)))]) C (nI (i4 + 1)) dX6_run_26 2 rfl (nI_add _ _) (by decide) rfl ?_
        refine x_goto C 17 dX6_run_29 (by decide) ?_
        refine x_lsub (L' := [(0, .ref (q 0)), (1, .int (nI (ixn xn))), (2, .int (nI (i4 + 1)))]) [1, 2, 0] rfl ?_
        exact ih7 o9

def f_X6_settle_x17 (xn : Int32) (a5 : Sy) : Int32 × Sy := (nI (ixn xn), a5)
def f_X6_settle_o30 (g8 : (Sy) → Int32 × Sy) (o10 : Sy) : Int32 × Sy := g8 o10
def f_X6_settle_t17 (i4 : Nat) (a5 : Sy) (g8 : (Sy) → Int32 × Sy) : Int32 × Sy := if (f_X6_unsettled a5) = true then (f_X6_settle_o30 g8 (f_X6_tick a5)) else (nI i4, a5)
def f_X6_settle (x : Sy) (xn : Int32) : Int32 × Sy := if xn < 1 then ((-2), x) else (if 1000 < xn then ((-2), x) else (upr f_X6_settle_t17 (fun (a5 : Sy) => f_X6_settle_x17 xn a5) 0 (ixn xn) x))
theorem hd_X6_settle : yX6_settle.cls ≠ "java/lang/invoke/MethodHandle" ∧ yX6_settle.cls ≠ "java/lang/invoke/VarHandle" ∧ (parseMethodDescriptor yX6_settle.desc).map (fun d => d.parameters.length) = some 1 := by decide +kernel
set_option maxHeartbeats 4000000 in
set_option maxRecDepth 100000 in
theorem c_X6_settle (l : Launch) (D : va_G) (cI cZ cO : ClassId) (q : Nat → Nat) (x : Sy) (xn : Int32)  : CTi l D (T3 cI cZ cO) yX6_settle (Cond.code yX6_settle cX6_settle 3 (some .int) :: WA) ({ frames := 6, cells := 0, slots := 0, locals := 129 } : Room) [.ref (q 0), .int xn] (wLG cI cZ cO q x) ((f_X6_settle x xn).1) (wLG cI cZ cO q (f_X6_settle x xn).2) := by
  refine ct_i (K := fun z => z) (t := f_X6_settle x xn) (rf := fun o => o.1) (wf := fun o => wLG cI cZ cO q o.2) (own := RX6) (nm := "settle") (L0 := [(0, .ref (q 0)), (1, .int xn)]) (plainFor_of_name (by decide +kernel)) rfl rfl (Nat.le_of_ble_eq_true rfl) rfl ?_
  intro p e s m args below meth c A C
  unfold f_X6_settle
  refine x_iload_n C dX6_settle_0 1 rfl ?_
  refine x_iconst C 1 dX6_settle_1 (by decide) ?_
  refine x_icmp_lt C 12 dX6_settle_2 (by decide) (fun c1 => ?_) (fun c1 => ?_)
  · refine x_bipush C (-2) dX6_settle_12 (by decide) ?_
    exact x_iret C rfl dX6_settle_14 rfl rfl
  · refine x_iload_n C dX6_settle_5 1 rfl ?_
    refine x_sipush C 1000 dX6_settle_6 (by decide) ?_
    refine x_icmp_le C 15 dX6_settle_9 (by decide) (fun c2 => ?_) (fun c2 => ?_)
    · refine x_bipush C (-2) dX6_settle_12 (by decide) ?_
      exact x_iret C rfl dX6_settle_14 rfl rfl
    · have hN3 := run_nat (by assumption) (by assumption)
      refine x_leq (congrArg (fun (z : Int32) => ([(0, .ref (q 0)), (1, .int z)] : List (Nat × Value))) hN3.1) ?_
      refine x_iconst C 0 dX6_settle_15 (by decide) ?_
      refine x_istore_n (L' := [(2, .int 0), (0, .ref (q 0)), (1, .int (nI (ixn xn)))]) C dX6_settle_16 (by decide) rfl ?_
      refine x_lsub (L' := [(0, .ref (q 0)), (1, .int (nI (ixn xn))), (2, .int 0)]) [1, 2, 0] rfl ?_
      refine x_loopR f_X6_settle_t17 (fun (a5 : Sy) => f_X6_settle_x17 xn a5) (ixn xn) 17 (fun (i4 : Nat) (a5 : Sy) => [(0, .ref (q 0)), (1, .int (nI (ixn xn))), (2, .int (nI i4))]) (fun (i4 : Nat) (a5 : Sy) => []) (fun (i4 : Nat) (a5 : Sy) => wLG cI cZ cO q a5) (fun a5 => ?_) (fun i4 a5 g8 hk6 ih7 => ?_) (ixn xn) 0 x (by omega)
      · unfold f_X6_settle_x17
        refine x_iload_n C dX6_settle_17 2 rfl ?_
        refine x_iload_n C dX6_settle_18 1 rfl ?_
        refine x_icmp_ge_t C 39 dX6_settle_19 (by decide) Int32.lt_irrefl ?_
        refine x_iload_n C dX6_settle_39 2 rfl ?_
        exact x_iret C rfl dX6_settle_40 rfl rfl
      · unfold f_X6_settle_t17
        refine x_iload_n C dX6_settle_17 2 rfl ?_
        refine x_iload_n C dX6_settle_18 1 rfl ?_
        refine x_icmp_ge_f C 39 dX6_settle_19 (by decide) (nI_lt (b := ixn xn) hk6 (by omega)) ?_
        refine x_aload_n C dX6_settle_22 0 rfl ?_
        refine x_cViW (q0 := 0) (As := []) C mw_291 mw_292 mw_293 mw_37 mw_287 hd_X6_unsettled rfl rfl ⟨Nat.le_of_ble_eq_true rfl, Nat.le_of_ble_eq_true rfl⟩ rfl rfl rfl (c_X6_unsettled l D cI cZ cO q a5 ) rfl rfl (Nat.le_of_ble_eq_true rfl) (Nat.le_of_ble_eq_true rfl) (Nat.le_of_ble_eq_true rfl) dX6_settle_23 ?_
        refine x_if_eqZ C 39 dX6_settle_26 (by decide) (fun c9 => ?_) (fun c9 => ?_)
        · refine x_aload_n C dX6_settle_29 0 rfl ?_
          refine x_cVvW (q0 := 0) (As := []) C mw_283 mw_284 mw_285 mw_37 mw_282 hd_X6_tick rfl rfl ⟨Nat.le_of_ble_eq_true rfl, Nat.le_of_ble_eq_true rfl⟩ rfl rfl rfl (c_X6_tick l D cI cZ cO q a5 ) rfl rfl (Nat.le_of_ble_eq_true rfl) (Nat.le_of_ble_eq_true rfl) (Nat.le_of_ble_eq_true rfl) dX6_settle_30 ?_
          unfold f_X6_settle_o30
          generalize f_X6_tick a5 = o10
          refine x_iinc (L' := [(2, .int (nI (i4 + 1))), (0, .ref (q 0)), (1, .int (nI (ixn xn)))]) C (nI (i4 + 1)) dX6_settle_33 2 rfl (nI_add _ _) (by decide) rfl ?_
          refine x_goto C 17 dX6_settle_36 (by decide) ?_
          refine x_lsub (L' := [(0, .ref (q 0)), (1, .int (nI (ixn xn))), (2, .int (nI (i4 + 1)))]) [1, 2, 0] rfl ?_
          exact ih7 o10
        · refine x_iload_n C dX6_settle_39 2 rfl ?_
          exact x_iret C rfl dX6_settle_40 rfl rfl

def f_X6_plant_l45 (x : Sy) (xw : Int32) (b4 : Unit) : Int32 := if xw = 11 then ((x 1) 6 0) else (if xw = 12 then ((x 1) 7 0) else (if xw = 13 then ((x 1) 5 0) else (if xw = 14 then ((x 1) 9 0) else (if xw = 15 then ((x 0) 4 0) else (if xw = 16 then ((x 1) 10 0) else (if xw = 17 then (f_X6_ordered x) else (-2)))))))
def f_X6_plant_l20 (x : Sy) (xw : Int32) (b2 : Unit) : Int32 := if xw < 6 then (f_X6_plant_l45 x xw ()) else (if xw < 11 then ((x 1) 3 (ixn (xw - 6))) else (f_X6_plant_l45 x xw ()))
def f_X6_plant (x : Sy) (xw : Int32) : Int32 := if xw < 0 then (f_X6_plant_l20 x xw ()) else (if xw < 6 then ((x 1) 1 (ixn xw)) else (f_X6_plant_l20 x xw ()))
theorem hd_X6_plant : yX6_plant.cls ≠ "java/lang/invoke/MethodHandle" ∧ yX6_plant.cls ≠ "java/lang/invoke/VarHandle" ∧ (parseMethodDescriptor yX6_plant.desc).map (fun d => d.parameters.length) = some 1 := by decide +kernel
set_option maxHeartbeats 4000000 in
set_option maxRecDepth 100000 in
theorem c_X6_plant (l : Launch) (D : va_G) (cI cZ cO : ClassId) (q : Nat → Nat) (x : Sy) (xw : Int32)  : CTi l D (T3 cI cZ cO) yX6_plant (Cond.code yX6_plant cX6_plant 2 (some .int) :: WA) ({ frames := 3, cells := 0, slots := 0, locals := 64 } : Room) [.ref (q 0), .int xw] (wLG cI cZ cO q x) ((f_X6_plant x xw)) (wLG cI cZ cO q x) := by
  refine ct_i (K := fun z => z) (t := f_X6_plant x xw) (rf := fun o => o) (wf := fun o => wLG cI cZ cO q x) (own := RX6) (nm := "plant") (L0 := [(0, .ref (q 0)), (1, .int xw)]) (plainFor_of_name (by decide +kernel)) rfl rfl (Nat.le_of_ble_eq_true rfl) rfl ?_
  intro p e s m args below meth c A C
  unfold f_X6_plant
  refine x_iload_n C dX6_plant_0 1 rfl ?_
  refine x_lab (fun (b2 : Unit) => f_X6_plant_l20 x xw b2) 20 (fun (b2 : Unit) => [(0, .ref (q 0)), (1, .int xw)]) (fun (b2 : Unit) => []) (fun (b2 : Unit) => wLG cI cZ cO q x) (fun b2 => ?_) (fun J15 => ?_)
  · unfold f_X6_plant_l20
    refine x_iload_n C dX6_plant_20 1 rfl ?_
    refine x_bipush C 6 dX6_plant_21 (by decide) ?_
    refine x_lab (fun (b4 : Unit) => f_X6_plant_l45 x xw b4) 45 (fun (b4 : Unit) => [(0, .ref (q 0)), (1, .int xw)]) (fun (b4 : Unit) => []) (fun (b4 : Unit) => wLG cI cZ cO q x) (fun b4 => ?_) (fun J12 => ?_)
    · unfold f_X6_plant_l45
      refine x_iload_n C dX6_plant_45 1 rfl ?_
      refine x_split (fun c5 => ?_) (fun c5 => ?_)
      · refine x_tsI C 11 88 dX6_plant_46 (i_eq c5 (by decide : (11 : Int32).toInt = 11)) (by decide) (by decide) rfl (by decide) ?_
        refine x_aload_n C dX6_plant_88 0 rfl ?_
        refine x_get (v := .ref (q 2)) C hwsX60 0 mw_219 0 rfl rfl (by decide) rfl rfl dX6_plant_89 ?_
        refine x_get (v := .int ((x 1) 6 0)) C hwsX20 6 mw_297 2 rfl rfl (by decide) rfl rfl dX6_plant_92 ?_
        exact x_iret C rfl dX6_plant_95 rfl rfl
      · refine x_split (fun c6 => ?_) (fun c6 => ?_)
        · refine x_tsI C 12 96 dX6_plant_46 (i_eq c6 (by decide : (12 : Int32).toInt = 12)) (by decide) (by decide) rfl (by decide) ?_
          refine x_aload_n C dX6_plant_96 0 rfl ?_
          refine x_get (v := .ref (q 2)) C hwsX60 0 mw_219 0 rfl rfl (by decide) rfl rfl dX6_plant_97 ?_
          refine x_get (v := .int ((x 1) 7 0)) C hwsX20 7 mw_298 2 rfl rfl (by decide) rfl rfl dX6_plant_100 ?_
          exact x_iret C rfl dX6_plant_103 rfl rfl
        · refine x_split (fun c7 => ?_) (fun c7 => ?_)
          · refine x_tsI C 13 104 dX6_plant_46 (i_eq c7 (by decide : (13 : Int32).toInt = 13)) (by decide) (by decide) rfl (by decide) ?_
            refine x_aload_n C dX6_plant_104 0 rfl ?_
            refine x_get (v := .ref (q 2)) C hwsX60 0 mw_219 0 rfl rfl (by decide) rfl rfl dX6_plant_105 ?_
            refine x_get (v := .int ((x 1) 5 0)) C hwsX20 5 mw_299 2 rfl rfl (by decide) rfl rfl dX6_plant_108 ?_
            exact x_iret C rfl dX6_plant_111 rfl rfl
          · refine x_split (fun c8 => ?_) (fun c8 => ?_)
            · refine x_tsI C 14 112 dX6_plant_46 (i_eq c8 (by decide : (14 : Int32).toInt = 14)) (by decide) (by decide) rfl (by decide) ?_
              refine x_aload_n C dX6_plant_112 0 rfl ?_
              refine x_get (v := .ref (q 2)) C hwsX60 0 mw_219 0 rfl rfl (by decide) rfl rfl dX6_plant_113 ?_
              refine x_get (v := .int ((x 1) 9 0)) C hwsX20 9 mw_250 2 rfl rfl (by decide) rfl rfl dX6_plant_116 ?_
              exact x_iret C rfl dX6_plant_119 rfl rfl
            · refine x_split (fun c9 => ?_) (fun c9 => ?_)
              · refine x_tsI C 15 120 dX6_plant_46 (i_eq c9 (by decide : (15 : Int32).toInt = 15)) (by decide) (by decide) rfl (by decide) ?_
                refine x_aload_n C dX6_plant_120 0 rfl ?_
                refine x_get (v := .int ((x 0) 4 0)) C hwsX60 4 mw_229 0 rfl rfl (by decide) rfl rfl dX6_plant_121 ?_
                exact x_iret C rfl dX6_plant_124 rfl rfl
              · refine x_split (fun c10 => ?_) (fun c10 => ?_)
                · refine x_tsI C 16 125 dX6_plant_46 (i_eq c10 (by decide : (16 : Int32).toInt = 16)) (by decide) (by decide) rfl (by decide) ?_
                  refine x_aload_n C dX6_plant_125 0 rfl ?_
                  refine x_get (v := .ref (q 2)) C hwsX60 0 mw_219 0 rfl rfl (by decide) rfl rfl dX6_plant_126 ?_
                  refine x_get (v := .int ((x 1) 10 0)) C hwsX20 10 mw_300 2 rfl rfl (by decide) rfl rfl dX6_plant_129 ?_
                  exact x_iret C rfl dX6_plant_132 rfl rfl
                · refine x_split (fun c11 => ?_) (fun c11 => ?_)
                  · refine x_tsI C 17 133 dX6_plant_46 (i_eq c11 (by decide : (17 : Int32).toInt = 17)) (by decide) (by decide) rfl (by decide) ?_
                    refine x_aload_n C dX6_plant_133 0 rfl ?_
                    refine x_cViW (q0 := 0) (As := []) C mw_268 mw_269 mw_270 mw_37 mw_264 hd_X6_ordered rfl rfl ⟨Nat.le_of_ble_eq_true rfl, Nat.le_of_ble_eq_true rfl⟩ rfl rfl rfl (c_X6_ordered l D cI cZ cO q x ) rfl rfl (Nat.le_of_ble_eq_true rfl) (Nat.le_of_ble_eq_true rfl) (Nat.le_of_ble_eq_true rfl) dX6_plant_134 ?_
                    exact x_iret C rfl dX6_plant_137 rfl rfl
                  · refine x_tsO C 138 dX6_plant_46 (by have g0 := i_ne c5 (by decide : (11 : Int32).toInt = 11); have g1 := i_ne c6 (by decide : (12 : Int32).toInt = 12); have g2 := i_ne c7 (by decide : (13 : Int32).toInt = 13); have g3 := i_ne c8 (by decide : (14 : Int32).toInt = 14); have g4 := i_ne c9 (by decide : (15 : Int32).toInt = 15); have g5 := i_ne c10 (by decide : (16 : Int32).toInt = 16); have g6 := i_ne c11 (by decide : (17 : Int32).toInt = 17); omega) (by decide) ?_
                    refine x_bipush C (-2) dX6_plant_138 (by decide) ?_
                    exact x_iret C rfl dX6_plant_140 rfl rfl
    refine x_icmp_lt C 45 dX6_plant_23 (by decide) (fun c3 => ?_) (fun c3 => ?_)
    · exact J12 ()
    · refine x_iload_n C dX6_plant_26 1 rfl ?_
      refine x_bipush C 11 dX6_plant_27 (by decide) ?_
      refine x_icmp_ge C 45 dX6_plant_29 (by decide) (fun c13 => ?_) (fun c13 => ?_)
      · refine x_aload_n C dX6_plant_32 0 rfl ?_
        refine x_get (v := .ref (q 2)) C hwsX60 0 mw_219 0 rfl rfl (by decide) rfl rfl dX6_plant_33 ?_
        refine x_get (v := .ref (q 6)) C hwsX20 3 mw_296 2 rfl rfl (by decide) rfl rfl dX6_plant_36 ?_
        refine x_iload_n C dX6_plant_39 1 rfl ?_
        refine x_bipush C 6 dX6_plant_40 (by decide) ?_
        refine x_isub C dX6_plant_42 ?_
        have hN14 := sub_nat (by assumption) (by assumption)
        refine x_top (nI (ixn (xw - 6))) hN14.1 ?_
        refine x_iald C 6 0 rfl rfl (ixn (xw - 6)) rfl (by omega) (by decide) ((x 1) 3 (ixn (xw - 6))) rfl dX6_plant_43 ?_
        exact x_iret C rfl dX6_plant_44 rfl rfl
      · exact J12 ()
  refine x_if_lt C 20 dX6_plant_1 (by decide) (fun c1 => ?_) (fun c1 => ?_)
  · exact J15 ()
  · refine x_iload_n C dX6_plant_4 1 rfl ?_
    refine x_bipush C 6 dX6_plant_5 (by decide) ?_
    refine x_icmp_ge C 20 dX6_plant_7 (by decide) (fun c16 => ?_) (fun c16 => ?_)
    · refine x_aload_n C dX6_plant_10 0 rfl ?_
      refine x_get (v := .ref (q 2)) C hwsX60 0 mw_219 0 rfl rfl (by decide) rfl rfl dX6_plant_11 ?_
      refine x_get (v := .ref (q 4)) C hwsX20 1 mw_295 2 rfl rfl (by decide) rfl rfl dX6_plant_14 ?_
      refine x_iload_n C dX6_plant_17 1 rfl ?_
      have hN17 := lt_nat 6 (by decide) (by assumption) (by assumption)
      refine x_top (nI (ixn xw)) hN17.1 ?_
      refine x_iald C 4 0 rfl rfl (ixn xw) rfl (by omega) (by decide) ((x 1) 1 (ixn xw)) rfl dX6_plant_18 ?_
      exact x_iret C rfl dX6_plant_19 rfl rfl
    · exact J15 ()

def f_X6_about (x : Sy) (xm : Int32) (xw : Int32) : Int32 := if (f_X6_outside xm 1) = true then (-2) else (if xm = 0 then (f_X0_fact (x 3) (x 4) (x 5) xw) else (f_X0_fact (x 6) (x 7) (x 8) xw))
theorem hd_X6_about : yX6_about.cls ≠ "java/lang/invoke/MethodHandle" ∧ yX6_about.cls ≠ "java/lang/invoke/VarHandle" ∧ (parseMethodDescriptor yX6_about.desc).map (fun d => d.parameters.length) = some 2 := by decide +kernel
set_option maxHeartbeats 4000000 in
set_option maxRecDepth 100000 in
theorem c_X6_about (l : Launch) (D : va_G) (cI cZ cO : ClassId) (q : Nat → Nat) (x : Sy) (xm : Int32) (xw : Int32)  : CTi l D (T3 cI cZ cO) yX6_about (Cond.code yX6_about cX6_about 3 (some .int) :: WA) ({ frames := 3, cells := 0, slots := 0, locals := 63 } : Room) [.ref (q 0), .int xm, .int xw] (wLG cI cZ cO q x) ((f_X6_about x xm xw)) (wLG cI cZ cO q x) := by
  refine ct_i (K := fun z => z) (t := f_X6_about x xm xw) (rf := fun o => o) (wf := fun o => wLG cI cZ cO q x) (own := RX6) (nm := "about") (L0 := [(0, .ref (q 0)), (1, .int xm), (2, .int xw)]) (plainFor_of_name (by decide +kernel)) rfl rfl (Nat.le_of_ble_eq_true rfl) rfl ?_
  intro p e s m args below meth c A C
  unfold f_X6_about
  refine x_iload_n C dX6_about_0 1 rfl ?_
  refine x_iconst C 1 dX6_about_1 (by decide) ?_
  refine x_cSi (As := [.int xm, .int 1]) (ws' := wLG cI cZ cO q x) C mw_245 mw_36 mw_37 mw_34 hd_X6_outside rfl rfl ⟨Nat.le_of_ble_eq_true rfl, Nat.le_of_ble_eq_true rfl⟩ (c_X6_outside l D cI cZ cO  xm 1 ) [] [.inl 0, .inl 1, .inl 2, .inl 3, .inl 4, .inl 5, .inl 6, .inl 7, .inl 8, .inl 9, .inl 10, .inl 11, .inl 12, .inl 13, .inl 14, .inl 15, .inl 16, .inl 17, .inl 18, .inl 19, .inl 20, .inl 21, .inl 22, .inl 23, .inl 24] trivial rfl ⟨rfl, rfl, rfl, rfl, rfl, rfl, rfl, rfl, rfl, rfl, rfl, rfl, rfl, rfl, rfl, rfl, rfl, rfl, rfl, rfl, rfl, rfl, rfl, rfl, rfl, trivial⟩ rfl ⟨rfl, rfl, rfl, rfl, rfl, rfl, rfl, rfl, rfl, rfl, rfl, rfl, rfl, rfl, rfl, rfl, rfl, rfl, rfl, rfl, rfl, rfl, rfl, rfl, rfl, trivial⟩ rfl rfl (Nat.le_of_ble_eq_true rfl) (Nat.le_of_ble_eq_true rfl) (Nat.le_of_ble_eq_true rfl) dX6_about_2 ?_
  refine x_if_eqZ C 13 dX6_about_5 (by decide) (fun c1 => ?_) (fun c1 => ?_)
  · refine x_bipush C (-2) dX6_about_8 (by decide) ?_
    refine x_goto C 23 dX6_about_10 (by decide) ?_
    exact x_iret C rfl dX6_about_23 rfl rfl
  · refine x_split (fun c2 => ?_) (fun c2 => ?_)
    · refine x_leq (congrArg (fun (z : Int32) => ([(0, .ref (q 0)), (1, .int z), (2, .int xw)] : List (Nat × Value))) (c2 : xm = 0)) ?_
      refine x_aload_n C dX6_about_13 0 rfl ?_
      refine x_get (v := .ref (q 1)) C hwsX60 2 mw_224 0 rfl rfl (by decide) rfl rfl dX6_about_14 ?_
      refine x_iload_n C dX6_about_17 1 rfl ?_
      refine x_aald C 1 2 rfl rfl 0 rfl (by decide) (by decide) rfl dX6_about_18 ?_
      refine x_iload_n C dX6_about_19 2 rfl ?_
      refine x_cVi (q0 := 11) (As := [.int xw]) (ws' := wLG cI cZ cO q x) C mw_303 mw_304 mw_305 mw_46 mw_38 hd_X0_fact rfl rfl ⟨Nat.le_of_ble_eq_true rfl, Nat.le_of_ble_eq_true rfl⟩ rfl rfl rfl (c_X0_fact l D cI cZ cO (q 11) (q 12) (q 13) (q 14) (q 15) (q 16) (x 3) (x 4) (x 5) xw ) [11, 12, 13, 14, 15, 16] [.inl 0, .inl 1, .inl 2, .inl 3, .inl 4, .inl 5, .inl 6, .inl 7, .inl 8, .inl 9, .inl 10, .inr 0, .inr 1, .inr 2, .inr 3, .inr 4, .inr 5, .inl 17, .inl 18, .inl 19, .inl 20, .inl 21, .inl 22, .inl 23, .inl 24] ⟨rfl, rfl, rfl, rfl, rfl, rfl, trivial⟩ rfl ⟨rfl, rfl, rfl, rfl, rfl, rfl, rfl, rfl, rfl, rfl, rfl, rfl, rfl, rfl, rfl, rfl, rfl, rfl, rfl, rfl, rfl, rfl, rfl, rfl, rfl, trivial⟩ rfl ⟨rfl, rfl, rfl, rfl, rfl, rfl, rfl, rfl, rfl, rfl, rfl, rfl, rfl, rfl, rfl, rfl, rfl, rfl, rfl, rfl, rfl, rfl, rfl, rfl, rfl, trivial⟩ rfl rfl (Nat.le_of_ble_eq_true rfl) (Nat.le_of_ble_eq_true rfl) (Nat.le_of_ble_eq_true rfl) dX6_about_20 ?_
      exact x_iret C rfl dX6_about_23 rfl rfl
    · refine x_leq (congrArg (fun (z : Int32) => ([(0, .ref (q 0)), (1, .int z), (2, .int xw)] : List (Nat × Value))) (case01 (by assumption) c2 : xm = 1)) ?_
      refine x_aload_n C dX6_about_13 0 rfl ?_
      refine x_get (v := .ref (q 1)) C hwsX60 2 mw_224 0 rfl rfl (by decide) rfl rfl dX6_about_14 ?_
      refine x_iload_n C dX6_about_17 1 rfl ?_
      refine x_aald C 1 2 rfl rfl 1 rfl (by decide) (by decide) rfl dX6_about_18 ?_
      refine x_iload_n C dX6_about_19 2 rfl ?_
      refine x_cVi (q0 := 17) (As := [.int xw]) (ws' := wLG cI cZ cO q x) C mw_303 mw_304 mw_305 mw_46 mw_38 hd_X0_fact rfl rfl ⟨Nat.le_of_ble_eq_true rfl, Nat.le_of_ble_eq_true rfl⟩ rfl rfl rfl (c_X0_fact l D cI cZ cO (q 17) (q 18) (q 19) (q 20) (q 21) (q 22) (x 6) (x 7) (x 8) xw ) [17, 18, 19, 20, 21, 22] [.inl 0, .inl 1, .inl 2, .inl 3, .inl 4, .inl 5, .inl 6, .inl 7, .inl 8, .inl 9, .inl 10, .inl 11, .inl 12, .inl 13, .inl 14, .inl 15, .inl 16, .inr 0, .inr 1, .inr 2, .inr 3, .inr 4, .inr 5, .inl 23, .inl 24] ⟨rfl, rfl, rfl, rfl, rfl, rfl, trivial⟩ rfl ⟨rfl, rfl, rfl, rfl, rfl, rfl, rfl, rfl, rfl, rfl, rfl, rfl, rfl, rfl, rfl, rfl, rfl, rfl, rfl, rfl, rfl, rfl, rfl, rfl, rfl, trivial⟩ rfl ⟨rfl, rfl, rfl, rfl, rfl, rfl, rfl, rfl, rfl, rfl, rfl, rfl, rfl, rfl, rfl, rfl, rfl, rfl, rfl, rfl, rfl, rfl, rfl, rfl, rfl, trivial⟩ rfl rfl (Nat.le_of_ble_eq_true rfl) (Nat.le_of_ble_eq_true rfl) (Nat.le_of_ble_eq_true rfl) dX6_about_20 ?_
      exact x_iret C rfl dX6_about_23 rfl rfl

def f_X6_sees (x : Sy) (xm : Int32) (xs : Int32) (xw : Int32) : Int32 := if (f_X6_outside xm 1) = true then (-2) else (if (f_X6_outside xs 17) = true then (-2) else (if (f_X6_outside xw 1) = true then (-2) else (if xm = 0 then (if xw = 0 then ((x 4) 0 (ixn xs)) else ((x 4) 1 (ixn xs))) else (if xw = 0 then ((x 7) 0 (ixn xs)) else ((x 7) 1 (ixn xs))))))
theorem hd_X6_sees : yX6_sees.cls ≠ "java/lang/invoke/MethodHandle" ∧ yX6_sees.cls ≠ "java/lang/invoke/VarHandle" ∧ (parseMethodDescriptor yX6_sees.desc).map (fun d => d.parameters.length) = some 3 := by decide +kernel
set_option maxHeartbeats 4000000 in
set_option maxRecDepth 100000 in
theorem c_X6_sees (l : Launch) (D : va_G) (cI cZ cO : ClassId) (q : Nat → Nat) (x : Sy) (xm : Int32) (xs : Int32) (xw : Int32)  : CTi l D (T3 cI cZ cO) yX6_sees (Cond.code yX6_sees cX6_sees 5 (some .int) :: WA) ({ frames := 1, cells := 0, slots := 0, locals := 21 } : Room) [.ref (q 0), .int xm, .int xs, .int xw] (wLG cI cZ cO q x) ((f_X6_sees x xm xs xw)) (wLG cI cZ cO q x) := by
  refine ct_i (K := fun z => z) (t := f_X6_sees x xm xs xw) (rf := fun o => o) (wf := fun o => wLG cI cZ cO q x) (own := RX6) (nm := "sees") (L0 := [(0, .ref (q 0)), (1, .int xm), (2, .int xs), (3, .int xw)]) (plainFor_of_name (by decide +kernel)) rfl rfl (Nat.le_of_ble_eq_true rfl) rfl ?_
  intro p e s m args below meth c A C
  unfold f_X6_sees
  refine x_iload_n C dX6_sees_0 1 rfl ?_
  refine x_iconst C 1 dX6_sees_1 (by decide) ?_
  refine x_cSi (As := [.int xm, .int 1]) (ws' := wLG cI cZ cO q x) C mw_245 mw_36 mw_37 mw_34 hd_X6_outside rfl rfl ⟨Nat.le_of_ble_eq_true rfl, Nat.le_of_ble_eq_true rfl⟩ (c_X6_outside l D cI cZ cO  xm 1 ) [] [.inl 0, .inl 1, .inl 2, .inl 3, .inl 4, .inl 5, .inl 6, .inl 7, .inl 8, .inl 9, .inl 10, .inl 11, .inl 12, .inl 13, .inl 14, .inl 15, .inl 16, .inl 17, .inl 18, .inl 19, .inl 20, .inl 21, .inl 22, .inl 23, .inl 24] trivial rfl ⟨rfl, rfl, rfl, rfl, rfl, rfl, rfl, rfl, rfl, rfl, rfl, rfl, rfl, rfl, rfl, rfl, rfl, rfl, rfl, rfl, rfl, rfl, rfl, rfl, rfl, trivial⟩ rfl ⟨rfl, rfl, rfl, rfl, rfl, rfl, rfl, rfl, rfl, rfl, rfl, rfl, rfl, rfl, rfl, rfl, rfl, rfl, rfl, rfl, rfl, rfl, rfl, rfl, rfl, trivial⟩ rfl rfl (Nat.le_of_ble_eq_true rfl) (Nat.le_of_ble_eq_true rfl) (Nat.le_of_ble_eq_true rfl) dX6_sees_2 ?_
  refine x_if_neZ C 25 dX6_sees_5 (by decide) (fun c1 => ?_) (fun c1 => ?_)
  · refine x_bipush C (-2) dX6_sees_25 (by decide) ?_
    exact x_iret C rfl dX6_sees_27 rfl rfl
  · refine x_iload_n C dX6_sees_8 2 rfl ?_
    refine x_bipush C 17 dX6_sees_9 (by decide) ?_
    refine x_cSi (As := [.int xs, .int 17]) (ws' := wLG cI cZ cO q x) C mw_245 mw_36 mw_37 mw_34 hd_X6_outside rfl rfl ⟨Nat.le_of_ble_eq_true rfl, Nat.le_of_ble_eq_true rfl⟩ (c_X6_outside l D cI cZ cO  xs 17 ) [] [.inl 0, .inl 1, .inl 2, .inl 3, .inl 4, .inl 5, .inl 6, .inl 7, .inl 8, .inl 9, .inl 10, .inl 11, .inl 12, .inl 13, .inl 14, .inl 15, .inl 16, .inl 17, .inl 18, .inl 19, .inl 20, .inl 21, .inl 22, .inl 23, .inl 24] trivial rfl ⟨rfl, rfl, rfl, rfl, rfl, rfl, rfl, rfl, rfl, rfl, rfl, rfl, rfl, rfl, rfl, rfl, rfl, rfl, rfl, rfl, rfl, rfl, rfl, rfl, rfl, trivial⟩ rfl ⟨rfl, rfl, rfl, rfl, rfl, rfl, rfl, rfl, rfl, rfl, rfl, rfl, rfl, rfl, rfl, rfl, rfl, rfl, rfl, rfl, rfl, rfl, rfl, rfl, rfl, trivial⟩ rfl rfl (Nat.le_of_ble_eq_true rfl) (Nat.le_of_ble_eq_true rfl) (Nat.le_of_ble_eq_true rfl) dX6_sees_11 ?_
    refine x_if_neZ C 25 dX6_sees_14 (by decide) (fun c2 => ?_) (fun c2 => ?_)
    · refine x_bipush C (-2) dX6_sees_25 (by decide) ?_
      exact x_iret C rfl dX6_sees_27 rfl rfl
    · refine x_iload_n C dX6_sees_17 3 rfl ?_
      refine x_iconst C 1 dX6_sees_18 (by decide) ?_
      refine x_cSi (As := [.int xw, .int 1]) (ws' := wLG cI cZ cO q x) C mw_245 mw_36 mw_37 mw_34 hd_X6_outside rfl rfl ⟨Nat.le_of_ble_eq_true rfl, Nat.le_of_ble_eq_true rfl⟩ (c_X6_outside l D cI cZ cO  xw 1 ) [] [.inl 0, .inl 1, .inl 2, .inl 3, .inl 4, .inl 5, .inl 6, .inl 7, .inl 8, .inl 9, .inl 10, .inl 11, .inl 12, .inl 13, .inl 14, .inl 15, .inl 16, .inl 17, .inl 18, .inl 19, .inl 20, .inl 21, .inl 22, .inl 23, .inl 24] trivial rfl ⟨rfl, rfl, rfl, rfl, rfl, rfl, rfl, rfl, rfl, rfl, rfl, rfl, rfl, rfl, rfl, rfl, rfl, rfl, rfl, rfl, rfl, rfl, rfl, rfl, rfl, trivial⟩ rfl ⟨rfl, rfl, rfl, rfl, rfl, rfl, rfl, rfl, rfl, rfl, rfl, rfl, rfl, rfl, rfl, rfl, rfl, rfl, rfl, rfl, rfl, rfl, rfl, rfl, rfl, trivial⟩ rfl rfl (Nat.le_of_ble_eq_true rfl) (Nat.le_of_ble_eq_true rfl) (Nat.le_of_ble_eq_true rfl) dX6_sees_19 ?_
      refine x_if_eqZ C 28 dX6_sees_22 (by decide) (fun c3 => ?_) (fun c3 => ?_)
      · refine x_bipush C (-2) dX6_sees_25 (by decide) ?_
        exact x_iret C rfl dX6_sees_27 rfl rfl
      · have hN4 := out_nat 17 (by decide) (g := 17) rfl (by assumption : f_X6_outside xs 17 = false)
        refine x_leq (congrArg (fun (z : Int32) => ([(0, .ref (q 0)), (1, .int xm), (2, .int z), (3, .int xw)] : List (Nat × Value))) hN4.1) ?_
        refine x_split (fun c5 => ?_) (fun c5 => ?_)
        · refine x_leq (congrArg (fun (z : Int32) => ([(0, .ref (q 0)), (1, .int z), (2, .int (nI (ixn xs))), (3, .int xw)] : List (Nat × Value))) (c5 : xm = 0)) ?_
          refine x_aload_n C dX6_sees_28 0 rfl ?_
          refine x_get (v := .ref (q 1)) C hwsX60 2 mw_224 0 rfl rfl (by decide) rfl rfl dX6_sees_29 ?_
          refine x_iload_n C dX6_sees_32 1 rfl ?_
          refine x_aald C 1 2 rfl rfl 0 rfl (by decide) (by decide) rfl dX6_sees_33 ?_
          refine x_get (v := .ref (q 12)) C hwsX00 1 mw_307 11 rfl rfl (by decide) rfl rfl dX6_sees_34 ?_
          refine x_astore (L' := [(4, .ref (q 12)), (0, .ref (q 0)), (1, .int 0), (2, .int (nI (ixn xs))), (3, .int xw)]) C dX6_sees_37 (by decide) rfl ?_
          refine x_iload_n C dX6_sees_39 4 rfl ?_
          refine x_if_ne C 53 dX6_sees_40 (by decide) (fun c6 => ?_) (fun c6 => ?_)
          · refine x_aload C dX6_sees_43 0 rfl ?_
            refine x_get (v := .ref (q 13)) C hwsX40 0 mw_308 12 rfl rfl (by decide) rfl rfl dX6_sees_45 ?_
            refine x_iload_n C dX6_sees_48 3 rfl ?_
            refine x_iald C 13 0 rfl rfl (ixn xs) rfl (by omega) (by decide) ((x 4) 0 (ixn xs)) rfl dX6_sees_49 ?_
            refine x_goto C 60 dX6_sees_50 (by decide) ?_
            exact x_iret C rfl dX6_sees_60 rfl rfl
          · refine x_aload C dX6_sees_53 0 rfl ?_
            refine x_get (v := .ref (q 14)) C hwsX40 1 mw_309 12 rfl rfl (by decide) rfl rfl dX6_sees_55 ?_
            refine x_iload_n C dX6_sees_58 3 rfl ?_
            refine x_iald C 14 0 rfl rfl (ixn xs) rfl (by omega) (by decide) ((x 4) 1 (ixn xs)) rfl dX6_sees_59 ?_
            exact x_iret C rfl dX6_sees_60 rfl rfl
        · refine x_leq (congrArg (fun (z : Int32) => ([(0, .ref (q 0)), (1, .int z), (2, .int (nI (ixn xs))), (3, .int xw)] : List (Nat × Value))) (case01 (by assumption) c5 : xm = 1)) ?_
          refine x_aload_n C dX6_sees_28 0 rfl ?_
          refine x_get (v := .ref (q 1)) C hwsX60 2 mw_224 0 rfl rfl (by decide) rfl rfl dX6_sees_29 ?_
          refine x_iload_n C dX6_sees_32 1 rfl ?_
          refine x_aald C 1 2 rfl rfl 1 rfl (by decide) (by decide) rfl dX6_sees_33 ?_
          refine x_get (v := .ref (q 18)) C hwsX00 1 mw_307 17 rfl rfl (by decide) rfl rfl dX6_sees_34 ?_
          refine x_astore (L' := [(4, .ref (q 18)), (0, .ref (q 0)), (1, .int 1), (2, .int (nI (ixn xs))), (3, .int xw)]) C dX6_sees_37 (by decide) rfl ?_
          refine x_iload_n C dX6_sees_39 4 rfl ?_
          refine x_if_ne C 53 dX6_sees_40 (by decide) (fun c7 => ?_) (fun c7 => ?_)
          · refine x_aload C dX6_sees_43 0 rfl ?_
            refine x_get (v := .ref (q 19)) C hwsX40 0 mw_308 18 rfl rfl (by decide) rfl rfl dX6_sees_45 ?_
            refine x_iload_n C dX6_sees_48 3 rfl ?_
            refine x_iald C 19 0 rfl rfl (ixn xs) rfl (by omega) (by decide) ((x 7) 0 (ixn xs)) rfl dX6_sees_49 ?_
            refine x_goto C 60 dX6_sees_50 (by decide) ?_
            exact x_iret C rfl dX6_sees_60 rfl rfl
          · refine x_aload C dX6_sees_53 0 rfl ?_
            refine x_get (v := .ref (q 20)) C hwsX40 1 mw_309 18 rfl rfl (by decide) rfl rfl dX6_sees_55 ?_
            refine x_iload_n C dX6_sees_58 3 rfl ?_
            refine x_iald C 20 0 rfl rfl (ixn xs) rfl (by omega) (by decide) ((x 7) 1 (ixn xs)) rfl dX6_sees_59 ?_
            exact x_iret C rfl dX6_sees_60 rfl rfl

def f_X6_tells (x : Sy) (xs : Int32) (xc : Int32) : Int32 := if (f_X6_outside xs 17) = true then (-2) else (if (f_X6_outside xc 2) = true then (-2) else (f_X3_told (x 2) (ixn xs) (ixn xc)))
theorem hd_X6_tells : yX6_tells.cls ≠ "java/lang/invoke/MethodHandle" ∧ yX6_tells.cls ≠ "java/lang/invoke/VarHandle" ∧ (parseMethodDescriptor yX6_tells.desc).map (fun d => d.parameters.length) = some 2 := by decide +kernel
set_option maxHeartbeats 4000000 in
set_option maxRecDepth 100000 in
theorem c_X6_tells (l : Launch) (D : va_G) (cI cZ cO : ClassId) (q : Nat → Nat) (x : Sy) (xs : Int32) (xc : Int32)  : CTi l D (T3 cI cZ cO) yX6_tells (Cond.code yX6_tells cX6_tells 3 (some .int) :: WA) ({ frames := 1, cells := 0, slots := 0, locals := 22 } : Room) [.ref (q 0), .int xs, .int xc] (wLG cI cZ cO q x) ((f_X6_tells x xs xc)) (wLG cI cZ cO q x) := by
  refine ct_i (K := fun z => z) (t := f_X6_tells x xs xc) (rf := fun o => o) (wf := fun o => wLG cI cZ cO q x) (own := RX6) (nm := "tells") (L0 := [(0, .ref (q 0)), (1, .int xs), (2, .int xc)]) (plainFor_of_name (by decide +kernel)) rfl rfl (Nat.le_of_ble_eq_true rfl) rfl ?_
  intro p e s m args below meth c A C
  unfold f_X6_tells
  refine x_iload_n C dX6_tells_0 1 rfl ?_
  refine x_bipush C 17 dX6_tells_1 (by decide) ?_
  refine x_cSi (As := [.int xs, .int 17]) (ws' := wLG cI cZ cO q x) C mw_245 mw_36 mw_37 mw_34 hd_X6_outside rfl rfl ⟨Nat.le_of_ble_eq_true rfl, Nat.le_of_ble_eq_true rfl⟩ (c_X6_outside l D cI cZ cO  xs 17 ) [] [.inl 0, .inl 1, .inl 2, .inl 3, .inl 4, .inl 5, .inl 6, .inl 7, .inl 8, .inl 9, .inl 10, .inl 11, .inl 12, .inl 13, .inl 14, .inl 15, .inl 16, .inl 17, .inl 18, .inl 19, .inl 20, .inl 21, .inl 22, .inl 23, .inl 24] trivial rfl ⟨rfl, rfl, rfl, rfl, rfl, rfl, rfl, rfl, rfl, rfl, rfl, rfl, rfl, rfl, rfl, rfl, rfl, rfl, rfl, rfl, rfl, rfl, rfl, rfl, rfl, trivial⟩ rfl ⟨rfl, rfl, rfl, rfl, rfl, rfl, rfl, rfl, rfl, rfl, rfl, rfl, rfl, rfl, rfl, rfl, rfl, rfl, rfl, rfl, rfl, rfl, rfl, rfl, rfl, trivial⟩ rfl rfl (Nat.le_of_ble_eq_true rfl) (Nat.le_of_ble_eq_true rfl) (Nat.le_of_ble_eq_true rfl) dX6_tells_3 ?_
  refine x_if_neZ C 17 dX6_tells_6 (by decide) (fun c1 => ?_) (fun c1 => ?_)
  · refine x_bipush C (-2) dX6_tells_17 (by decide) ?_
    exact x_iret C rfl dX6_tells_19 rfl rfl
  · refine x_iload_n C dX6_tells_9 2 rfl ?_
    refine x_iconst C 2 dX6_tells_10 (by decide) ?_
    refine x_cSi (As := [.int xc, .int 2]) (ws' := wLG cI cZ cO q x) C mw_245 mw_36 mw_37 mw_34 hd_X6_outside rfl rfl ⟨Nat.le_of_ble_eq_true rfl, Nat.le_of_ble_eq_true rfl⟩ (c_X6_outside l D cI cZ cO  xc 2 ) [] [.inl 0, .inl 1, .inl 2, .inl 3, .inl 4, .inl 5, .inl 6, .inl 7, .inl 8, .inl 9, .inl 10, .inl 11, .inl 12, .inl 13, .inl 14, .inl 15, .inl 16, .inl 17, .inl 18, .inl 19, .inl 20, .inl 21, .inl 22, .inl 23, .inl 24] trivial rfl ⟨rfl, rfl, rfl, rfl, rfl, rfl, rfl, rfl, rfl, rfl, rfl, rfl, rfl, rfl, rfl, rfl, rfl, rfl, rfl, rfl, rfl, rfl, rfl, rfl, rfl, trivial⟩ rfl ⟨rfl, rfl, rfl, rfl, rfl, rfl, rfl, rfl, rfl, rfl, rfl, rfl, rfl, rfl, rfl, rfl, rfl, rfl, rfl, rfl, rfl, rfl, rfl, rfl, rfl, trivial⟩ rfl rfl (Nat.le_of_ble_eq_true rfl) (Nat.le_of_ble_eq_true rfl) (Nat.le_of_ble_eq_true rfl) dX6_tells_11 ?_
    refine x_if_eqZ C 20 dX6_tells_14 (by decide) (fun c2 => ?_) (fun c2 => ?_)
    · refine x_bipush C (-2) dX6_tells_17 (by decide) ?_
      exact x_iret C rfl dX6_tells_19 rfl rfl
    · have hN3 := out_nat 17 (by decide) (g := 17) rfl (by assumption : f_X6_outside xs 17 = false)
      refine x_leq (congrArg (fun (z : Int32) => ([(0, .ref (q 0)), (1, .int z), (2, .int xc)] : List (Nat × Value))) hN3.1) ?_
      have hN4 := out_nat 2 (by decide) (g := 2) rfl (by assumption : f_X6_outside xc 2 = false)
      refine x_leq (congrArg (fun (z : Int32) => ([(0, .ref (q 0)), (1, .int (nI (ixn xs))), (2, .int z)] : List (Nat × Value))) hN4.1) ?_
      refine x_aload_n C dX6_tells_20 0 rfl ?_
      refine x_get (v := .ref (q 8)) C hwsX60 1 mw_222 0 rfl rfl (by decide) rfl rfl dX6_tells_21 ?_
      refine x_iload_n C dX6_tells_24 1 rfl ?_
      refine x_iload_n C dX6_tells_25 2 rfl ?_
      refine x_cVi (q0 := 8) (As := [.int (nI (ixn xs)), .int (nI (ixn xc))]) (ws' := wLG cI cZ cO q x) C mw_311 mw_63 mw_64 mw_65 mw_58 hd_X3_told rfl rfl ⟨Nat.le_of_ble_eq_true rfl, Nat.le_of_ble_eq_true rfl⟩ rfl rfl rfl (c_X3_told l D cI cZ cO (q 8) (q 9) (q 10) (x 2) (ixn xs) (ixn xc) (by omega) (by omega)) [8, 9, 10] [.inl 0, .inl 1, .inl 2, .inl 3, .inl 4, .inl 5, .inl 6, .inl 7, .inr 0, .inr 1, .inr 2, .inl 11, .inl 12, .inl 13, .inl 14, .inl 15, .inl 16, .inl 17, .inl 18, .inl 19, .inl 20, .inl 21, .inl 22, .inl 23, .inl 24] ⟨rfl, rfl, rfl, trivial⟩ rfl ⟨rfl, rfl, rfl, rfl, rfl, rfl, rfl, rfl, rfl, rfl, rfl, rfl, rfl, rfl, rfl, rfl, rfl, rfl, rfl, rfl, rfl, rfl, rfl, rfl, rfl, trivial⟩ rfl ⟨rfl, rfl, rfl, rfl, rfl, rfl, rfl, rfl, rfl, rfl, rfl, rfl, rfl, rfl, rfl, rfl, rfl, rfl, rfl, rfl, rfl, rfl, rfl, rfl, rfl, trivial⟩ rfl rfl (Nat.le_of_ble_eq_true rfl) (Nat.le_of_ble_eq_true rfl) (Nat.le_of_ble_eq_true rfl) dX6_tells_26 ?_
      exact x_iret C rfl dX6_tells_29 rfl rfl

def f_X6_lights (x : Sy) : Int32 := (x 0) 5 0
theorem hd_X6_lights : yX6_lights.cls ≠ "java/lang/invoke/MethodHandle" ∧ yX6_lights.cls ≠ "java/lang/invoke/VarHandle" ∧ (parseMethodDescriptor yX6_lights.desc).map (fun d => d.parameters.length) = some 0 := by decide +kernel
set_option maxHeartbeats 4000000 in
set_option maxRecDepth 100000 in
theorem c_X6_lights (l : Launch) (D : va_G) (cI cZ cO : ClassId) (q : Nat → Nat) (x : Sy)  : CTi l D (T3 cI cZ cO) yX6_lights (Cond.code yX6_lights cX6_lights 1 (some .int) :: WA) ({ frames := 0, cells := 0, slots := 0, locals := 0 } : Room) [.ref (q 0)] (wLG cI cZ cO q x) ((f_X6_lights x)) (wLG cI cZ cO q x) := by
  refine ct_i (K := fun z => z) (t := f_X6_lights x) (rf := fun o => o) (wf := fun o => wLG cI cZ cO q x) (own := RX6) (nm := "lights") (L0 := [(0, .ref (q 0))]) (plainFor_of_name (by decide +kernel)) rfl rfl (Nat.le_of_ble_eq_true rfl) rfl ?_
  intro p e s m args below meth c A C
  unfold f_X6_lights
  refine x_aload_n C dX6_lights_0 0 rfl ?_
  refine x_get (v := .int ((x 0) 5 0)) C hwsX60 5 mw_230 0 rfl rfl (by decide) rfl rfl dX6_lights_1 ?_
  exact x_iret C rfl dX6_lights_4 rfl rfl

def f_X6_log (x : Sy) (xi : Int32) (xw : Int32) : Int32 := if (f_X6_outside xw 2) = true then (-2) else (f_X1_number (x 9) xi (ixn xw))
theorem hd_X6_log : yX6_log.cls ≠ "java/lang/invoke/MethodHandle" ∧ yX6_log.cls ≠ "java/lang/invoke/VarHandle" ∧ (parseMethodDescriptor yX6_log.desc).map (fun d => d.parameters.length) = some 2 := by decide +kernel
set_option maxHeartbeats 4000000 in
set_option maxRecDepth 100000 in
theorem c_X6_log (l : Launch) (D : va_G) (cI cZ cO : ClassId) (q : Nat → Nat) (x : Sy) (xi : Int32) (xw : Int32)  : CTi l D (T3 cI cZ cO) yX6_log (Cond.code yX6_log cX6_log 3 (some .int) :: WA) ({ frames := 2, cells := 0, slots := 0, locals := 44 } : Room) [.ref (q 0), .int xi, .int xw] (wLG cI cZ cO q x) ((f_X6_log x xi xw)) (wLG cI cZ cO q x) := by
  refine ct_i (K := fun z => z) (t := f_X6_log x xi xw) (rf := fun o => o) (wf := fun o => wLG cI cZ cO q x) (own := RX6) (nm := "log") (L0 := [(0, .ref (q 0)), (1, .int xi), (2, .int xw)]) (plainFor_of_name (by decide +kernel)) rfl rfl (Nat.le_of_ble_eq_true rfl) rfl ?_
  intro p e s m args below meth c A C
  unfold f_X6_log
  refine x_iload_n C dX6_log_0 2 rfl ?_
  refine x_iconst C 2 dX6_log_1 (by decide) ?_
  refine x_cSi (As := [.int xw, .int 2]) (ws' := wLG cI cZ cO q x) C mw_245 mw_36 mw_37 mw_34 hd_X6_outside rfl rfl ⟨Nat.le_of_ble_eq_true rfl, Nat.le_of_ble_eq_true rfl⟩ (c_X6_outside l D cI cZ cO  xw 2 ) [] [.inl 0, .inl 1, .inl 2, .inl 3, .inl 4, .inl 5, .inl 6, .inl 7, .inl 8, .inl 9, .inl 10, .inl 11, .inl 12, .inl 13, .inl 14, .inl 15, .inl 16, .inl 17, .inl 18, .inl 19, .inl 20, .inl 21, .inl 22, .inl 23, .inl 24] trivial rfl ⟨rfl, rfl, rfl, rfl, rfl, rfl, rfl, rfl, rfl, rfl, rfl, rfl, rfl, rfl, rfl, rfl, rfl, rfl, rfl, rfl, rfl, rfl, rfl, rfl, rfl, trivial⟩ rfl ⟨rfl, rfl, rfl, rfl, rfl, rfl, rfl, rfl, rfl, rfl, rfl, rfl, rfl, rfl, rfl, rfl, rfl, rfl, rfl, rfl, rfl, rfl, rfl, rfl, rfl, trivial⟩ rfl rfl (Nat.le_of_ble_eq_true rfl) (Nat.le_of_ble_eq_true rfl) (Nat.le_of_ble_eq_true rfl) dX6_log_2 ?_
  refine x_if_eqZ C 13 dX6_log_5 (by decide) (fun c1 => ?_) (fun c1 => ?_)
  · refine x_bipush C (-2) dX6_log_8 (by decide) ?_
    refine x_goto C 22 dX6_log_10 (by decide) ?_
    exact x_iret C rfl dX6_log_22 rfl rfl
  · have hN2 := out_nat 2 (by decide) (g := 2) rfl (by assumption : f_X6_outside xw 2 = false)
    refine x_leq (congrArg (fun (z : Int32) => ([(0, .ref (q 0)), (1, .int xi), (2, .int z)] : List (Nat × Value))) hN2.1) ?_
    refine x_aload_n C dX6_log_13 0 rfl ?_
    refine x_get (v := .ref (q 23)) C hwsX60 3 mw_228 0 rfl rfl (by decide) rfl rfl dX6_log_14 ?_
    refine x_iload_n C dX6_log_17 1 rfl ?_
    refine x_iload_n C dX6_log_18 2 rfl ?_
    refine x_cVi (q0 := 23) (As := [.int xi, .int (nI (ixn xw))]) (ws' := wLG cI cZ cO q x) C mw_314 mw_315 mw_316 mw_144 mw_154 hd_X1_number rfl rfl ⟨Nat.le_of_ble_eq_true rfl, Nat.le_of_ble_eq_true rfl⟩ rfl rfl rfl (c_X1_number l D cI cZ cO (q 23) (q 24) (x 9) xi (ixn xw) (by omega)) [23, 24] [.inl 0, .inl 1, .inl 2, .inl 3, .inl 4, .inl 5, .inl 6, .inl 7, .inl 8, .inl 9, .inl 10, .inl 11, .inl 12, .inl 13, .inl 14, .inl 15, .inl 16, .inl 17, .inl 18, .inl 19, .inl 20, .inl 21, .inl 22, .inr 0, .inr 1] ⟨rfl, rfl, trivial⟩ rfl ⟨rfl, rfl, rfl, rfl, rfl, rfl, rfl, rfl, rfl, rfl, rfl, rfl, rfl, rfl, rfl, rfl, rfl, rfl, rfl, rfl, rfl, rfl, rfl, rfl, rfl, trivial⟩ rfl ⟨rfl, rfl, rfl, rfl, rfl, rfl, rfl, rfl, rfl, rfl, rfl, rfl, rfl, rfl, rfl, rfl, rfl, rfl, rfl, rfl, rfl, rfl, rfl, rfl, rfl, trivial⟩ rfl rfl (Nat.le_of_ble_eq_true rfl) (Nat.le_of_ble_eq_true rfl) (Nat.le_of_ble_eq_true rfl) dX6_log_19 ?_
    exact x_iret C rfl dX6_log_22 rfl rfl

def f_X6_logged (x : Sy) : Int32 := (x 9) 1 0
theorem hd_X6_logged : yX6_logged.cls ≠ "java/lang/invoke/MethodHandle" ∧ yX6_logged.cls ≠ "java/lang/invoke/VarHandle" ∧ (parseMethodDescriptor yX6_logged.desc).map (fun d => d.parameters.length) = some 0 := by decide +kernel
set_option maxHeartbeats 4000000 in
set_option maxRecDepth 100000 in
theorem c_X6_logged (l : Launch) (D : va_G) (cI cZ cO : ClassId) (q : Nat → Nat) (x : Sy)  : CTi l D (T3 cI cZ cO) yX6_logged (Cond.code yX6_logged cX6_logged 1 (some .int) :: WA) ({ frames := 0, cells := 0, slots := 0, locals := 0 } : Room) [.ref (q 0)] (wLG cI cZ cO q x) ((f_X6_logged x)) (wLG cI cZ cO q x) := by
  refine ct_i (K := fun z => z) (t := f_X6_logged x) (rf := fun o => o) (wf := fun o => wLG cI cZ cO q x) (own := RX6) (nm := "logged") (L0 := [(0, .ref (q 0))]) (plainFor_of_name (by decide +kernel)) rfl rfl (Nat.le_of_ble_eq_true rfl) rfl ?_
  intro p e s m args below meth c A C
  unfold f_X6_logged
  refine x_aload_n C dX6_logged_0 0 rfl ?_
  refine x_get (v := .ref (q 23)) C hwsX60 3 mw_228 0 rfl rfl (by decide) rfl rfl dX6_logged_1 ?_
  refine x_get (v := .int ((x 9) 1 0)) C hwsX10 1 mw_318 23 rfl rfl (by decide) rfl rfl dX6_logged_4 ?_
  exact x_iret C rfl dX6_logged_7 rfl rfl

def f_X6_bound (x : Sy) : Int32 := (80 + (2 * (f_X2_greatestLength (x 1) 0))) + (f_X2_greatestLength (x 1) 3)
theorem hd_X6_bound : yX6_bound.cls ≠ "java/lang/invoke/MethodHandle" ∧ yX6_bound.cls ≠ "java/lang/invoke/VarHandle" ∧ (parseMethodDescriptor yX6_bound.desc).map (fun d => d.parameters.length) = some 0 := by decide +kernel
set_option maxHeartbeats 4000000 in
set_option maxRecDepth 100000 in
theorem c_X6_bound (l : Launch) (D : va_G) (cI cZ cO : ClassId) (q : Nat → Nat) (x : Sy)  : CTi l D (T3 cI cZ cO) yX6_bound (Cond.code yX6_bound cX6_bound 1 (some .int) :: WA) ({ frames := 2, cells := 0, slots := 0, locals := 42 } : Room) [.ref (q 0)] (wLG cI cZ cO q x) ((f_X6_bound x)) (wLG cI cZ cO q x) := by
  refine ct_i (K := fun z => z) (t := f_X6_bound x) (rf := fun o => o) (wf := fun o => wLG cI cZ cO q x) (own := RX6) (nm := "bound") (L0 := [(0, .ref (q 0))]) (plainFor_of_name (by decide +kernel)) rfl rfl (Nat.le_of_ble_eq_true rfl) rfl ?_
  intro p e s m args below meth c A C
  unfold f_X6_bound
  refine x_bipush C 80 dX6_bound_0 (by decide) ?_
  refine x_iconst C 2 dX6_bound_2 (by decide) ?_
  refine x_aload_n C dX6_bound_3 0 rfl ?_
  refine x_get (v := .ref (q 2)) C hwsX60 0 mw_219 0 rfl rfl (by decide) rfl rfl dX6_bound_4 ?_
  refine x_iconst C 0 dX6_bound_7 (by decide) ?_
  refine x_cVi (q0 := 2) (As := [.int 0]) (ws' := wLG cI cZ cO q x) C mw_320 mw_321 mw_322 mw_171 mw_172 hd_X2_greatestLength rfl rfl ⟨Nat.le_of_ble_eq_true rfl, Nat.le_of_ble_eq_true rfl⟩ rfl rfl rfl (c_X2_greatestLength l D cI cZ cO (q 2) (q 3) (q 4) (q 5) (q 6) (q 7) (x 1) 0 (by omega)) [2, 3, 4, 5, 6, 7] [.inl 0, .inl 1, .inr 0, .inr 1, .inr 2, .inr 3, .inr 4, .inr 5, .inl 8, .inl 9, .inl 10, .inl 11, .inl 12, .inl 13, .inl 14, .inl 15, .inl 16, .inl 17, .inl 18, .inl 19, .inl 20, .inl 21, .inl 22, .inl 23, .inl 24] ⟨rfl, rfl, rfl, rfl, rfl, rfl, trivial⟩ rfl ⟨rfl, rfl, rfl, rfl, rfl, rfl, rfl, rfl, rfl, rfl, rfl, rfl, rfl, rfl, rfl, rfl, rfl, rfl, rfl, rfl, rfl, rfl, rfl, rfl, rfl, trivial⟩ rfl ⟨rfl, rfl, rfl, rfl, rfl, rfl, rfl, rfl, rfl, rfl, rfl, rfl, rfl, rfl, rfl, rfl, rfl, rfl, rfl, rfl, rfl, rfl, rfl, rfl, rfl, trivial⟩ rfl rfl (Nat.le_of_ble_eq_true rfl) (Nat.le_of_ble_eq_true rfl) (Nat.le_of_ble_eq_true rfl) dX6_bound_8 ?_
  refine x_imul C dX6_bound_11 ?_
  refine x_iadd C dX6_bound_12 ?_
  refine x_aload_n C dX6_bound_13 0 rfl ?_
  refine x_get (v := .ref (q 2)) C hwsX60 0 mw_219 0 rfl rfl (by decide) rfl rfl dX6_bound_14 ?_
  refine x_iconst C 3 dX6_bound_17 (by decide) ?_
  refine x_cVi (q0 := 2) (As := [.int 3]) (ws' := wLG cI cZ cO q x) C mw_320 mw_321 mw_322 mw_171 mw_172 hd_X2_greatestLength rfl rfl ⟨Nat.le_of_ble_eq_true rfl, Nat.le_of_ble_eq_true rfl⟩ rfl rfl rfl (c_X2_greatestLength l D cI cZ cO (q 2) (q 3) (q 4) (q 5) (q 6) (q 7) (x 1) 3 (by omega)) [2, 3, 4, 5, 6, 7] [.inl 0, .inl 1, .inr 0, .inr 1, .inr 2, .inr 3, .inr 4, .inr 5, .inl 8, .inl 9, .inl 10, .inl 11, .inl 12, .inl 13, .inl 14, .inl 15, .inl 16, .inl 17, .inl 18, .inl 19, .inl 20, .inl 21, .inl 22, .inl 23, .inl 24] ⟨rfl, rfl, rfl, rfl, rfl, rfl, trivial⟩ rfl ⟨rfl, rfl, rfl, rfl, rfl, rfl, rfl, rfl, rfl, rfl, rfl, rfl, rfl, rfl, rfl, rfl, rfl, rfl, rfl, rfl, rfl, rfl, rfl, rfl, rfl, trivial⟩ rfl ⟨rfl, rfl, rfl, rfl, rfl, rfl, rfl, rfl, rfl, rfl, rfl, rfl, rfl, rfl, rfl, rfl, rfl, rfl, rfl, rfl, rfl, rfl, rfl, rfl, rfl, trivial⟩ rfl rfl (Nat.le_of_ble_eq_true rfl) (Nat.le_of_ble_eq_true rfl) (Nat.le_of_ble_eq_true rfl) dX6_bound_18 ?_
  refine x_iadd C dX6_bound_21 ?_
  exact x_iret C rfl dX6_bound_22 rfl rfl

def f_X6_safe (x : Sy) : Bool := if ((x 1) 10 0) = 0 then (if ((x 0) 6 0) = 0 then true else false) else false
theorem hd_X6_safe : yX6_safe.cls ≠ "java/lang/invoke/MethodHandle" ∧ yX6_safe.cls ≠ "java/lang/invoke/VarHandle" ∧ (parseMethodDescriptor yX6_safe.desc).map (fun d => d.parameters.length) = some 0 := by decide +kernel
set_option maxHeartbeats 4000000 in
set_option maxRecDepth 100000 in
theorem c_X6_safe (l : Launch) (D : va_G) (cI cZ cO : ClassId) (q : Nat → Nat) (x : Sy)  : CTi l D (T3 cI cZ cO) yX6_safe (Cond.code yX6_safe cX6_safe 1 (some .boolean) :: WA) ({ frames := 0, cells := 0, slots := 0, locals := 0 } : Room) [.ref (q 0)] (wLG cI cZ cO q x) (b2i (f_X6_safe x)) (wLG cI cZ cO q x) := by
  refine ct_i (K := fun z => z) (t := f_X6_safe x) (rf := fun o => b2i o) (wf := fun o => wLG cI cZ cO q x) (own := RX6) (nm := "safe") (L0 := [(0, .ref (q 0))]) (plainFor_of_name (by decide +kernel)) rfl rfl (Nat.le_of_ble_eq_true rfl) rfl ?_
  intro p e s m args below meth c A C
  unfold f_X6_safe
  refine x_aload_n C dX6_safe_0 0 rfl ?_
  refine x_get (v := .ref (q 2)) C hwsX60 0 mw_219 0 rfl rfl (by decide) rfl rfl dX6_safe_1 ?_
  refine x_get (v := .int ((x 1) 10 0)) C hwsX20 10 mw_300 2 rfl rfl (by decide) rfl rfl dX6_safe_4 ?_
  refine x_if_ne C 21 dX6_safe_7 (by decide) (fun c1 => ?_) (fun c1 => ?_)
  · refine x_aload_n C dX6_safe_10 0 rfl ?_
    refine x_get (v := .int ((x 0) 6 0)) C hwsX60 6 mw_231 0 rfl rfl (by decide) rfl rfl dX6_safe_11 ?_
    refine x_if_ne C 21 dX6_safe_14 (by decide) (fun c2 => ?_) (fun c2 => ?_)
    · refine x_iconst C 1 dX6_safe_17 (by decide) ?_
      refine x_goto C 22 dX6_safe_18 (by decide) ?_
      exact x_zret C rfl (by decide) dX6_safe_22 rfl rfl
    · refine x_iconst C 0 dX6_safe_21 (by decide) ?_
      exact x_zret C rfl (by decide) dX6_safe_22 rfl rfl
  · refine x_iconst C 0 dX6_safe_21 (by decide) ?_
    exact x_zret C rfl (by decide) dX6_safe_22 rfl rfl
