def f_X7_lengthOf (xv : Int32) : Int32 := if xv < 5 then 15 else (if 40 < xv then 15 else xv)
theorem hd_X7_lengthOf : yX7_lengthOf.cls ≠ "java/lang/invoke/MethodHandle" ∧ yX7_lengthOf.cls ≠ "java/lang/invoke/VarHandle" ∧ (parseMethodDescriptor yX7_lengthOf.desc).map (fun d => d.parameters.length) = some 1 := by decide +kernel
set_option maxHeartbeats 4000000 in
set_option maxRecDepth 100000 in
theorem c_X7_lengthOf (l : Launch) (D : va_G) (cI cZ cO : ClassId)  (xv : Int32)  : CTi l D (T3 cI cZ cO) yX7_lengthOf (Cond.code yX7_lengthOf cX7_lengthOf 1 (some .int) :: WA) ({ frames := 0, cells := 0, slots := 0, locals := 0 } : Room) [.int xv] ([]) ((f_X7_lengthOf xv)) ([]) := by
  refine ct_i (K := fun z => z) (t := f_X7_lengthOf xv) (rf := fun o => o) (wf := fun o => []) (own := RX7) (nm := "lengthOf") (L0 := [(0, .int xv)]) (plainFor_of_name (by decide +kernel)) rfl rfl (Nat.le_of_ble_eq_true rfl) rfl ?_
  intro p e s m args below meth c A C
  unfold f_X7_lengthOf
  refine x_iload_n C dX7_lengthOf_0 0 rfl ?_
  refine x_iconst C 5 dX7_lengthOf_1 (by decide) ?_
  refine x_icmp_lt C 11 dX7_lengthOf_2 (by decide) (fun c1 => ?_) (fun c1 => ?_)
  · refine x_bipush C 15 dX7_lengthOf_11 (by decide) ?_
    refine x_goto C 17 dX7_lengthOf_13 (by decide) ?_
    exact x_iret C rfl dX7_lengthOf_17 rfl rfl
  · refine x_iload_n C dX7_lengthOf_5 0 rfl ?_
    refine x_bipush C 40 dX7_lengthOf_6 (by decide) ?_
    refine x_icmp_le C 16 dX7_lengthOf_8 (by decide) (fun c2 => ?_) (fun c2 => ?_)
    · refine x_bipush C 15 dX7_lengthOf_11 (by decide) ?_
      refine x_goto C 17 dX7_lengthOf_13 (by decide) ?_
      exact x_iret C rfl dX7_lengthOf_17 rfl rfl
    · refine x_iload_n C dX7_lengthOf_16 0 rfl ?_
      exact x_iret C rfl dX7_lengthOf_17 rfl rfl
def f_X7_in (xv : Int32) (xl : Int32) (xh : Int32) : Bool := if xv < xl then false else (if xh < xv then false else true)
theorem hd_X7_in : yX7_in.cls ≠ "java/lang/invoke/MethodHandle" ∧ yX7_in.cls ≠ "java/lang/invoke/VarHandle" ∧ (parseMethodDescriptor yX7_in.desc).map (fun d => d.parameters.length) = some 3 := by decide +kernel
set_option maxHeartbeats 4000000 in
set_option maxRecDepth 100000 in
theorem c_X7_in (l : Launch) (D : va_G) (cI cZ cO : ClassId)  (xv : Int32) (xl : Int32) (xh : Int32)  : CTi l D (T3 cI cZ cO) yX7_in (Cond.code yX7_in cX7_in 3 (some .boolean) :: WA) ({ frames := 0, cells := 0, slots := 0, locals := 0 } : Room) [.int xv, .int xl, .int xh] ([]) (b2i (f_X7_in xv xl xh)) ([]) := by
  refine ct_i (K := fun z => z) (t := f_X7_in xv xl xh) (rf := fun o => b2i o) (wf := fun o => []) (own := RX7) (nm := "in") (L0 := [(0, .int xv), (1, .int xl), (2, .int xh)]) (plainFor_of_name (by decide +kernel)) rfl rfl (Nat.le_of_ble_eq_true rfl) rfl ?_
  intro p e s m args below meth c A C
  unfold f_X7_in
  refine x_iload_n C dX7_in_0 0 rfl ?_
  refine x_iload_n C dX7_in_1 1 rfl ?_
  refine x_icmp_lt C 14 dX7_in_2 (by decide) (fun c1 => ?_) (fun c1 => ?_)
  · refine x_iconst C 0 dX7_in_14 (by decide) ?_
    exact x_zret C rfl (by decide) dX7_in_15 rfl rfl
  · refine x_iload_n C dX7_in_5 0 rfl ?_
    refine x_iload_n C dX7_in_6 2 rfl ?_
    refine x_icmp_gt C 14 dX7_in_7 (by decide) (fun c2 => ?_) (fun c2 => ?_)
    · refine x_iconst C 0 dX7_in_14 (by decide) ?_
      exact x_zret C rfl (by decide) dX7_in_15 rfl rfl
    · refine x_iconst C 1 dX7_in_10 (by decide) ?_
      refine x_goto C 15 dX7_in_11 (by decide) ?_
      exact x_zret C rfl (by decide) dX7_in_15 rfl rfl
theorem in_cases {x lo hi : Int32} (h : f_X7_in x lo hi = true) : ¬ x < lo ∧ ¬ hi < x := by
  unfold f_X7_in at h
  by_cases h0 : x < lo
  · rw [if_pos h0] at h; cases h
  · rw [if_neg h0] at h
    by_cases h1 : hi < x
    · rw [if_pos h1] at h; cases h
    · exact ⟨h0, h1⟩
theorem in_nat {x g : Int32} (n : Nat) (hn : n < 2 ^ 31) (hg : g = nI n) (h : f_X7_in x 0 g = true) : x = nI (ixn x) ∧ ixn x ≤ n := ix_of hn hg (in_cases h).1 (in_cases h).2
theorem in_run {x : Int32} (h : f_X7_in x 1 1000 = true) : x = nI (ixn x) ∧ ixn x ≤ 1000 ∧ ixn x < 2 ^ 31 := run_nat (in_cases h).1 (in_cases h).2
theorem in_lt {x g M : Int32} (n : Nat) (hn : n < 2 ^ 31) (h : f_X7_in x 0 g = true) (h1 : x < M) (hM : M = nI n := by rfl) : x = nI (ixn x) ∧ ixn x < n := lt_nat n hn (in_cases h).1 h1 hM
theorem rem64 {x : Int32} (h : ¬ x < 0) : x - x / 64 * 64 = nI (ixn (x - x / 64 * 64)) ∧ ixn (x - x / 64 * 64) < 64 := by
  obtain ⟨j, hj, e⟩ := nI_of h
  have e2 : x - x / 64 * 64 = nI (j % 64) := by rw [e]; exact pk_rem (d := 64) hj (by decide) (by decide)
  have e3 : ixn (x - x / 64 * 64) = j % 64 := by rw [e2]; exact nI_clamp (by omega)
  rw [e3]
  exact ⟨e2, Nat.mod_lt _ (by decide)⟩
/-- the log's counter: there is room for n rows more -/
def LB (n : Nat) (u : St) : Prop := 0 ≤ (u 29 0).toInt ∧ (u 29 0).toInt + n < 2 ^ 31
theorem LB_lo {n m : Nat} {u : St} (h : LB n u) (hm : m ≤ n) : LB m u := ⟨h.1, by have := h.2; omega⟩
theorem LB_nn {n : Nat} {u : St} (h : LB n u) : ¬ (u 29 0) < 0 := fun z => by
  have h1 := Int32.lt_iff_toInt_lt.mp z
  have h2 := h.1
  have h3 : (0 : Int32).toInt = 0 := by decide
  omega
theorem LB_fr {n : Nat} {u v : St} (h : LB n u) (e : v 29 = u 29) : LB n v := by unfold LB; rw [e]; exact h
theorem LB_put {n k i : Nat} {x : Int32} {u : St} (hk : ¬ 29 = k) (h : LB n u) : LB n (put u k i x) := LB_fr h (put_n u i x hk)
theorem LB_up {α : Type} {I : α → Prop} {f : Nat → α → α} (hf : ∀ k a, I a → I (f k a)) : ∀ (n k : Nat) (a : α), I a → I (up f k n a)
  | 0, _, _, h => h
  | n + 1, k, a, h => LB_up hf n (k + 1) (f k a) (hf k a h)
theorem it_ap {c : Prop} [Decidable c] (f g : St) (a : Nat) : (if c then f else g) a = if c then f a else g a := by split <;> rfl
def f_X7_sensor_k214 (b2 : Bool) : Int32 := if b2 = true then 1 else 0
def f_X7_sensor_k64 (b6 : Bool) : Bool := b6
def f_X7_sensor_k90 (b14 : Bool) : Bool := b14
def f_X7_sensor_k126 (b18 : Bool) : Bool := b18
def f_X7_sensor_k162 (b22 : Bool) : Bool := b22
def f_X7_sensor_k189 (b26 : Bool) : Bool := b26
def f_X7_sensor_k213 (b29 : Bool) : Bool := b29
def f_X7_sensor (u : St) (xk : Nat) : Int32 := f_X7_sensor_k214 (if xk < 3 then (f_X7_sensor_k64 (if (nI xk) = 0 then (if (u 1 0) = 1 then true else false) else (if xk = 1 then (if (u 2 0) = 24 then true else false) else (if (u 10 0) = 360 then true else false)))) else (if xk < 6 then (f_X7_sensor_k90 (if (u 13 (xk - 3)) = 0 then true else false)) else (if xk < 9 then (f_X7_sensor_k126 (if (u 13 (xk - 6)) = (u 12 (xk - 6)) then true else false)) else (if xk < 12 then (f_X7_sensor_k162 (if (u 13 (xk - 6)) = (u 12 (xk - 6)) then true else false)) else (if xk < 15 then (f_X7_sensor_k189 (if (u 13 (xk - 9)) = 0 then true else false)) else (f_X7_sensor_k213 (if (((u 5 0) >>> ((nI (xk - 15)) &&& 31)) &&& 1) = 1 then true else false)))))))
theorem hd_X7_sensor : yX7_sensor.cls ≠ "java/lang/invoke/MethodHandle" ∧ yX7_sensor.cls ≠ "java/lang/invoke/VarHandle" ∧ (parseMethodDescriptor yX7_sensor.desc).map (fun d => d.parameters.length) = some 1 := by decide +kernel
set_option maxHeartbeats 4000000 in
set_option maxRecDepth 100000 in
theorem c_X7_sensor (l : Launch) (D : va_G) (cI cZ cO : ClassId) (q : Nat → Nat) (u : St) (xk : Nat) (hy0 : xk < 18) : CTi l D (T3 cI cZ cO) yX7_sensor (Cond.code yX7_sensor cX7_sensor 3 (some .int) :: WA) ({ frames := 0, cells := 0, slots := 0, locals := 0 } : Room) [.ref (q 0), .int (nI xk)] (wX7 cI cZ cO q u) ((f_X7_sensor u xk)) (wX7 cI cZ cO q u) := by
  refine ct_i (K := fun z => z) (t := f_X7_sensor u xk) (rf := fun o => o) (wf := fun o => wX7 cI cZ cO q u) (own := RX7) (nm := "sensor") (L0 := [(0, .ref (q 0)), (1, .int (nI xk))]) (plainFor_of_name (by decide +kernel)) rfl rfl (Nat.le_of_ble_eq_true rfl) rfl ?_
  intro p e s m args below meth c A C
  unfold f_X7_sensor
  refine x_iload_n C dX7_sensor_0 1 rfl ?_
  refine x_iconst C 3 dX7_sensor_1 (by decide) ?_
  refine x_join (fun (b2 : Bool) => f_X7_sensor_k214 b2) 214 (fun (b2 : Bool) => [(0, .ref (q 0)), (1, .int (nI xk)), (2, .int (b2i b2))]) (fun (b2 : Bool) => []) (fun (b2 : Bool) => wX7 cI cZ cO q u) (fun b2 => ?_) _ (fun J4 => ?_)
  · unfold f_X7_sensor_k214
    refine x_iload_n C dX7_sensor_214 2 rfl ?_
    refine x_if_eqZ C 222 dX7_sensor_215 (by decide) (fun c3 => ?_) (fun c3 => ?_)
    · refine x_iconst C 1 dX7_sensor_218 (by decide) ?_
      refine x_goto C 223 dX7_sensor_219 (by decide) ?_
      exact x_iret C rfl dX7_sensor_223 rfl rfl
    · refine x_iconst C 0 dX7_sensor_222 (by decide) ?_
      exact x_iret C rfl dX7_sensor_223 rfl rfl
  · refine x_icmp_geN C xk 3 68 dX7_sensor_2 (by decide) rfl rfl (by omega) (by omega) (fun c1 => ?_) (fun c1 => ?_)
    · refine x_iload_n C dX7_sensor_5 1 rfl ?_
      refine x_join (fun (b6 : Bool) => f_X7_sensor_k64 b6) 64 (fun (b6 : Bool) => [(0, .ref (q 0)), (1, .int (nI xk))]) (fun (b6 : Bool) => [.int (b2i b6)]) (fun (b6 : Bool) => wX7 cI cZ cO q u) (fun b6 => ?_) _ (fun J7 => ?_)
      · unfold f_X7_sensor_k64
        refine x_istore_n (L' := [(2, .int (b2i b6)), (0, .ref (q 0)), (1, .int (nI xk))]) C dX7_sensor_64 (by decide) rfl ?_
        refine x_goto C 214 dX7_sensor_65 (by decide) ?_
        refine x_lsub (L' := [(0, .ref (q 0)), (1, .int (nI xk)), (2, .int (b2i b6))]) [1, 2, 0] rfl ?_
        exact J4 b6
      · refine x_if_ne C 25 dX7_sensor_6 (by decide) (fun c5 => ?_) (fun c5 => ?_)
        · refine x_aload_n C dX7_sensor_9 0 rfl ?_
          refine x_get (v := .int (u 1 0)) C hwsX70 1 mw_326 0 rfl rfl (by decide) rfl rfl dX7_sensor_10 ?_
          refine x_iconst C 1 dX7_sensor_13 (by decide) ?_
          refine x_icmp_ne C 21 dX7_sensor_14 (by decide) (fun c8 => ?_) (fun c8 => ?_)
          · refine x_iconst C 1 dX7_sensor_17 (by decide) ?_
            refine x_goto C 64 dX7_sensor_18 (by decide) ?_
            exact J7 true
          · refine x_iconst C 0 dX7_sensor_21 (by decide) ?_
            refine x_goto C 64 dX7_sensor_22 (by decide) ?_
            exact J7 false
        · refine x_iload_n C dX7_sensor_25 1 rfl ?_
          refine x_iconst C 1 dX7_sensor_26 (by decide) ?_
          refine x_icmp_neN C xk 1 47 dX7_sensor_27 (by decide) rfl rfl (by omega) (by omega) (fun c9 => ?_) (fun c9 => ?_)
          · refine x_aload_n C dX7_sensor_30 0 rfl ?_
            refine x_get (v := .int (u 2 0)) C hwsX70 2 mw_327 0 rfl rfl (by decide) rfl rfl dX7_sensor_31 ?_
            refine x_bipush C 24 dX7_sensor_34 (by decide) ?_
            refine x_icmp_ne C 43 dX7_sensor_36 (by decide) (fun c10 => ?_) (fun c10 => ?_)
            · refine x_iconst C 1 dX7_sensor_39 (by decide) ?_
              refine x_goto C 64 dX7_sensor_40 (by decide) ?_
              exact J7 true
            · refine x_iconst C 0 dX7_sensor_43 (by decide) ?_
              refine x_goto C 64 dX7_sensor_44 (by decide) ?_
              exact J7 false
          · refine x_aload_n C dX7_sensor_47 0 rfl ?_
            refine x_get (v := .ref (q 1)) C hwsX70 10 mw_328 0 rfl rfl (by decide) rfl rfl dX7_sensor_48 ?_
            refine x_iconst C 0 dX7_sensor_51 (by decide) ?_
            refine x_iald C 1 0 rfl rfl 0 rfl (by omega) (by decide) (u 10 0) rfl dX7_sensor_52 ?_
            refine x_sipush C 360 dX7_sensor_53 (by decide) ?_
            refine x_icmp_ne C 63 dX7_sensor_56 (by decide) (fun c11 => ?_) (fun c11 => ?_)
            · refine x_iconst C 1 dX7_sensor_59 (by decide) ?_
              refine x_goto C 64 dX7_sensor_60 (by decide) ?_
              exact J7 true
            · refine x_iconst C 0 dX7_sensor_63 (by decide) ?_
              exact J7 false
    · refine x_iload_n C dX7_sensor_68 1 rfl ?_
      refine x_bipush C 6 dX7_sensor_69 (by decide) ?_
      refine x_icmp_geN C xk 6 94 dX7_sensor_71 (by decide) rfl rfl (by omega) (by omega) (fun c12 => ?_) (fun c12 => ?_)
      · refine x_aload_n C dX7_sensor_74 0 rfl ?_
        refine x_get (v := .ref (q 4)) C hwsX70 13 mw_329 0 rfl rfl (by decide) rfl rfl dX7_sensor_75 ?_
        refine x_iload_n C dX7_sensor_78 1 rfl ?_
        refine x_iconst C 3 dX7_sensor_79 (by decide) ?_
        refine x_isub C dX7_sensor_80 ?_
        refine x_top (nI (xk - 3)) (pk_sub (a := xk) (b := 3) (by omega)) ?_
        refine x_iald C 4 0 rfl rfl (xk - 3) rfl (by omega) (by decide) (u 13 (xk - 3)) rfl dX7_sensor_81 ?_
        refine x_join (fun (b14 : Bool) => f_X7_sensor_k90 b14) 90 (fun (b14 : Bool) => [(0, .ref (q 0)), (1, .int (nI xk))]) (fun (b14 : Bool) => [.int (b2i b14)]) (fun (b14 : Bool) => wX7 cI cZ cO q u) (fun b14 => ?_) _ (fun J15 => ?_)
        · unfold f_X7_sensor_k90
          refine x_istore_n (L' := [(2, .int (b2i b14)), (0, .ref (q 0)), (1, .int (nI xk))]) C dX7_sensor_90 (by decide) rfl ?_
          refine x_goto C 214 dX7_sensor_91 (by decide) ?_
          refine x_lsub (L' := [(0, .ref (q 0)), (1, .int (nI xk)), (2, .int (b2i b14))]) [1, 2, 0] rfl ?_
          exact J4 b14
        · refine x_if_ne C 89 dX7_sensor_82 (by decide) (fun c13 => ?_) (fun c13 => ?_)
          · refine x_iconst C 1 dX7_sensor_85 (by decide) ?_
            refine x_goto C 90 dX7_sensor_86 (by decide) ?_
            exact J15 true
          · refine x_iconst C 0 dX7_sensor_89 (by decide) ?_
            exact J15 false
      · refine x_iload_n C dX7_sensor_94 1 rfl ?_
        refine x_bipush C 9 dX7_sensor_95 (by decide) ?_
        refine x_icmp_geN C xk 9 130 dX7_sensor_97 (by decide) rfl rfl (by omega) (by omega) (fun c16 => ?_) (fun c16 => ?_)
        · refine x_aload_n C dX7_sensor_100 0 rfl ?_
          refine x_get (v := .ref (q 4)) C hwsX70 13 mw_329 0 rfl rfl (by decide) rfl rfl dX7_sensor_101 ?_
          refine x_iload_n C dX7_sensor_104 1 rfl ?_
          refine x_bipush C 6 dX7_sensor_105 (by decide) ?_
          refine x_isub C dX7_sensor_107 ?_
          refine x_top (nI (xk - 6)) (pk_sub (a := xk) (b := 6) (by omega)) ?_
          refine x_iald C 4 0 rfl rfl (xk - 6) rfl (by omega) (by decide) (u 13 (xk - 6)) rfl dX7_sensor_108 ?_
          refine x_aload_n C dX7_sensor_109 0 rfl ?_
          refine x_get (v := .ref (q 3)) C hwsX70 12 mw_330 0 rfl rfl (by decide) rfl rfl dX7_sensor_110 ?_
          refine x_iload_n C dX7_sensor_113 1 rfl ?_
          refine x_bipush C 6 dX7_sensor_114 (by decide) ?_
          refine x_isub C dX7_sensor_116 ?_
          refine x_top (nI (xk - 6)) (pk_sub (a := xk) (b := 6) (by omega)) ?_
          refine x_iald C 3 0 rfl rfl (xk - 6) rfl (by omega) (by decide) (u 12 (xk - 6)) rfl dX7_sensor_117 ?_
          refine x_join (fun (b18 : Bool) => f_X7_sensor_k126 b18) 126 (fun (b18 : Bool) => [(0, .ref (q 0)), (1, .int (nI xk))]) (fun (b18 : Bool) => [.int (b2i b18)]) (fun (b18 : Bool) => wX7 cI cZ cO q u) (fun b18 => ?_) _ (fun J19 => ?_)
          · unfold f_X7_sensor_k126
            refine x_istore_n (L' := [(2, .int (b2i b18)), (0, .ref (q 0)), (1, .int (nI xk))]) C dX7_sensor_126 (by decide) rfl ?_
            refine x_goto C 214 dX7_sensor_127 (by decide) ?_
            refine x_lsub (L' := [(0, .ref (q 0)), (1, .int (nI xk)), (2, .int (b2i b18))]) [1, 2, 0] rfl ?_
            exact J4 b18
          · refine x_icmp_ne C 125 dX7_sensor_118 (by decide) (fun c17 => ?_) (fun c17 => ?_)
            · refine x_iconst C 1 dX7_sensor_121 (by decide) ?_
              refine x_goto C 126 dX7_sensor_122 (by decide) ?_
              exact J19 true
            · refine x_iconst C 0 dX7_sensor_125 (by decide) ?_
              exact J19 false
        · refine x_iload_n C dX7_sensor_130 1 rfl ?_
          refine x_bipush C 12 dX7_sensor_131 (by decide) ?_
          refine x_icmp_geN C xk 12 166 dX7_sensor_133 (by decide) rfl rfl (by omega) (by omega) (fun c20 => ?_) (fun c20 => ?_)
          · refine x_aload_n C dX7_sensor_136 0 rfl ?_
            refine x_get (v := .ref (q 4)) C hwsX70 13 mw_329 0 rfl rfl (by decide) rfl rfl dX7_sensor_137 ?_
            refine x_iload_n C dX7_sensor_140 1 rfl ?_
            refine x_bipush C 6 dX7_sensor_141 (by decide) ?_
            refine x_isub C dX7_sensor_143 ?_
            refine x_top (nI (xk - 6)) (pk_sub (a := xk) (b := 6) (by omega)) ?_
            refine x_iald C 4 0 rfl rfl (xk - 6) rfl (by omega) (by decide) (u 13 (xk - 6)) rfl dX7_sensor_144 ?_
            refine x_aload_n C dX7_sensor_145 0 rfl ?_
            refine x_get (v := .ref (q 3)) C hwsX70 12 mw_330 0 rfl rfl (by decide) rfl rfl dX7_sensor_146 ?_
            refine x_iload_n C dX7_sensor_149 1 rfl ?_
            refine x_bipush C 6 dX7_sensor_150 (by decide) ?_
            refine x_isub C dX7_sensor_152 ?_
            refine x_top (nI (xk - 6)) (pk_sub (a := xk) (b := 6) (by omega)) ?_
            refine x_iald C 3 0 rfl rfl (xk - 6) rfl (by omega) (by decide) (u 12 (xk - 6)) rfl dX7_sensor_153 ?_
            refine x_join (fun (b22 : Bool) => f_X7_sensor_k162 b22) 162 (fun (b22 : Bool) => [(0, .ref (q 0)), (1, .int (nI xk))]) (fun (b22 : Bool) => [.int (b2i b22)]) (fun (b22 : Bool) => wX7 cI cZ cO q u) (fun b22 => ?_) _ (fun J23 => ?_)
            · unfold f_X7_sensor_k162
              refine x_istore_n (L' := [(2, .int (b2i b22)), (0, .ref (q 0)), (1, .int (nI xk))]) C dX7_sensor_162 (by decide) rfl ?_
              refine x_goto C 214 dX7_sensor_163 (by decide) ?_
              refine x_lsub (L' := [(0, .ref (q 0)), (1, .int (nI xk)), (2, .int (b2i b22))]) [1, 2, 0] rfl ?_
              exact J4 b22
            · refine x_icmp_ne C 161 dX7_sensor_154 (by decide) (fun c21 => ?_) (fun c21 => ?_)
              · refine x_iconst C 1 dX7_sensor_157 (by decide) ?_
                refine x_goto C 162 dX7_sensor_158 (by decide) ?_
                exact J23 true
              · refine x_iconst C 0 dX7_sensor_161 (by decide) ?_
                exact J23 false
          · refine x_iload_n C dX7_sensor_166 1 rfl ?_
            refine x_bipush C 15 dX7_sensor_167 (by decide) ?_
            refine x_icmp_geN C xk 15 193 dX7_sensor_169 (by decide) rfl rfl (by omega) (by omega) (fun c24 => ?_) (fun c24 => ?_)
            · refine x_aload_n C dX7_sensor_172 0 rfl ?_
              refine x_get (v := .ref (q 4)) C hwsX70 13 mw_329 0 rfl rfl (by decide) rfl rfl dX7_sensor_173 ?_
              refine x_iload_n C dX7_sensor_176 1 rfl ?_
              refine x_bipush C 9 dX7_sensor_177 (by decide) ?_
              refine x_isub C dX7_sensor_179 ?_
              refine x_top (nI (xk - 9)) (pk_sub (a := xk) (b := 9) (by omega)) ?_
              refine x_iald C 4 0 rfl rfl (xk - 9) rfl (by omega) (by decide) (u 13 (xk - 9)) rfl dX7_sensor_180 ?_
              refine x_join (fun (b26 : Bool) => f_X7_sensor_k189 b26) 189 (fun (b26 : Bool) => [(0, .ref (q 0)), (1, .int (nI xk))]) (fun (b26 : Bool) => [.int (b2i b26)]) (fun (b26 : Bool) => wX7 cI cZ cO q u) (fun b26 => ?_) _ (fun J27 => ?_)
              · unfold f_X7_sensor_k189
                refine x_istore_n (L' := [(2, .int (b2i b26)), (0, .ref (q 0)), (1, .int (nI xk))]) C dX7_sensor_189 (by decide) rfl ?_
                refine x_goto C 214 dX7_sensor_190 (by decide) ?_
                refine x_lsub (L' := [(0, .ref (q 0)), (1, .int (nI xk)), (2, .int (b2i b26))]) [1, 2, 0] rfl ?_
                exact J4 b26
              · refine x_if_ne C 188 dX7_sensor_181 (by decide) (fun c25 => ?_) (fun c25 => ?_)
                · refine x_iconst C 1 dX7_sensor_184 (by decide) ?_
                  refine x_goto C 189 dX7_sensor_185 (by decide) ?_
                  exact J27 true
                · refine x_iconst C 0 dX7_sensor_188 (by decide) ?_
                  exact J27 false
            · refine x_aload_n C dX7_sensor_193 0 rfl ?_
              refine x_get (v := .int (u 5 0)) C hwsX70 5 mw_331 0 rfl rfl (by decide) rfl rfl dX7_sensor_194 ?_
              refine x_iload_n C dX7_sensor_197 1 rfl ?_
              refine x_bipush C 15 dX7_sensor_198 (by decide) ?_
              refine x_isub C dX7_sensor_200 ?_
              refine x_top (nI (xk - 15)) (pk_sub (a := xk) (b := 15) (by omega)) ?_
              refine x_ishr C dX7_sensor_201 ?_
              refine x_iconst C 1 dX7_sensor_202 (by decide) ?_
              refine x_iand C dX7_sensor_203 ?_
              refine x_iconst C 1 dX7_sensor_204 (by decide) ?_
              refine x_join (fun (b29 : Bool) => f_X7_sensor_k213 b29) 213 (fun (b29 : Bool) => [(0, .ref (q 0)), (1, .int (nI xk))]) (fun (b29 : Bool) => [.int (b2i b29)]) (fun (b29 : Bool) => wX7 cI cZ cO q u) (fun b29 => ?_) _ (fun J30 => ?_)
              · unfold f_X7_sensor_k213
                refine x_istore_n (L' := [(2, .int (b2i b29)), (0, .ref (q 0)), (1, .int (nI xk))]) C dX7_sensor_213 (by decide) rfl ?_
                refine x_lsub (L' := [(0, .ref (q 0)), (1, .int (nI xk)), (2, .int (b2i b29))]) [1, 2, 0] rfl ?_
                exact J4 b29
              · refine x_icmp_ne C 212 dX7_sensor_205 (by decide) (fun c28 => ?_) (fun c28 => ?_)
                · refine x_iconst C 1 dX7_sensor_208 (by decide) ?_
                  refine x_goto C 213 dX7_sensor_209 (by decide) ?_
                  exact J30 true
                · refine x_iconst C 0 dX7_sensor_212 (by decide) ?_
                  exact J30 false
def f_X7_feel_x2 (a2 : St) : St := a2
def f_X7_feel_t2 (i1 : Nat) (a2 : St) : St := put a2 28 i1 (f_X7_sensor a2 i1)
def f_X7_feel (u : St) : St := f_X7_feel_x2 (up f_X7_feel_t2 0 18 u)
theorem hd_X7_feel : yX7_feel.cls ≠ "java/lang/invoke/MethodHandle" ∧ yX7_feel.cls ≠ "java/lang/invoke/VarHandle" ∧ (parseMethodDescriptor yX7_feel.desc).map (fun d => d.parameters.length) = some 0 := by decide +kernel
set_option maxHeartbeats 4000000 in
set_option maxRecDepth 100000 in
theorem c_X7_feel (l : Launch) (D : va_G) (cI cZ cO : ClassId) (q : Nat → Nat) (u : St)  : CTv l D (T3 cI cZ cO) yX7_feel (Cond.code yX7_feel cX7_feel 2 none :: WA) ({ frames := 1, cells := 0, slots := 0, locals := 22 } : Room) [.ref (q 0)] (wX7 cI cZ cO q u) (wX7 cI cZ cO q (f_X7_feel u)) := by
  refine ct_v (K := fun z => z) (t := f_X7_feel u) (wf := fun o => wX7 cI cZ cO q o) (own := RX7) (nm := "feel") (L0 := [(0, .ref (q 0))]) (plainFor_of_name (by decide +kernel)) rfl rfl (Nat.le_of_ble_eq_true rfl) rfl ?_
  intro p e s m args below meth c A C
  unfold f_X7_feel
  refine x_iconst C 0 dX7_feel_0 (by decide) ?_
  refine x_istore_n (L' := [(1, .int 0), (0, .ref (q 0))]) C dX7_feel_1 (by decide) rfl ?_
  refine x_lsub (L' := [(0, .ref (q 0)), (1, .int 0)]) [1, 0] rfl ?_
  refine x_loop f_X7_feel_t2 (fun (a2 : St) => f_X7_feel_x2 a2) 18 2 (fun (i1 : Nat) (a2 : St) => [(0, .ref (q 0)), (1, .int (nI i1))]) (fun (i1 : Nat) (a2 : St) => []) (fun (i1 : Nat) (a2 : St) => wX7 cI cZ cO q a2) (fun a2 => ?_) (fun i1 a2 K5 hk3 ih4 => ?_) 18 0 u (by omega)
  · unfold f_X7_feel_x2
    refine x_iload_n C dX7_feel_2 1 rfl ?_
    refine x_bipush C 18 dX7_feel_3 (by decide) ?_
    refine x_icmp_ge_t C 25 dX7_feel_5 (by decide) (by decide) ?_
    exact x_vret C rfl dX7_feel_25 rfl
  · unfold f_X7_feel_t2
    refine x_iload_n C dX7_feel_2 1 rfl ?_
    refine x_bipush C 18 dX7_feel_3 (by decide) ?_
    refine x_icmp_ge_f C 25 dX7_feel_5 (by decide) (nI_lt (b := 18) hk3 (by omega)) ?_
    refine x_aload_n C dX7_feel_8 0 rfl ?_
    refine x_get (v := .ref (q 19)) C hwsX70 28 mw_333 0 rfl rfl (by decide) rfl rfl dX7_feel_9 ?_
    refine x_iload_n C dX7_feel_12 1 rfl ?_
    refine x_aload_n C dX7_feel_13 0 rfl ?_
    refine x_iload_n C dX7_feel_14 1 rfl ?_
    refine x_cViW (q0 := 0) (As := [.int (nI i1)]) C mw_334 mw_335 mw_336 mw_337 mw_325 hd_X7_sensor rfl rfl ⟨Nat.le_of_ble_eq_true rfl, Nat.le_of_ble_eq_true rfl⟩ rfl rfl rfl (c_X7_sensor l D cI cZ cO q a2 i1 (by omega)) rfl rfl (Nat.le_of_ble_eq_true rfl) (Nat.le_of_ble_eq_true rfl) (Nat.le_of_ble_eq_true rfl) dX7_feel_15 ?_
    refine x_iast (ws' := wX7 cI cZ cO q (put a2 28 i1 (f_X7_sensor a2 i1))) C 19 0 rfl rfl i1 rfl (by omega) (by decide) dX7_feel_18 rfl ?_
    refine x_iinc (L' := [(1, .int (nI (i1 + 1))), (0, .ref (q 0))]) C (nI (i1 + 1)) dX7_feel_19 1 rfl (nI_add _ _) (by decide) rfl ?_
    refine x_goto C 2 dX7_feel_22 (by decide) ?_
    refine x_lsub (L' := [(0, .ref (q 0)), (1, .int (nI (i1 + 1)))]) [1, 0] rfl ?_
    exact ih4 (put a2 28 i1 (f_X7_sensor a2 i1))
def f_X7_tell (u : St) (xk : Nat) (xc : Nat) : Int32 := if (u 15 ((3 * xk) + xc)) = 0 then (u 28 xk) else (if (u 15 ((3 * xk) + xc)) = 1 then 0 else (if (u 15 ((3 * xk) + xc)) = 2 then 1 else (1 - (u 28 xk))))
theorem hd_X7_tell : yX7_tell.cls ≠ "java/lang/invoke/MethodHandle" ∧ yX7_tell.cls ≠ "java/lang/invoke/VarHandle" ∧ (parseMethodDescriptor yX7_tell.desc).map (fun d => d.parameters.length) = some 2 := by decide +kernel
set_option maxHeartbeats 4000000 in
set_option maxRecDepth 100000 in
theorem c_X7_tell (l : Launch) (D : va_G) (cI cZ cO : ClassId) (q : Nat → Nat) (u : St) (xk : Nat) (xc : Nat) (hy0 : xk < 18) (hy1 : xc < 3) : CTi l D (T3 cI cZ cO) yX7_tell (Cond.code yX7_tell cX7_tell 4 (some .int) :: WA) ({ frames := 0, cells := 0, slots := 0, locals := 0 } : Room) [.ref (q 0), .int (nI xk), .int (nI xc)] (wX7 cI cZ cO q u) ((f_X7_tell u xk xc)) (wX7 cI cZ cO q u) := by
  refine ct_i (K := fun z => z) (t := f_X7_tell u xk xc) (rf := fun o => o) (wf := fun o => wX7 cI cZ cO q u) (own := RX7) (nm := "tell") (L0 := [(0, .ref (q 0)), (1, .int (nI xk)), (2, .int (nI xc))]) (plainFor_of_name (by decide +kernel)) rfl rfl (Nat.le_of_ble_eq_true rfl) rfl ?_
  intro p e s m args below meth c A C
  unfold f_X7_tell
  refine x_aload_n C dX7_tell_0 0 rfl ?_
  refine x_get (v := .ref (q 6)) C hwsX70 15 mw_342 0 rfl rfl (by decide) rfl rfl dX7_tell_1 ?_
  refine x_iconst C 3 dX7_tell_4 (by decide) ?_
  refine x_iload_n C dX7_tell_5 1 rfl ?_
  refine x_imul C dX7_tell_6 ?_
  refine x_top (nI (3 * xk)) (pk_mul _ _) ?_
  refine x_iload_n C dX7_tell_7 2 rfl ?_
  refine x_iadd C dX7_tell_8 ?_
  refine x_top (nI ((3 * xk) + xc)) (nI_add _ _) ?_
  refine x_iald C 6 0 rfl rfl ((3 * xk) + xc) rfl (by omega) (by decide) (u 15 ((3 * xk) + xc)) rfl dX7_tell_9 ?_
  refine x_istore_n (L' := [(3, .int (u 15 ((3 * xk) + xc))), (0, .ref (q 0)), (1, .int (nI xk)), (2, .int (nI xc))]) C dX7_tell_10 (by decide) rfl ?_
  refine x_iload_n C dX7_tell_11 0 rfl ?_
  refine x_if_ne C 24 dX7_tell_12 (by decide) (fun c1 => ?_) (fun c1 => ?_)
  · refine x_aload_n C dX7_tell_15 1 rfl ?_
    refine x_get (v := .ref (q 19)) C hwsX70 28 mw_333 0 rfl rfl (by decide) rfl rfl dX7_tell_16 ?_
    refine x_iload_n C dX7_tell_19 2 rfl ?_
    refine x_iald C 19 0 rfl rfl xk rfl (by omega) (by decide) (u 28 xk) rfl dX7_tell_20 ?_
    refine x_goto C 50 dX7_tell_21 (by decide) ?_
    exact x_iret C rfl dX7_tell_50 rfl rfl
  · refine x_iload_n C dX7_tell_24 0 rfl ?_
    refine x_iconst C 1 dX7_tell_25 (by decide) ?_
    refine x_icmp_ne C 33 dX7_tell_26 (by decide) (fun c2 => ?_) (fun c2 => ?_)
    · refine x_iconst C 0 dX7_tell_29 (by decide) ?_
      refine x_goto C 50 dX7_tell_30 (by decide) ?_
      exact x_iret C rfl dX7_tell_50 rfl rfl
    · refine x_iload_n C dX7_tell_33 0 rfl ?_
      refine x_iconst C 2 dX7_tell_34 (by decide) ?_
      refine x_icmp_ne C 42 dX7_tell_35 (by decide) (fun c3 => ?_) (fun c3 => ?_)
      · refine x_iconst C 1 dX7_tell_38 (by decide) ?_
        refine x_goto C 50 dX7_tell_39 (by decide) ?_
        exact x_iret C rfl dX7_tell_50 rfl rfl
      · refine x_iconst C 1 dX7_tell_42 (by decide) ?_
        refine x_aload_n C dX7_tell_43 1 rfl ?_
        refine x_get (v := .ref (q 19)) C hwsX70 28 mw_333 0 rfl rfl (by decide) rfl rfl dX7_tell_44 ?_
        refine x_iload_n C dX7_tell_47 2 rfl ?_
        refine x_iald C 19 0 rfl rfl xk rfl (by omega) (by decide) (u 28 xk) rfl dX7_tell_48 ?_
        refine x_isub C dX7_tell_49 ?_
        exact x_iret C rfl dX7_tell_50 rfl rfl
def f_X7_vote_k137 (u : St) (xm : Nat) (xk : Nat) (b10 : Bool) (b12 : Int32) (b14 : Int32) : St := put (put (put u 27 ((18 * xm) + xk) (b2i b10)) 26 ((18 * xm) + xk) b12) 25 ((18 * xm) + xk) b14
def f_X7_vote_k112 (u : St) (xm : Nat) (xk : Nat) (b7 : Int32 × Int32) (b10 : Bool) (b12 : Int32) : St := f_X7_vote_k137 u xm xk b10 b12 (if b7.1 = 1 then (u 25 ((18 * xm) + xk)) else (b7.1 / 2))
def f_X7_vote_k90 (u : St) (xm : Nat) (xk : Nat) (b7 : Int32 × Int32) (b10 : Bool) : St := f_X7_vote_k112 u xm xk b7 b10 (if b7.1 = 1 then 0 else (u 26 ((18 * xm) + xk)))
def f_X7_vote_k209 (u : St) (xm : Nat) (xk : Nat) (b19 : Bool) (b22 : Int32) (b25 : Int32) (b28 : Int32) : St := put (put (put (put u 25 ((18 * xm) + xk) (b2i b19)) 26 ((18 * xm) + xk) ((u 26 ((18 * xm) + xk)) &&& b22)) 26 ((18 * xm) + xk) (((u 26 ((18 * xm) + xk)) &&& b22) &&& b25)) 26 ((18 * xm) + xk) ((((u 26 ((18 * xm) + xk)) &&& b22) &&& b25) &&& b28)
def f_X7_vote_k209_2 (u : St) (xm : Nat) (xk : Nat) (b7 : Int32 × Int32) (b19 : Bool) (b22 : Int32) (b25 : Int32) : St := if (f_X7_in b7.1 1 2) = true then (f_X7_vote_k209 u xm xk b19 b22 b25 (if (f_X7_tell (put (put (put u 25 ((18 * xm) + xk) (b2i b19)) 26 ((18 * xm) + xk) ((u 26 ((18 * xm) + xk)) &&& b22)) 26 ((18 * xm) + xk) (((u 26 ((18 * xm) + xk)) &&& b22) &&& b25)) xk 2) = (b2i b19) then 7 else (-5))) else (put (put (put u 25 ((18 * xm) + xk) (b2i b19)) 26 ((18 * xm) + xk) ((u 26 ((18 * xm) + xk)) &&& b22)) 26 ((18 * xm) + xk) (((u 26 ((18 * xm) + xk)) &&& b22) &&& b25))
def f_X7_vote_k209_3 (u : St) (xm : Nat) (xk : Nat) (b7 : Int32 × Int32) (b19 : Bool) (b22 : Int32) : St := if (f_X7_in b7.1 1 2) = true then (f_X7_vote_k209_2 u xm xk b7 b19 b22 (if (f_X7_tell (put (put u 25 ((18 * xm) + xk) (b2i b19)) 26 ((18 * xm) + xk) ((u 26 ((18 * xm) + xk)) &&& b22)) xk 1) = (b2i b19) then 7 else (-3))) else (put (put u 25 ((18 * xm) + xk) (b2i b19)) 26 ((18 * xm) + xk) ((u 26 ((18 * xm) + xk)) &&& b22))
def f_X7_vote_k155 (u : St) (xm : Nat) (xk : Nat) (b7 : Int32 × Int32) (b19 : Bool) : St := if (f_X7_in b7.1 1 2) = true then (f_X7_vote_k209_3 u xm xk b7 b19 (if (f_X7_tell (put u 25 ((18 * xm) + xk) (b2i b19)) xk 0) = (b2i b19) then 7 else (-2))) else (put u 25 ((18 * xm) + xk) (b2i b19))
def f_X7_vote_k62 (u : St) (xm : Nat) (xk : Nat) (b7 : Int32 × Int32) : St := if b7.2 = 2 then (f_X7_vote_k90 u xm xk b7 (if b7.1 = 1 then true else false)) else (f_X7_vote_k155 u xm xk b7 (if 1 < b7.1 then true else false))
def f_X7_vote_k62_2 (u : St) (xm : Nat) (xk : Nat) (b5 : Int32 × Int32) : St := f_X7_vote_k62 u xm xk (if (((u 26 ((18 * xm) + xk)) >>> (2 &&& 31)) &&& 1) = 1 then (b5.1 + (f_X7_tell u xk 2), b5.2 + 1) else (b5.1, b5.2))
def f_X7_vote_k62_3 (u : St) (xm : Nat) (xk : Nat) (b3 : Int32 × Bool) : St := f_X7_vote_k62_2 u xm xk (if (((u 26 ((18 * xm) + xk)) >>> (1 &&& 31)) &&& 1) = 1 then (b3.1 + (f_X7_tell u xk 1), (b2i b3.2) + 1) else (b3.1, b2i b3.2))
def f_X7_vote (u : St) (xm : Nat) (xk : Nat) : St := if (u 27 ((18 * xm) + xk)) = 0 then (f_X7_vote_k62_3 u xm xk (if (((u 26 ((18 * xm) + xk)) >>> (0 &&& 31)) &&& 1) = 1 then (0 + (f_X7_tell u xk 0), true) else (0, false))) else u
theorem hd_X7_vote : yX7_vote.cls ≠ "java/lang/invoke/MethodHandle" ∧ yX7_vote.cls ≠ "java/lang/invoke/VarHandle" ∧ (parseMethodDescriptor yX7_vote.desc).map (fun d => d.parameters.length) = some 2 := by decide +kernel
set_option maxHeartbeats 4000000 in
set_option maxRecDepth 100000 in
theorem c_X7_vote (l : Launch) (D : va_G) (cI cZ cO : ClassId) (q : Nat → Nat) (u : St) (xm : Nat) (xk : Nat) (hy0 : xm < 2) (hy1 : xk < 18) : CTv l D (T3 cI cZ cO) yX7_vote (Cond.code yX7_vote cX7_vote 7 none :: WA) ({ frames := 1, cells := 0, slots := 0, locals := 23 } : Room) [.ref (q 0), .int (nI xm), .int (nI xk)] (wX7 cI cZ cO q u) (wX7 cI cZ cO q (f_X7_vote u xm xk)) := by
  refine ct_v (K := fun z => z) (t := f_X7_vote u xm xk) (wf := fun o => wX7 cI cZ cO q o) (own := RX7) (nm := "vote") (L0 := [(0, .ref (q 0)), (1, .int (nI xm)), (2, .int (nI xk))]) (plainFor_of_name (by decide +kernel)) rfl rfl (Nat.le_of_ble_eq_true rfl) rfl ?_
  intro p e s m args below meth c A C
  unfold f_X7_vote
  refine x_bipush C 18 dX7_vote_0 (by decide) ?_
  refine x_iload_n C dX7_vote_2 1 rfl ?_
  refine x_imul C dX7_vote_3 ?_
  refine x_top (nI (18 * xm)) (pk_mul _ _) ?_
  refine x_iload_n C dX7_vote_4 2 rfl ?_
  refine x_iadd C dX7_vote_5 ?_
  refine x_top (nI ((18 * xm) + xk)) (nI_add _ _) ?_
  refine x_istore_n (L' := [(3, .int (nI ((18 * xm) + xk))), (0, .ref (q 0)), (1, .int (nI xm)), (2, .int (nI xk))]) C dX7_vote_6 (by decide) rfl ?_
  refine x_aload_n C dX7_vote_7 1 rfl ?_
  refine x_get (v := .ref (q 18)) C hwsX70 27 mw_355 0 rfl rfl (by decide) rfl rfl dX7_vote_8 ?_
  refine x_iload_n C dX7_vote_11 0 rfl ?_
  refine x_zald C 18 1 rfl rfl ((18 * xm) + xk) rfl (by omega) (by decide) (u 27 ((18 * xm) + xk)) rfl dX7_vote_12 ?_
  refine x_if_eq C 17 dX7_vote_13 (by decide) (fun c1 => ?_) (fun c1 => ?_)
  · refine x_iconst C 0 dX7_vote_17 (by decide) ?_
    refine x_istore (L' := [(4, .int 0), (3, .int (nI ((18 * xm) + xk))), (0, .ref (q 0)), (1, .int (nI xm)), (2, .int (nI xk))]) C dX7_vote_18 (by decide) rfl ?_
    refine x_iconst C 0 dX7_vote_20 (by decide) ?_
    refine x_istore (L' := [(5, .int 0), (4, .int 0), (3, .int (nI ((18 * xm) + xk))), (0, .ref (q 0)), (1, .int (nI xm)), (2, .int (nI xk))]) C dX7_vote_21 (by decide) rfl ?_
    refine x_iconst C 0 dX7_vote_23 (by decide) ?_
    refine x_istore (L' := [(6, .int 0), (5, .int 0), (4, .int 0), (3, .int (nI ((18 * xm) + xk))), (0, .ref (q 0)), (1, .int (nI xm)), (2, .int (nI xk))]) C dX7_vote_24 (by decide) rfl ?_
    refine x_iload C dX7_vote_26 0 rfl ?_
    refine x_iconst C 3 dX7_vote_28 (by decide) ?_
    refine x_icmp_ge_f C 68 dX7_vote_29 (by decide) (by decide) ?_
    refine x_aload_n C dX7_vote_32 4 rfl ?_
    refine x_get (v := .ref (q 17)) C hwsX70 26 mw_354 0 rfl rfl (by decide) rfl rfl dX7_vote_33 ?_
    refine x_iload_n C dX7_vote_36 3 rfl ?_
    refine x_iald C 17 0 rfl rfl ((18 * xm) + xk) rfl (by omega) (by decide) (u 26 ((18 * xm) + xk)) rfl dX7_vote_37 ?_
    refine x_iload C dX7_vote_38 0 rfl ?_
    refine x_ishr C dX7_vote_40 ?_
    refine x_iconst C 1 dX7_vote_41 (by decide) ?_
    refine x_iand C dX7_vote_42 ?_
    refine x_iconst C 1 dX7_vote_43 (by decide) ?_
    refine x_join (fun (b3 : Int32 × Bool) => f_X7_vote_k62_3 u xm xk b3) 62 (fun (b3 : Int32 × Bool) => [(0, .ref (q 0)), (1, .int (nI xm)), (2, .int (nI xk)), (3, .int (nI ((18 * xm) + xk))), (4, .int b3.1), (5, .int (b2i b3.2)), (6, .int 0)]) (fun (b3 : Int32 × Bool) => []) (fun (b3 : Int32 × Bool) => wX7 cI cZ cO q u) (fun b3 => ?_) _ (fun J35 => ?_)
    · unfold f_X7_vote_k62_3
      refine x_iinc (L' := [(6, .int 1), (0, .ref (q 0)), (1, .int (nI xm)), (2, .int (nI xk)), (3, .int (nI ((18 * xm) + xk))), (4, .int b3.1), (5, .int (b2i b3.2))]) C 1 dX7_vote_62 6 rfl (by decide) (by decide) rfl ?_
      refine x_goto C 26 dX7_vote_65 (by decide) ?_
      refine x_iload C dX7_vote_26 0 rfl ?_
      refine x_iconst C 3 dX7_vote_28 (by decide) ?_
      refine x_icmp_ge_f C 68 dX7_vote_29 (by decide) (by decide) ?_
      refine x_aload_n C dX7_vote_32 1 rfl ?_
      refine x_get (v := .ref (q 17)) C hwsX70 26 mw_354 0 rfl rfl (by decide) rfl rfl dX7_vote_33 ?_
      refine x_iload_n C dX7_vote_36 4 rfl ?_
      refine x_iald C 17 0 rfl rfl ((18 * xm) + xk) rfl (by omega) (by decide) (u 26 ((18 * xm) + xk)) rfl dX7_vote_37 ?_
      refine x_iload C dX7_vote_38 0 rfl ?_
      refine x_ishr C dX7_vote_40 ?_
      refine x_iconst C 1 dX7_vote_41 (by decide) ?_
      refine x_iand C dX7_vote_42 ?_
      refine x_iconst C 1 dX7_vote_43 (by decide) ?_
      refine x_join (fun (b5 : Int32 × Int32) => f_X7_vote_k62_2 u xm xk b5) 62 (fun (b5 : Int32 × Int32) => [(0, .ref (q 0)), (1, .int (nI xm)), (2, .int (nI xk)), (3, .int (nI ((18 * xm) + xk))), (4, .int b5.1), (5, .int b5.2), (6, .int 1)]) (fun (b5 : Int32 × Int32) => []) (fun (b5 : Int32 × Int32) => wX7 cI cZ cO q u) (fun b5 => ?_) _ (fun J34 => ?_)
      · unfold f_X7_vote_k62_2
        refine x_iinc (L' := [(6, .int 2), (0, .ref (q 0)), (1, .int (nI xm)), (2, .int (nI xk)), (3, .int (nI ((18 * xm) + xk))), (4, .int b5.1), (5, .int b5.2)]) C 2 dX7_vote_62 6 rfl (by decide) (by decide) rfl ?_
        refine x_goto C 26 dX7_vote_65 (by decide) ?_
        refine x_iload C dX7_vote_26 0 rfl ?_
        refine x_iconst C 3 dX7_vote_28 (by decide) ?_
        refine x_icmp_ge_f C 68 dX7_vote_29 (by decide) (by decide) ?_
        refine x_aload_n C dX7_vote_32 1 rfl ?_
        refine x_get (v := .ref (q 17)) C hwsX70 26 mw_354 0 rfl rfl (by decide) rfl rfl dX7_vote_33 ?_
        refine x_iload_n C dX7_vote_36 4 rfl ?_
        refine x_iald C 17 0 rfl rfl ((18 * xm) + xk) rfl (by omega) (by decide) (u 26 ((18 * xm) + xk)) rfl dX7_vote_37 ?_
        refine x_iload C dX7_vote_38 0 rfl ?_
        refine x_ishr C dX7_vote_40 ?_
        refine x_iconst C 1 dX7_vote_41 (by decide) ?_
        refine x_iand C dX7_vote_42 ?_
        refine x_iconst C 1 dX7_vote_43 (by decide) ?_
        refine x_join (fun (b7 : Int32 × Int32) => f_X7_vote_k62 u xm xk b7) 62 (fun (b7 : Int32 × Int32) => [(0, .ref (q 0)), (1, .int (nI xm)), (2, .int (nI xk)), (3, .int (nI ((18 * xm) + xk))), (4, .int b7.1), (5, .int b7.2), (6, .int 2)]) (fun (b7 : Int32 × Int32) => []) (fun (b7 : Int32 × Int32) => wX7 cI cZ cO q u) (fun b7 => ?_) _ (fun J33 => ?_)
        · unfold f_X7_vote_k62
          refine x_iinc (L' := [(6, .int 3), (0, .ref (q 0)), (1, .int (nI xm)), (2, .int (nI xk)), (3, .int (nI ((18 * xm) + xk))), (4, .int b7.1), (5, .int b7.2)]) C 3 dX7_vote_62 6 rfl (by decide) (by decide) rfl ?_
          refine x_goto C 26 dX7_vote_65 (by decide) ?_
          refine x_iload C dX7_vote_26 0 rfl ?_
          refine x_iconst C 3 dX7_vote_28 (by decide) ?_
          refine x_icmp_ge_t C 68 dX7_vote_29 (by decide) (by decide) ?_
          refine x_iload C dX7_vote_68 6 rfl ?_
          refine x_iconst C 2 dX7_vote_70 (by decide) ?_
          refine x_icmp_ne C 139 dX7_vote_71 (by decide) (fun c8 => ?_) (fun c8 => ?_)
          · refine x_aload_n C dX7_vote_74 1 rfl ?_
            refine x_get (v := .ref (q 18)) C hwsX70 27 mw_355 0 rfl rfl (by decide) rfl rfl dX7_vote_75 ?_
            refine x_iload_n C dX7_vote_78 4 rfl ?_
            refine x_iload C dX7_vote_79 5 rfl ?_
            refine x_iconst C 1 dX7_vote_81 (by decide) ?_
            refine x_join (fun (b10 : Bool) => f_X7_vote_k90 u xm xk b7 b10) 90 (fun (b10 : Bool) => [(0, .ref (q 0)), (1, .int (nI xm)), (2, .int (nI xk)), (3, .int (nI ((18 * xm) + xk))), (4, .int b7.1), (5, .int b7.2), (6, .int 3)]) (fun (b10 : Bool) => [.int (b2i b10), .int (nI ((18 * xm) + xk)), .ref (q 18)]) (fun (b10 : Bool) => wX7 cI cZ cO q u) (fun b10 => ?_) _ (fun J17 => ?_)
            · unfold f_X7_vote_k90
              refine x_zast (ws' := wX7 cI cZ cO q (put u 27 ((18 * xm) + xk) (b2i b10))) C 18 1 rfl rfl ((18 * xm) + xk) rfl (by omega) (by decide) (nv_b _) dX7_vote_90 rfl ?_
              refine x_aload_n C dX7_vote_91 0 rfl ?_
              refine x_get (v := .ref (q 17)) C hwsX70 26 mw_354 0 rfl rfl (by decide) rfl rfl dX7_vote_92 ?_
              refine x_iload_n C dX7_vote_95 3 rfl ?_
              refine x_iload C dX7_vote_96 4 rfl ?_
              refine x_iconst C 1 dX7_vote_98 (by decide) ?_
              refine x_join (fun (b12 : Int32) => f_X7_vote_k112 u xm xk b7 b10 b12) 112 (fun (b12 : Int32) => [(0, .ref (q 0)), (1, .int (nI xm)), (2, .int (nI xk)), (3, .int (nI ((18 * xm) + xk))), (4, .int b7.1), (5, .int b7.2), (6, .int 3)]) (fun (b12 : Int32) => [.int b12, .int (nI ((18 * xm) + xk)), .ref (q 17)]) (fun (b12 : Int32) => wX7 cI cZ cO q (put u 27 ((18 * xm) + xk) (b2i b10))) (fun b12 => ?_) _ (fun J16 => ?_)
              · unfold f_X7_vote_k112
                refine x_iast (ws' := wX7 cI cZ cO q (put (put u 27 ((18 * xm) + xk) (b2i b10)) 26 ((18 * xm) + xk) b12)) C 17 0 rfl rfl ((18 * xm) + xk) rfl (by omega) (by decide) dX7_vote_112 rfl ?_
                refine x_aload_n C dX7_vote_113 0 rfl ?_
                refine x_get (v := .ref (q 16)) C hwsX70 25 mw_353 0 rfl rfl (by decide) rfl rfl dX7_vote_114 ?_
                refine x_iload_n C dX7_vote_117 3 rfl ?_
                refine x_iload C dX7_vote_118 4 rfl ?_
                refine x_iconst C 1 dX7_vote_120 (by decide) ?_
                refine x_join (fun (b14 : Int32) => f_X7_vote_k137 u xm xk b10 b12 b14) 137 (fun (b14 : Int32) => [(0, .ref (q 0)), (1, .int (nI xm)), (2, .int (nI xk)), (3, .int (nI ((18 * xm) + xk))), (4, .int b7.1), (5, .int b7.2), (6, .int 3)]) (fun (b14 : Int32) => [.int b14, .int (nI ((18 * xm) + xk)), .ref (q 16)]) (fun (b14 : Int32) => wX7 cI cZ cO q (put (put u 27 ((18 * xm) + xk) (b2i b10)) 26 ((18 * xm) + xk) b12)) (fun b14 => ?_) _ (fun J15 => ?_)
                · unfold f_X7_vote_k137
                  refine x_iast (ws' := wX7 cI cZ cO q (put (put (put u 27 ((18 * xm) + xk) (b2i b10)) 26 ((18 * xm) + xk) b12) 25 ((18 * xm) + xk) b14)) C 16 0 rfl rfl ((18 * xm) + xk) rfl (by omega) (by decide) dX7_vote_137 rfl ?_
                  exact x_vret C rfl dX7_vote_138 rfl
                · refine x_icmp_ne C 133 dX7_vote_121 (by decide) (fun c13 => ?_) (fun c13 => ?_)
                  · refine x_aload_n C dX7_vote_124 0 rfl ?_
                    refine x_get (v := .ref (q 16)) C hwsX70 25 mw_353 0 rfl rfl (by decide) rfl rfl dX7_vote_125 ?_
                    refine x_iload_n C dX7_vote_128 3 rfl ?_
                    refine x_iald C 16 0 rfl rfl ((18 * xm) + xk) rfl (by omega) (by decide) (u 25 ((18 * xm) + xk)) (by simp [put, upd]) dX7_vote_129 ?_
                    refine x_goto C 137 dX7_vote_130 (by decide) ?_
                    exact J15 (u 25 ((18 * xm) + xk))
                  · refine x_iload C dX7_vote_133 4 rfl ?_
                    refine x_iconst C 2 dX7_vote_135 (by decide) ?_
                    refine x_idiv C dX7_vote_136 (by first | decide | assumption) ?_
                    exact J15 (b7.1 / 2)
              · refine x_icmp_ne C 106 dX7_vote_99 (by decide) (fun c11 => ?_) (fun c11 => ?_)
                · refine x_iconst C 0 dX7_vote_102 (by decide) ?_
                  refine x_goto C 112 dX7_vote_103 (by decide) ?_
                  exact J16 0
                · refine x_aload_n C dX7_vote_106 0 rfl ?_
                  refine x_get (v := .ref (q 17)) C hwsX70 26 mw_354 0 rfl rfl (by decide) rfl rfl dX7_vote_107 ?_
                  refine x_iload_n C dX7_vote_110 3 rfl ?_
                  refine x_iald C 17 0 rfl rfl ((18 * xm) + xk) rfl (by omega) (by decide) (u 26 ((18 * xm) + xk)) (by simp [put, upd]) dX7_vote_111 ?_
                  exact J16 (u 26 ((18 * xm) + xk))
            · refine x_icmp_ne C 89 dX7_vote_82 (by decide) (fun c9 => ?_) (fun c9 => ?_)
              · refine x_iconst C 1 dX7_vote_85 (by decide) ?_
                refine x_goto C 90 dX7_vote_86 (by decide) ?_
                refine x_lsub (L' := [(0, .ref (q 0)), (1, .int (nI xm)), (2, .int (nI xk)), (3, .int (nI ((18 * xm) + xk))), (4, .int b7.1), (5, .int b7.2), (6, .int 3)]) [1, 2, 3, 4, 5, 6, 0] rfl ?_
                exact J17 true
              · refine x_iconst C 0 dX7_vote_89 (by decide) ?_
                refine x_lsub (L' := [(0, .ref (q 0)), (1, .int (nI xm)), (2, .int (nI xk)), (3, .int (nI ((18 * xm) + xk))), (4, .int b7.1), (5, .int b7.2), (6, .int 3)]) [1, 2, 3, 4, 5, 6, 0] rfl ?_
                exact J17 false
          · refine x_aload_n C dX7_vote_139 1 rfl ?_
            refine x_get (v := .ref (q 16)) C hwsX70 25 mw_353 0 rfl rfl (by decide) rfl rfl dX7_vote_140 ?_
            refine x_iload_n C dX7_vote_143 4 rfl ?_
            refine x_iload C dX7_vote_144 5 rfl ?_
            refine x_iconst C 1 dX7_vote_146 (by decide) ?_
            refine x_join (fun (b19 : Bool) => f_X7_vote_k155 u xm xk b7 b19) 155 (fun (b19 : Bool) => [(0, .ref (q 0)), (1, .int (nI xm)), (2, .int (nI xk)), (3, .int (nI ((18 * xm) + xk))), (4, .int b7.1), (5, .int b7.2), (6, .int 3)]) (fun (b19 : Bool) => [.int (b2i b19), .int (nI ((18 * xm) + xk)), .ref (q 16)]) (fun (b19 : Bool) => wX7 cI cZ cO q u) (fun b19 => ?_) _ (fun J32 => ?_)
            · unfold f_X7_vote_k155
              refine x_iast (ws' := wX7 cI cZ cO q (put u 25 ((18 * xm) + xk) (b2i b19))) C 16 0 rfl rfl ((18 * xm) + xk) rfl (by omega) (by decide) dX7_vote_155 rfl ?_
              refine x_iconst C 0 dX7_vote_156 (by decide) ?_
              refine x_istore (L' := [(6, .int 0), (0, .ref (q 0)), (1, .int (nI xm)), (2, .int (nI xk)), (3, .int (nI ((18 * xm) + xk))), (4, .int b7.1), (5, .int b7.2)]) C dX7_vote_157 (by decide) rfl ?_
              refine x_iload C dX7_vote_159 0 rfl ?_
              refine x_iconst C 3 dX7_vote_161 (by decide) ?_
              refine x_icmp_ge_f C 217 dX7_vote_162 (by decide) (by decide) ?_
              refine x_iload C dX7_vote_165 5 rfl ?_
              refine x_iconst C 1 dX7_vote_167 (by decide) ?_
              refine x_iconst C 2 dX7_vote_168 (by decide) ?_
              refine x_cSi (As := [.int b7.1, .int 1, .int 2]) (ws' := wX7 cI cZ cO q (put u 25 ((18 * xm) + xk) (b2i b19))) C mw_367 mw_368 mw_337 mw_363 hd_X7_in rfl rfl ⟨Nat.le_of_ble_eq_true rfl, Nat.le_of_ble_eq_true rfl⟩ (c_X7_in l D cI cZ cO  b7.1 1 2 ) [] [.inl 0, .inl 1, .inl 2, .inl 3, .inl 4, .inl 5, .inl 6, .inl 7, .inl 8, .inl 9, .inl 10, .inl 11, .inl 12, .inl 13, .inl 14, .inl 15, .inl 16, .inl 17, .inl 18, .inl 19, .inl 20] trivial rfl ⟨rfl, rfl, rfl, rfl, rfl, rfl, rfl, rfl, rfl, rfl, rfl, rfl, rfl, rfl, rfl, rfl, rfl, rfl, rfl, rfl, rfl, trivial⟩ rfl ⟨rfl, rfl, rfl, rfl, rfl, rfl, rfl, rfl, rfl, rfl, rfl, rfl, rfl, rfl, rfl, rfl, rfl, rfl, rfl, rfl, rfl, trivial⟩ rfl rfl (Nat.le_of_ble_eq_true rfl) (Nat.le_of_ble_eq_true rfl) (Nat.le_of_ble_eq_true rfl) dX7_vote_169 ?_
              refine x_if_eqZ C 217 dX7_vote_172 (by decide) (fun c20 => ?_) (fun c20 => ?_)
              · refine x_aload_n C dX7_vote_175 1 rfl ?_
                refine x_get (v := .ref (q 17)) C hwsX70 26 mw_354 0 rfl rfl (by decide) rfl rfl dX7_vote_176 ?_
                refine x_iload_n C dX7_vote_179 4 rfl ?_
                refine x_dup2 C dX7_vote_180 rfl rfl ?_
                refine x_iald C 17 0 rfl rfl ((18 * xm) + xk) rfl (by omega) (by decide) (u 26 ((18 * xm) + xk)) (by simp [put, upd]) dX7_vote_181 ?_
                refine x_aload_n C dX7_vote_182 1 rfl ?_
                refine x_iload_n C dX7_vote_183 3 rfl ?_
                refine x_iload C dX7_vote_184 0 rfl ?_
                refine x_cViW (q0 := 0) (As := [.int (nI xk), .int 0]) C mw_378 mw_379 mw_380 mw_337 mw_376 hd_X7_tell rfl rfl ⟨Nat.le_of_ble_eq_true rfl, Nat.le_of_ble_eq_true rfl⟩ rfl rfl rfl (c_X7_tell l D cI cZ cO q (put u 25 ((18 * xm) + xk) (b2i b19)) xk 0 (by omega) (by omega)) rfl rfl (Nat.le_of_ble_eq_true rfl) (Nat.le_of_ble_eq_true rfl) (Nat.le_of_ble_eq_true rfl) dX7_vote_186 ?_
                refine x_aload_n C dX7_vote_189 1 rfl ?_
                refine x_get (v := .ref (q 16)) C hwsX70 25 mw_353 0 rfl rfl (by decide) rfl rfl dX7_vote_190 ?_
                refine x_iload_n C dX7_vote_193 4 rfl ?_
                refine x_iald C 16 0 rfl rfl ((18 * xm) + xk) rfl (by omega) (by decide) (b2i b19) (by simp [put, upd]) dX7_vote_194 ?_
                refine x_join (fun (b22 : Int32) => f_X7_vote_k209_3 u xm xk b7 b19 b22) 209 (fun (b22 : Int32) => [(0, .ref (q 0)), (1, .int (nI xm)), (2, .int (nI xk)), (3, .int (nI ((18 * xm) + xk))), (4, .int b7.1), (5, .int b7.2), (6, .int 0)]) (fun (b22 : Int32) => [.int b22, .int (u 26 ((18 * xm) + xk)), .int (nI ((18 * xm) + xk)), .ref (q 17)]) (fun (b22 : Int32) => wX7 cI cZ cO q (put u 25 ((18 * xm) + xk) (b2i b19))) (fun b22 => ?_) _ (fun J31 => ?_)
                · unfold f_X7_vote_k209_3
                  refine x_iand C dX7_vote_209 ?_
                  refine x_iast (ws' := wX7 cI cZ cO q (put (put u 25 ((18 * xm) + xk) (b2i b19)) 26 ((18 * xm) + xk) ((u 26 ((18 * xm) + xk)) &&& b22))) C 17 0 rfl rfl ((18 * xm) + xk) rfl (by omega) (by decide) dX7_vote_210 rfl ?_
                  refine x_iinc (L' := [(6, .int 1), (0, .ref (q 0)), (1, .int (nI xm)), (2, .int (nI xk)), (3, .int (nI ((18 * xm) + xk))), (4, .int b7.1), (5, .int b7.2)]) C 1 dX7_vote_211 6 rfl (by decide) (by decide) rfl ?_
                  refine x_goto C 159 dX7_vote_214 (by decide) ?_
                  refine x_iload C dX7_vote_159 0 rfl ?_
                  refine x_iconst C 3 dX7_vote_161 (by decide) ?_
                  refine x_icmp_ge_f C 217 dX7_vote_162 (by decide) (by decide) ?_
                  refine x_iload C dX7_vote_165 5 rfl ?_
                  refine x_iconst C 1 dX7_vote_167 (by decide) ?_
                  refine x_iconst C 2 dX7_vote_168 (by decide) ?_
                  refine x_cSi (As := [.int b7.1, .int 1, .int 2]) (ws' := wX7 cI cZ cO q (put (put u 25 ((18 * xm) + xk) (b2i b19)) 26 ((18 * xm) + xk) ((u 26 ((18 * xm) + xk)) &&& b22))) C mw_367 mw_368 mw_337 mw_363 hd_X7_in rfl rfl ⟨Nat.le_of_ble_eq_true rfl, Nat.le_of_ble_eq_true rfl⟩ (c_X7_in l D cI cZ cO  b7.1 1 2 ) [] [.inl 0, .inl 1, .inl 2, .inl 3, .inl 4, .inl 5, .inl 6, .inl 7, .inl 8, .inl 9, .inl 10, .inl 11, .inl 12, .inl 13, .inl 14, .inl 15, .inl 16, .inl 17, .inl 18, .inl 19, .inl 20] trivial rfl ⟨rfl, rfl, rfl, rfl, rfl, rfl, rfl, rfl, rfl, rfl, rfl, rfl, rfl, rfl, rfl, rfl, rfl, rfl, rfl, rfl, rfl, trivial⟩ rfl ⟨rfl, rfl, rfl, rfl, rfl, rfl, rfl, rfl, rfl, rfl, rfl, rfl, rfl, rfl, rfl, rfl, rfl, rfl, rfl, rfl, rfl, trivial⟩ rfl rfl (Nat.le_of_ble_eq_true rfl) (Nat.le_of_ble_eq_true rfl) (Nat.le_of_ble_eq_true rfl) dX7_vote_169 ?_
                  refine x_if_eqZ C 217 dX7_vote_172 (by decide) (fun c23 => ?_) (fun c23 => ?_)
                  · refine x_aload_n C dX7_vote_175 1 rfl ?_
                    refine x_get (v := .ref (q 17)) C hwsX70 26 mw_354 0 rfl rfl (by decide) rfl rfl dX7_vote_176 ?_
                    refine x_iload_n C dX7_vote_179 4 rfl ?_
                    refine x_dup2 C dX7_vote_180 rfl rfl ?_
                    refine x_iald C 17 0 rfl rfl ((18 * xm) + xk) rfl (by omega) (by decide) ((u 26 ((18 * xm) + xk)) &&& b22) (by simp [put, upd]) dX7_vote_181 ?_
                    refine x_aload_n C dX7_vote_182 1 rfl ?_
                    refine x_iload_n C dX7_vote_183 3 rfl ?_
                    refine x_iload C dX7_vote_184 0 rfl ?_
                    refine x_cViW (q0 := 0) (As := [.int (nI xk), .int 1]) C mw_378 mw_379 mw_380 mw_337 mw_376 hd_X7_tell rfl rfl ⟨Nat.le_of_ble_eq_true rfl, Nat.le_of_ble_eq_true rfl⟩ rfl rfl rfl (c_X7_tell l D cI cZ cO q (put (put u 25 ((18 * xm) + xk) (b2i b19)) 26 ((18 * xm) + xk) ((u 26 ((18 * xm) + xk)) &&& b22)) xk 1 (by omega) (by omega)) rfl rfl (Nat.le_of_ble_eq_true rfl) (Nat.le_of_ble_eq_true rfl) (Nat.le_of_ble_eq_true rfl) dX7_vote_186 ?_
                    refine x_aload_n C dX7_vote_189 1 rfl ?_
                    refine x_get (v := .ref (q 16)) C hwsX70 25 mw_353 0 rfl rfl (by decide) rfl rfl dX7_vote_190 ?_
                    refine x_iload_n C dX7_vote_193 4 rfl ?_
                    refine x_iald C 16 0 rfl rfl ((18 * xm) + xk) rfl (by omega) (by decide) (b2i b19) (by simp [put, upd]) dX7_vote_194 ?_
                    refine x_join (fun (b25 : Int32) => f_X7_vote_k209_2 u xm xk b7 b19 b22 b25) 209 (fun (b25 : Int32) => [(0, .ref (q 0)), (1, .int (nI xm)), (2, .int (nI xk)), (3, .int (nI ((18 * xm) + xk))), (4, .int b7.1), (5, .int b7.2), (6, .int 1)]) (fun (b25 : Int32) => [.int b25, .int ((u 26 ((18 * xm) + xk)) &&& b22), .int (nI ((18 * xm) + xk)), .ref (q 17)]) (fun (b25 : Int32) => wX7 cI cZ cO q (put (put u 25 ((18 * xm) + xk) (b2i b19)) 26 ((18 * xm) + xk) ((u 26 ((18 * xm) + xk)) &&& b22))) (fun b25 => ?_) _ (fun J30 => ?_)
                    · unfold f_X7_vote_k209_2
                      refine x_iand C dX7_vote_209 ?_
                      refine x_iast (ws' := wX7 cI cZ cO q (put (put (put u 25 ((18 * xm) + xk) (b2i b19)) 26 ((18 * xm) + xk) ((u 26 ((18 * xm) + xk)) &&& b22)) 26 ((18 * xm) + xk) (((u 26 ((18 * xm) + xk)) &&& b22) &&& b25))) C 17 0 rfl rfl ((18 * xm) + xk) rfl (by omega) (by decide) dX7_vote_210 rfl ?_
                      refine x_iinc (L' := [(6, .int 2), (0, .ref (q 0)), (1, .int (nI xm)), (2, .int (nI xk)), (3, .int (nI ((18 * xm) + xk))), (4, .int b7.1), (5, .int b7.2)]) C 2 dX7_vote_211 6 rfl (by decide) (by decide) rfl ?_
                      refine x_goto C 159 dX7_vote_214 (by decide) ?_
                      refine x_iload C dX7_vote_159 0 rfl ?_
                      refine x_iconst C 3 dX7_vote_161 (by decide) ?_
                      refine x_icmp_ge_f C 217 dX7_vote_162 (by decide) (by decide) ?_
                      refine x_iload C dX7_vote_165 5 rfl ?_
                      refine x_iconst C 1 dX7_vote_167 (by decide) ?_
                      refine x_iconst C 2 dX7_vote_168 (by decide) ?_
                      refine x_cSi (As := [.int b7.1, .int 1, .int 2]) (ws' := wX7 cI cZ cO q (put (put (put u 25 ((18 * xm) + xk) (b2i b19)) 26 ((18 * xm) + xk) ((u 26 ((18 * xm) + xk)) &&& b22)) 26 ((18 * xm) + xk) (((u 26 ((18 * xm) + xk)) &&& b22) &&& b25))) C mw_367 mw_368 mw_337 mw_363 hd_X7_in rfl rfl ⟨Nat.le_of_ble_eq_true rfl, Nat.le_of_ble_eq_true rfl⟩ (c_X7_in l D cI cZ cO  b7.1 1 2 ) [] [.inl 0, .inl 1, .inl 2, .inl 3, .inl 4, .inl 5, .inl 6, .inl 7, .inl 8, .inl 9, .inl 10, .inl 11, .inl 12, .inl 13, .inl 14, .inl 15, .inl 16, .inl 17, .inl 18, .inl 19, .inl 20] trivial rfl ⟨rfl, rfl, rfl, rfl, rfl, rfl, rfl, rfl, rfl, rfl, rfl, rfl, rfl, rfl, rfl, rfl, rfl, rfl, rfl, rfl, rfl, trivial⟩ rfl ⟨rfl, rfl, rfl, rfl, rfl, rfl, rfl, rfl, rfl, rfl, rfl, rfl, rfl, rfl, rfl, rfl, rfl, rfl, rfl, rfl, rfl, trivial⟩ rfl rfl (Nat.le_of_ble_eq_true rfl) (Nat.le_of_ble_eq_true rfl) (Nat.le_of_ble_eq_true rfl) dX7_vote_169 ?_
                      refine x_if_eqZ C 217 dX7_vote_172 (by decide) (fun c26 => ?_) (fun c26 => ?_)
                      · refine x_aload_n C dX7_vote_175 1 rfl ?_
                        refine x_get (v := .ref (q 17)) C hwsX70 26 mw_354 0 rfl rfl (by decide) rfl rfl dX7_vote_176 ?_
                        refine x_iload_n C dX7_vote_179 4 rfl ?_
                        refine x_dup2 C dX7_vote_180 rfl rfl ?_
                        refine x_iald C 17 0 rfl rfl ((18 * xm) + xk) rfl (by omega) (by decide) (((u 26 ((18 * xm) + xk)) &&& b22) &&& b25) (by simp [put, upd]) dX7_vote_181 ?_
                        refine x_aload_n C dX7_vote_182 1 rfl ?_
                        refine x_iload_n C dX7_vote_183 3 rfl ?_
                        refine x_iload C dX7_vote_184 0 rfl ?_
                        refine x_cViW (q0 := 0) (As := [.int (nI xk), .int 2]) C mw_378 mw_379 mw_380 mw_337 mw_376 hd_X7_tell rfl rfl ⟨Nat.le_of_ble_eq_true rfl, Nat.le_of_ble_eq_true rfl⟩ rfl rfl rfl (c_X7_tell l D cI cZ cO q (put (put (put u 25 ((18 * xm) + xk) (b2i b19)) 26 ((18 * xm) + xk) ((u 26 ((18 * xm) + xk)) &&& b22)) 26 ((18 * xm) + xk) (((u 26 ((18 * xm) + xk)) &&& b22) &&& b25)) xk 2 (by omega) (by omega)) rfl rfl (Nat.le_of_ble_eq_true rfl) (Nat.le_of_ble_eq_true rfl) (Nat.le_of_ble_eq_true rfl) dX7_vote_186 ?_
                        refine x_aload_n C dX7_vote_189 1 rfl ?_
                        refine x_get (v := .ref (q 16)) C hwsX70 25 mw_353 0 rfl rfl (by decide) rfl rfl dX7_vote_190 ?_
                        refine x_iload_n C dX7_vote_193 4 rfl ?_
                        refine x_iald C 16 0 rfl rfl ((18 * xm) + xk) rfl (by omega) (by decide) (b2i b19) (by simp [put, upd]) dX7_vote_194 ?_
                        refine x_join (fun (b28 : Int32) => f_X7_vote_k209 u xm xk b19 b22 b25 b28) 209 (fun (b28 : Int32) => [(0, .ref (q 0)), (1, .int (nI xm)), (2, .int (nI xk)), (3, .int (nI ((18 * xm) + xk))), (4, .int b7.1), (5, .int b7.2), (6, .int 2)]) (fun (b28 : Int32) => [.int b28, .int (((u 26 ((18 * xm) + xk)) &&& b22) &&& b25), .int (nI ((18 * xm) + xk)), .ref (q 17)]) (fun (b28 : Int32) => wX7 cI cZ cO q (put (put (put u 25 ((18 * xm) + xk) (b2i b19)) 26 ((18 * xm) + xk) ((u 26 ((18 * xm) + xk)) &&& b22)) 26 ((18 * xm) + xk) (((u 26 ((18 * xm) + xk)) &&& b22) &&& b25))) (fun b28 => ?_) _ (fun J29 => ?_)
                        · unfold f_X7_vote_k209
                          refine x_iand C dX7_vote_209 ?_
                          refine x_iast (ws' := wX7 cI cZ cO q (put (put (put (put u 25 ((18 * xm) + xk) (b2i b19)) 26 ((18 * xm) + xk) ((u 26 ((18 * xm) + xk)) &&& b22)) 26 ((18 * xm) + xk) (((u 26 ((18 * xm) + xk)) &&& b22) &&& b25)) 26 ((18 * xm) + xk) ((((u 26 ((18 * xm) + xk)) &&& b22) &&& b25) &&& b28))) C 17 0 rfl rfl ((18 * xm) + xk) rfl (by omega) (by decide) dX7_vote_210 rfl ?_
                          refine x_iinc (L' := [(6, .int 3), (0, .ref (q 0)), (1, .int (nI xm)), (2, .int (nI xk)), (3, .int (nI ((18 * xm) + xk))), (4, .int b7.1), (5, .int b7.2)]) C 3 dX7_vote_211 6 rfl (by decide) (by decide) rfl ?_
                          refine x_goto C 159 dX7_vote_214 (by decide) ?_
                          refine x_iload C dX7_vote_159 0 rfl ?_
                          refine x_iconst C 3 dX7_vote_161 (by decide) ?_
                          refine x_icmp_ge_t C 217 dX7_vote_162 (by decide) (by decide) ?_
                          exact x_vret C rfl dX7_vote_217 rfl
                        · refine x_icmp_ne C 203 dX7_vote_195 (by decide) (fun c27 => ?_) (fun c27 => ?_)
                          · refine x_bipush C 7 dX7_vote_198 (by decide) ?_
                            refine x_goto C 209 dX7_vote_200 (by decide) ?_
                            refine x_lsub (L' := [(0, .ref (q 0)), (1, .int (nI xm)), (2, .int (nI xk)), (3, .int (nI ((18 * xm) + xk))), (4, .int b7.1), (5, .int b7.2), (6, .int 2)]) [1, 2, 3, 4, 5, 6, 0] rfl ?_
                            exact J29 7
                          · refine x_iconst C 1 dX7_vote_203 (by decide) ?_
                            refine x_iload C dX7_vote_204 0 rfl ?_
                            refine x_ishl C dX7_vote_206 ?_
                            refine x_top 4 (by decide) ?_
                            refine x_iconst C (-1) dX7_vote_207 (by decide) ?_
                            refine x_ixor C dX7_vote_208 ?_
                            refine x_top (-5) (by decide) ?_
                            refine x_lsub (L' := [(0, .ref (q 0)), (1, .int (nI xm)), (2, .int (nI xk)), (3, .int (nI ((18 * xm) + xk))), (4, .int b7.1), (5, .int b7.2), (6, .int 2)]) [1, 2, 3, 4, 5, 6, 0] rfl ?_
                            exact J29 (-5)
                      · exact x_vret C rfl dX7_vote_217 rfl
                    · refine x_icmp_ne C 203 dX7_vote_195 (by decide) (fun c24 => ?_) (fun c24 => ?_)
                      · refine x_bipush C 7 dX7_vote_198 (by decide) ?_
                        refine x_goto C 209 dX7_vote_200 (by decide) ?_
                        refine x_lsub (L' := [(0, .ref (q 0)), (1, .int (nI xm)), (2, .int (nI xk)), (3, .int (nI ((18 * xm) + xk))), (4, .int b7.1), (5, .int b7.2), (6, .int 1)]) [1, 2, 3, 4, 5, 6, 0] rfl ?_
                        exact J30 7
                      · refine x_iconst C 1 dX7_vote_203 (by decide) ?_
                        refine x_iload C dX7_vote_204 0 rfl ?_
                        refine x_ishl C dX7_vote_206 ?_
                        refine x_top 2 (by decide) ?_
                        refine x_iconst C (-1) dX7_vote_207 (by decide) ?_
                        refine x_ixor C dX7_vote_208 ?_
                        refine x_top (-3) (by decide) ?_
                        refine x_lsub (L' := [(0, .ref (q 0)), (1, .int (nI xm)), (2, .int (nI xk)), (3, .int (nI ((18 * xm) + xk))), (4, .int b7.1), (5, .int b7.2), (6, .int 1)]) [1, 2, 3, 4, 5, 6, 0] rfl ?_
                        exact J30 (-3)
                  · exact x_vret C rfl dX7_vote_217 rfl
                · refine x_icmp_ne C 203 dX7_vote_195 (by decide) (fun c21 => ?_) (fun c21 => ?_)
                  · refine x_bipush C 7 dX7_vote_198 (by decide) ?_
                    refine x_goto C 209 dX7_vote_200 (by decide) ?_
                    refine x_lsub (L' := [(0, .ref (q 0)), (1, .int (nI xm)), (2, .int (nI xk)), (3, .int (nI ((18 * xm) + xk))), (4, .int b7.1), (5, .int b7.2), (6, .int 0)]) [1, 2, 3, 4, 5, 6, 0] rfl ?_
                    exact J31 7
                  · refine x_iconst C 1 dX7_vote_203 (by decide) ?_
                    refine x_iload C dX7_vote_204 0 rfl ?_
                    refine x_ishl C dX7_vote_206 ?_
                    refine x_top 1 (by decide) ?_
                    refine x_iconst C (-1) dX7_vote_207 (by decide) ?_
                    refine x_ixor C dX7_vote_208 ?_
                    refine x_top (-2) (by decide) ?_
                    refine x_lsub (L' := [(0, .ref (q 0)), (1, .int (nI xm)), (2, .int (nI xk)), (3, .int (nI ((18 * xm) + xk))), (4, .int b7.1), (5, .int b7.2), (6, .int 0)]) [1, 2, 3, 4, 5, 6, 0] rfl ?_
                    exact J31 (-2)
              · exact x_vret C rfl dX7_vote_217 rfl
            · refine x_icmp_le C 154 dX7_vote_147 (by decide) (fun c18 => ?_) (fun c18 => ?_)
              · refine x_iconst C 1 dX7_vote_150 (by decide) ?_
                refine x_goto C 155 dX7_vote_151 (by decide) ?_
                refine x_lsub (L' := [(0, .ref (q 0)), (1, .int (nI xm)), (2, .int (nI xk)), (3, .int (nI ((18 * xm) + xk))), (4, .int b7.1), (5, .int b7.2), (6, .int 3)]) [1, 2, 3, 4, 5, 6, 0] rfl ?_
                exact J32 true
              · refine x_iconst C 0 dX7_vote_154 (by decide) ?_
                refine x_lsub (L' := [(0, .ref (q 0)), (1, .int (nI xm)), (2, .int (nI xk)), (3, .int (nI ((18 * xm) + xk))), (4, .int b7.1), (5, .int b7.2), (6, .int 3)]) [1, 2, 3, 4, 5, 6, 0] rfl ?_
                exact J32 false
        · refine x_icmp_ne C 62 dX7_vote_44 (by decide) (fun c6 => ?_) (fun c6 => ?_)
          · refine x_iinc (L' := [(5, .int (b5.2 + 1)), (6, .int 2), (0, .ref (q 0)), (1, .int (nI xm)), (2, .int (nI xk)), (3, .int (nI ((18 * xm) + xk))), (4, .int b5.1)]) C (b5.2 + 1) dX7_vote_47 6 rfl rfl (by decide) rfl ?_
            refine x_iload C dX7_vote_50 6 rfl ?_
            refine x_aload_n C dX7_vote_52 2 rfl ?_
            refine x_iload_n C dX7_vote_53 4 rfl ?_
            refine x_iload C dX7_vote_54 1 rfl ?_
            refine x_cViW (q0 := 0) (As := [.int (nI xk), .int 2]) C mw_378 mw_379 mw_380 mw_337 mw_376 hd_X7_tell rfl rfl ⟨Nat.le_of_ble_eq_true rfl, Nat.le_of_ble_eq_true rfl⟩ rfl rfl rfl (c_X7_tell l D cI cZ cO q u xk 2 (by omega) (by omega)) rfl rfl (Nat.le_of_ble_eq_true rfl) (Nat.le_of_ble_eq_true rfl) (Nat.le_of_ble_eq_true rfl) dX7_vote_56 ?_
            refine x_iadd C dX7_vote_59 ?_
            refine x_istore (L' := [(4, .int (b5.1 + (f_X7_tell u xk 2))), (5, .int (b5.2 + 1)), (6, .int 2), (0, .ref (q 0)), (1, .int (nI xm)), (2, .int (nI xk)), (3, .int (nI ((18 * xm) + xk)))]) C dX7_vote_60 (by decide) rfl ?_
            refine x_lsub (L' := [(0, .ref (q 0)), (1, .int (nI xm)), (2, .int (nI xk)), (3, .int (nI ((18 * xm) + xk))), (4, .int (b5.1 + (f_X7_tell u xk 2))), (5, .int (b5.2 + 1)), (6, .int 2)]) [3, 4, 5, 6, 0, 1, 2] rfl ?_
            exact J33 (b5.1 + (f_X7_tell u xk 2), b5.2 + 1)
          · refine x_lsub (L' := [(0, .ref (q 0)), (1, .int (nI xm)), (2, .int (nI xk)), (3, .int (nI ((18 * xm) + xk))), (4, .int b5.1), (5, .int b5.2), (6, .int 2)]) [1, 2, 3, 4, 5, 6, 0] rfl ?_
            exact J33 (b5.1, b5.2)
      · refine x_icmp_ne C 62 dX7_vote_44 (by decide) (fun c4 => ?_) (fun c4 => ?_)
        · refine x_iinc (L' := [(5, .int ((b2i b3.2) + 1)), (6, .int 1), (0, .ref (q 0)), (1, .int (nI xm)), (2, .int (nI xk)), (3, .int (nI ((18 * xm) + xk))), (4, .int b3.1)]) C ((b2i b3.2) + 1) dX7_vote_47 6 rfl rfl (by decide) rfl ?_
          refine x_iload C dX7_vote_50 6 rfl ?_
          refine x_aload_n C dX7_vote_52 2 rfl ?_
          refine x_iload_n C dX7_vote_53 4 rfl ?_
          refine x_iload C dX7_vote_54 1 rfl ?_
          refine x_cViW (q0 := 0) (As := [.int (nI xk), .int 1]) C mw_378 mw_379 mw_380 mw_337 mw_376 hd_X7_tell rfl rfl ⟨Nat.le_of_ble_eq_true rfl, Nat.le_of_ble_eq_true rfl⟩ rfl rfl rfl (c_X7_tell l D cI cZ cO q u xk 1 (by omega) (by omega)) rfl rfl (Nat.le_of_ble_eq_true rfl) (Nat.le_of_ble_eq_true rfl) (Nat.le_of_ble_eq_true rfl) dX7_vote_56 ?_
          refine x_iadd C dX7_vote_59 ?_
          refine x_istore (L' := [(4, .int (b3.1 + (f_X7_tell u xk 1))), (5, .int ((b2i b3.2) + 1)), (6, .int 1), (0, .ref (q 0)), (1, .int (nI xm)), (2, .int (nI xk)), (3, .int (nI ((18 * xm) + xk)))]) C dX7_vote_60 (by decide) rfl ?_
          refine x_lsub (L' := [(0, .ref (q 0)), (1, .int (nI xm)), (2, .int (nI xk)), (3, .int (nI ((18 * xm) + xk))), (4, .int (b3.1 + (f_X7_tell u xk 1))), (5, .int ((b2i b3.2) + 1)), (6, .int 1)]) [3, 4, 5, 6, 0, 1, 2] rfl ?_
          exact J34 (b3.1 + (f_X7_tell u xk 1), (b2i b3.2) + 1)
        · refine x_lsub (L' := [(0, .ref (q 0)), (1, .int (nI xm)), (2, .int (nI xk)), (3, .int (nI ((18 * xm) + xk))), (4, .int b3.1), (5, .int (b2i b3.2)), (6, .int 1)]) [1, 2, 3, 4, 5, 6, 0] rfl ?_
          exact J34 (b3.1, b2i b3.2)
    · refine x_icmp_ne C 62 dX7_vote_44 (by decide) (fun c2 => ?_) (fun c2 => ?_)
      · refine x_iinc (L' := [(5, .int 1), (6, .int 0), (4, .int 0), (3, .int (nI ((18 * xm) + xk))), (0, .ref (q 0)), (1, .int (nI xm)), (2, .int (nI xk))]) C 1 dX7_vote_47 1 rfl (by decide) (by decide) rfl ?_
        refine x_iload C dX7_vote_50 2 rfl ?_
        refine x_aload_n C dX7_vote_52 4 rfl ?_
        refine x_iload_n C dX7_vote_53 6 rfl ?_
        refine x_iload C dX7_vote_54 1 rfl ?_
        refine x_cViW (q0 := 0) (As := [.int (nI xk), .int 0]) C mw_378 mw_379 mw_380 mw_337 mw_376 hd_X7_tell rfl rfl ⟨Nat.le_of_ble_eq_true rfl, Nat.le_of_ble_eq_true rfl⟩ rfl rfl rfl (c_X7_tell l D cI cZ cO q u xk 0 (by omega) (by omega)) rfl rfl (Nat.le_of_ble_eq_true rfl) (Nat.le_of_ble_eq_true rfl) (Nat.le_of_ble_eq_true rfl) dX7_vote_56 ?_
        refine x_iadd C dX7_vote_59 ?_
        refine x_istore (L' := [(4, .int (0 + (f_X7_tell u xk 0))), (5, .int 1), (6, .int 0), (3, .int (nI ((18 * xm) + xk))), (0, .ref (q 0)), (1, .int (nI xm)), (2, .int (nI xk))]) C dX7_vote_60 (by decide) rfl ?_
        refine x_lsub (L' := [(0, .ref (q 0)), (1, .int (nI xm)), (2, .int (nI xk)), (3, .int (nI ((18 * xm) + xk))), (4, .int (0 + (f_X7_tell u xk 0))), (5, .int 1), (6, .int 0)]) [4, 5, 6, 3, 0, 1, 2] rfl ?_
        exact J35 (0 + (f_X7_tell u xk 0), true)
      · refine x_lsub (L' := [(0, .ref (q 0)), (1, .int (nI xm)), (2, .int (nI xk)), (3, .int (nI ((18 * xm) + xk))), (4, .int 0), (5, .int 0), (6, .int 0)]) [4, 5, 6, 3, 2, 1, 0] rfl ?_
        exact J35 (0, false)
  · exact x_vret C rfl dX7_vote_16 rfl
def f_X7_all (u : St) (xm : Nat) (xf : Nat) : Bool := if (((u 25 ((18 * xm) + xf)) + (u 25 (((18 * xm) + xf) + 1))) + (u 25 (((18 * xm) + xf) + 2))) = 3 then true else false
theorem hd_X7_all : yX7_all.cls ≠ "java/lang/invoke/MethodHandle" ∧ yX7_all.cls ≠ "java/lang/invoke/VarHandle" ∧ (parseMethodDescriptor yX7_all.desc).map (fun d => d.parameters.length) = some 2 := by decide +kernel
set_option maxHeartbeats 4000000 in
set_option maxRecDepth 100000 in
theorem c_X7_all (l : Launch) (D : va_G) (cI cZ cO : ClassId) (q : Nat → Nat) (u : St) (xm : Nat) (xf : Nat) (hy0 : xm < 2) (hy1 : xf + 2 < 18) : CTi l D (T3 cI cZ cO) yX7_all (Cond.code yX7_all cX7_all 3 (some .boolean) :: WA) ({ frames := 0, cells := 0, slots := 0, locals := 0 } : Room) [.ref (q 0), .int (nI xm), .int (nI xf)] (wX7 cI cZ cO q u) (b2i (f_X7_all u xm xf)) (wX7 cI cZ cO q u) := by
  refine ct_i (K := fun z => z) (t := f_X7_all u xm xf) (rf := fun o => b2i o) (wf := fun o => wX7 cI cZ cO q u) (own := RX7) (nm := "all") (L0 := [(0, .ref (q 0)), (1, .int (nI xm)), (2, .int (nI xf))]) (plainFor_of_name (by decide +kernel)) rfl rfl (Nat.le_of_ble_eq_true rfl) rfl ?_
  intro p e s m args below meth c A C
  unfold f_X7_all
  refine x_aload_n C dX7_all_0 0 rfl ?_
  refine x_get (v := .ref (q 16)) C hwsX70 25 mw_353 0 rfl rfl (by decide) rfl rfl dX7_all_1 ?_
  refine x_bipush C 18 dX7_all_4 (by decide) ?_
  refine x_iload_n C dX7_all_6 1 rfl ?_
  refine x_imul C dX7_all_7 ?_
  refine x_top (nI (18 * xm)) (pk_mul _ _) ?_
  refine x_iload_n C dX7_all_8 2 rfl ?_
  refine x_iadd C dX7_all_9 ?_
  refine x_top (nI ((18 * xm) + xf)) (nI_add _ _) ?_
  refine x_iald C 16 0 rfl rfl ((18 * xm) + xf) rfl (by omega) (by decide) (u 25 ((18 * xm) + xf)) rfl dX7_all_10 ?_
  refine x_aload_n C dX7_all_11 0 rfl ?_
  refine x_get (v := .ref (q 16)) C hwsX70 25 mw_353 0 rfl rfl (by decide) rfl rfl dX7_all_12 ?_
  refine x_bipush C 18 dX7_all_15 (by decide) ?_
  refine x_iload_n C dX7_all_17 1 rfl ?_
  refine x_imul C dX7_all_18 ?_
  refine x_top (nI (18 * xm)) (pk_mul _ _) ?_
  refine x_iload_n C dX7_all_19 2 rfl ?_
  refine x_iadd C dX7_all_20 ?_
  refine x_top (nI ((18 * xm) + xf)) (nI_add _ _) ?_
  refine x_iconst C 1 dX7_all_21 (by decide) ?_
  refine x_iadd C dX7_all_22 ?_
  refine x_top (nI (((18 * xm) + xf) + 1)) (nI_add _ _) ?_
  refine x_iald C 16 0 rfl rfl (((18 * xm) + xf) + 1) rfl (by omega) (by decide) (u 25 (((18 * xm) + xf) + 1)) rfl dX7_all_23 ?_
  refine x_iadd C dX7_all_24 ?_
  refine x_aload_n C dX7_all_25 0 rfl ?_
  refine x_get (v := .ref (q 16)) C hwsX70 25 mw_353 0 rfl rfl (by decide) rfl rfl dX7_all_26 ?_
  refine x_bipush C 18 dX7_all_29 (by decide) ?_
  refine x_iload_n C dX7_all_31 1 rfl ?_
  refine x_imul C dX7_all_32 ?_
  refine x_top (nI (18 * xm)) (pk_mul _ _) ?_
  refine x_iload_n C dX7_all_33 2 rfl ?_
  refine x_iadd C dX7_all_34 ?_
  refine x_top (nI ((18 * xm) + xf)) (nI_add _ _) ?_
  refine x_iconst C 2 dX7_all_35 (by decide) ?_
  refine x_iadd C dX7_all_36 ?_
  refine x_top (nI (((18 * xm) + xf) + 2)) (nI_add _ _) ?_
  refine x_iald C 16 0 rfl rfl (((18 * xm) + xf) + 2) rfl (by omega) (by decide) (u 25 (((18 * xm) + xf) + 2)) rfl dX7_all_37 ?_
  refine x_iadd C dX7_all_38 ?_
  refine x_iconst C 3 dX7_all_39 (by decide) ?_
  refine x_icmp_ne C 47 dX7_all_40 (by decide) (fun c1 => ?_) (fun c1 => ?_)
  · refine x_iconst C 1 dX7_all_43 (by decide) ?_
    refine x_goto C 48 dX7_all_44 (by decide) ?_
    exact x_zret C rfl (by decide) dX7_all_48 rfl rfl
  · refine x_iconst C 0 dX7_all_47 (by decide) ?_
    exact x_zret C rfl (by decide) dX7_all_48 rfl rfl
def f_X7_some (u : St) (xm : Nat) (xf : Nat) : Bool := if 0 < (((u 25 ((18 * xm) + xf)) + (u 25 (((18 * xm) + xf) + 1))) + (u 25 (((18 * xm) + xf) + 2))) then true else false
theorem hd_X7_some : yX7_some.cls ≠ "java/lang/invoke/MethodHandle" ∧ yX7_some.cls ≠ "java/lang/invoke/VarHandle" ∧ (parseMethodDescriptor yX7_some.desc).map (fun d => d.parameters.length) = some 2 := by decide +kernel
set_option maxHeartbeats 4000000 in
set_option maxRecDepth 100000 in
theorem c_X7_some (l : Launch) (D : va_G) (cI cZ cO : ClassId) (q : Nat → Nat) (u : St) (xm : Nat) (xf : Nat) (hy0 : xm < 2) (hy1 : xf + 2 < 18) : CTi l D (T3 cI cZ cO) yX7_some (Cond.code yX7_some cX7_some 3 (some .boolean) :: WA) ({ frames := 0, cells := 0, slots := 0, locals := 0 } : Room) [.ref (q 0), .int (nI xm), .int (nI xf)] (wX7 cI cZ cO q u) (b2i (f_X7_some u xm xf)) (wX7 cI cZ cO q u) := by
  refine ct_i (K := fun z => z) (t := f_X7_some u xm xf) (rf := fun o => b2i o) (wf := fun o => wX7 cI cZ cO q u) (own := RX7) (nm := "some") (L0 := [(0, .ref (q 0)), (1, .int (nI xm)), (2, .int (nI xf))]) (plainFor_of_name (by decide +kernel)) rfl rfl (Nat.le_of_ble_eq_true rfl) rfl ?_
  intro p e s m args below meth c A C
  unfold f_X7_some
  refine x_aload_n C dX7_some_0 0 rfl ?_
  refine x_get (v := .ref (q 16)) C hwsX70 25 mw_353 0 rfl rfl (by decide) rfl rfl dX7_some_1 ?_
  refine x_bipush C 18 dX7_some_4 (by decide) ?_
  refine x_iload_n C dX7_some_6 1 rfl ?_
  refine x_imul C dX7_some_7 ?_
  refine x_top (nI (18 * xm)) (pk_mul _ _) ?_
  refine x_iload_n C dX7_some_8 2 rfl ?_
  refine x_iadd C dX7_some_9 ?_
  refine x_top (nI ((18 * xm) + xf)) (nI_add _ _) ?_
  refine x_iald C 16 0 rfl rfl ((18 * xm) + xf) rfl (by omega) (by decide) (u 25 ((18 * xm) + xf)) rfl dX7_some_10 ?_
  refine x_aload_n C dX7_some_11 0 rfl ?_
  refine x_get (v := .ref (q 16)) C hwsX70 25 mw_353 0 rfl rfl (by decide) rfl rfl dX7_some_12 ?_
  refine x_bipush C 18 dX7_some_15 (by decide) ?_
  refine x_iload_n C dX7_some_17 1 rfl ?_
  refine x_imul C dX7_some_18 ?_
  refine x_top (nI (18 * xm)) (pk_mul _ _) ?_
  refine x_iload_n C dX7_some_19 2 rfl ?_
  refine x_iadd C dX7_some_20 ?_
  refine x_top (nI ((18 * xm) + xf)) (nI_add _ _) ?_
  refine x_iconst C 1 dX7_some_21 (by decide) ?_
  refine x_iadd C dX7_some_22 ?_
  refine x_top (nI (((18 * xm) + xf) + 1)) (nI_add _ _) ?_
  refine x_iald C 16 0 rfl rfl (((18 * xm) + xf) + 1) rfl (by omega) (by decide) (u 25 (((18 * xm) + xf) + 1)) rfl dX7_some_23 ?_
  refine x_iadd C dX7_some_24 ?_
  refine x_aload_n C dX7_some_25 0 rfl ?_
  refine x_get (v := .ref (q 16)) C hwsX70 25 mw_353 0 rfl rfl (by decide) rfl rfl dX7_some_26 ?_
  refine x_bipush C 18 dX7_some_29 (by decide) ?_
  refine x_iload_n C dX7_some_31 1 rfl ?_
  refine x_imul C dX7_some_32 ?_
  refine x_top (nI (18 * xm)) (pk_mul _ _) ?_
  refine x_iload_n C dX7_some_33 2 rfl ?_
  refine x_iadd C dX7_some_34 ?_
  refine x_top (nI ((18 * xm) + xf)) (nI_add _ _) ?_
  refine x_iconst C 2 dX7_some_35 (by decide) ?_
  refine x_iadd C dX7_some_36 ?_
  refine x_top (nI (((18 * xm) + xf) + 2)) (nI_add _ _) ?_
  refine x_iald C 16 0 rfl rfl (((18 * xm) + xf) + 2) rfl (by omega) (by decide) (u 25 (((18 * xm) + xf) + 2)) rfl dX7_some_37 ?_
  refine x_iadd C dX7_some_38 ?_
  refine x_if_le C 46 dX7_some_39 (by decide) (fun c1 => ?_) (fun c1 => ?_)
  · refine x_iconst C 1 dX7_some_42 (by decide) ?_
    refine x_goto C 47 dX7_some_43 (by decide) ?_
    exact x_zret C rfl (by decide) dX7_some_47 rfl rfl
  · refine x_iconst C 0 dX7_some_46 (by decide) ?_
    exact x_zret C rfl (by decide) dX7_some_47 rfl rfl
def f_X7_orders (u : St) (xm : Nat) : Int32 := if (u 21 xm) = 1 then 0 else (if 0 < (u 19 xm) then 0 else (if (u 16 xm) = 0 then 0 else (if (u 16 xm) = 1 then 1 else (if (u 16 xm) = 2 then 3 else (if (u 16 xm) = 3 then (if (u 18 xm) = 1 then 11 else 19) else (if (u 16 xm) = 4 then 3 else (if (u 16 xm) = 5 then 1 else (if (u 16 xm) = 6 then 5 else 1))))))))
theorem hd_X7_orders : yX7_orders.cls ≠ "java/lang/invoke/MethodHandle" ∧ yX7_orders.cls ≠ "java/lang/invoke/VarHandle" ∧ (parseMethodDescriptor yX7_orders.desc).map (fun d => d.parameters.length) = some 1 := by decide +kernel
set_option maxHeartbeats 4000000 in
set_option maxRecDepth 100000 in
theorem c_X7_orders (l : Launch) (D : va_G) (cI cZ cO : ClassId) (q : Nat → Nat) (u : St) (xm : Nat) (hy0 : xm < 2) : CTi l D (T3 cI cZ cO) yX7_orders (Cond.code yX7_orders cX7_orders 2 (some .int) :: WA) ({ frames := 0, cells := 0, slots := 0, locals := 0 } : Room) [.ref (q 0), .int (nI xm)] (wX7 cI cZ cO q u) ((f_X7_orders u xm)) (wX7 cI cZ cO q u) := by
  refine ct_i (K := fun z => z) (t := f_X7_orders u xm) (rf := fun o => o) (wf := fun o => wX7 cI cZ cO q u) (own := RX7) (nm := "orders") (L0 := [(0, .ref (q 0)), (1, .int (nI xm))]) (plainFor_of_name (by decide +kernel)) rfl rfl (Nat.le_of_ble_eq_true rfl) rfl ?_
  intro p e s m args below meth c A C
  unfold f_X7_orders
  refine x_aload_n C dX7_orders_0 0 rfl ?_
  refine x_get (v := .ref (q 12)) C hwsX70 21 mw_349 0 rfl rfl (by decide) rfl rfl dX7_orders_1 ?_
  refine x_iload_n C dX7_orders_4 1 rfl ?_
  refine x_iald C 12 0 rfl rfl xm rfl (by omega) (by decide) (u 21 xm) rfl dX7_orders_5 ?_
  refine x_iconst C 1 dX7_orders_6 (by decide) ?_
  refine x_icmp_eq C 19 dX7_orders_7 (by decide) (fun c1 => ?_) (fun c1 => ?_)
  · refine x_iconst C 0 dX7_orders_19 (by decide) ?_
    exact x_iret C rfl dX7_orders_20 rfl rfl
  · refine x_aload_n C dX7_orders_10 0 rfl ?_
    refine x_get (v := .ref (q 10)) C hwsX70 19 mw_346 0 rfl rfl (by decide) rfl rfl dX7_orders_11 ?_
    refine x_iload_n C dX7_orders_14 1 rfl ?_
    refine x_iald C 10 0 rfl rfl xm rfl (by omega) (by decide) (u 19 xm) rfl dX7_orders_15 ?_
    refine x_if_le C 21 dX7_orders_16 (by decide) (fun c2 => ?_) (fun c2 => ?_)
    · refine x_iconst C 0 dX7_orders_19 (by decide) ?_
      exact x_iret C rfl dX7_orders_20 rfl rfl
    · refine x_aload_n C dX7_orders_21 0 rfl ?_
      refine x_get (v := .ref (q 7)) C hwsX70 16 mw_343 0 rfl rfl (by decide) rfl rfl dX7_orders_22 ?_
      refine x_iload_n C dX7_orders_25 1 rfl ?_
      refine x_iald C 7 0 rfl rfl xm rfl (by omega) (by decide) (u 16 xm) rfl dX7_orders_26 ?_
      refine x_split (fun c3 => ?_) (fun c3 => ?_)
      · refine x_tsI C 0 68 dX7_orders_27 (i_eq c3 (by decide : (0 : Int32).toInt = 0)) (by decide) (by decide) rfl (by decide) ?_
        refine x_iconst C 0 dX7_orders_68 (by decide) ?_
        exact x_iret C rfl dX7_orders_69 rfl rfl
      · refine x_split (fun c4 => ?_) (fun c4 => ?_)
        · refine x_tsI C 1 92 dX7_orders_27 (i_eq c4 (by decide : (1 : Int32).toInt = 1)) (by decide) (by decide) rfl (by decide) ?_
          refine x_iconst C 1 dX7_orders_92 (by decide) ?_
          exact x_iret C rfl dX7_orders_93 rfl rfl
        · refine x_split (fun c5 => ?_) (fun c5 => ?_)
          · refine x_tsI C 2 70 dX7_orders_27 (i_eq c5 (by decide : (2 : Int32).toInt = 2)) (by decide) (by decide) rfl (by decide) ?_
            refine x_iconst C 3 dX7_orders_70 (by decide) ?_
            exact x_iret C rfl dX7_orders_71 rfl rfl
          · refine x_split (fun c6 => ?_) (fun c6 => ?_)
            · refine x_tsI C 3 72 dX7_orders_27 (i_eq c6 (by decide : (3 : Int32).toInt = 3)) (by decide) (by decide) rfl (by decide) ?_
              refine x_aload_n C dX7_orders_72 0 rfl ?_
              refine x_get (v := .ref (q 9)) C hwsX70 18 mw_345 0 rfl rfl (by decide) rfl rfl dX7_orders_73 ?_
              refine x_iload_n C dX7_orders_76 1 rfl ?_
              refine x_iald C 9 0 rfl rfl xm rfl (by omega) (by decide) (u 18 xm) rfl dX7_orders_77 ?_
              refine x_iconst C 1 dX7_orders_78 (by decide) ?_
              refine x_icmp_ne C 87 dX7_orders_79 (by decide) (fun c10 => ?_) (fun c10 => ?_)
              · refine x_bipush C 11 dX7_orders_82 (by decide) ?_
                refine x_goto C 89 dX7_orders_84 (by decide) ?_
                exact x_iret C rfl dX7_orders_89 rfl rfl
              · refine x_bipush C 19 dX7_orders_87 (by decide) ?_
                exact x_iret C rfl dX7_orders_89 rfl rfl
            · refine x_split (fun c7 => ?_) (fun c7 => ?_)
              · refine x_tsI C 4 70 dX7_orders_27 (i_eq c7 (by decide : (4 : Int32).toInt = 4)) (by decide) (by decide) rfl (by decide) ?_
                refine x_iconst C 3 dX7_orders_70 (by decide) ?_
                exact x_iret C rfl dX7_orders_71 rfl rfl
              · refine x_split (fun c8 => ?_) (fun c8 => ?_)
                · refine x_tsI C 5 92 dX7_orders_27 (i_eq c8 (by decide : (5 : Int32).toInt = 5)) (by decide) (by decide) rfl (by decide) ?_
                  refine x_iconst C 1 dX7_orders_92 (by decide) ?_
                  exact x_iret C rfl dX7_orders_93 rfl rfl
                · refine x_split (fun c9 => ?_) (fun c9 => ?_)
                  · refine x_tsI C 6 90 dX7_orders_27 (i_eq c9 (by decide : (6 : Int32).toInt = 6)) (by decide) (by decide) rfl (by decide) ?_
                    refine x_iconst C 5 dX7_orders_90 (by decide) ?_
                    exact x_iret C rfl dX7_orders_91 rfl rfl
                  · refine x_tsO C 92 dX7_orders_27 (by have g0 := i_ne c3 (by decide : (0 : Int32).toInt = 0); have g1 := i_ne c4 (by decide : (1 : Int32).toInt = 1); have g2 := i_ne c5 (by decide : (2 : Int32).toInt = 2); have g3 := i_ne c6 (by decide : (3 : Int32).toInt = 3); have g4 := i_ne c7 (by decide : (4 : Int32).toInt = 4); have g5 := i_ne c8 (by decide : (5 : Int32).toInt = 5); have g6 := i_ne c9 (by decide : (6 : Int32).toInt = 6); omega) (by decide) ?_
                    refine x_iconst C 1 dX7_orders_92 (by decide) ?_
                    exact x_iret C rfl dX7_orders_93 rfl rfl
def f_X7_ordered (u : St) : Int32 := (f_X7_orders u 0) ||| (f_X7_orders u 1)
theorem hd_X7_ordered : yX7_ordered.cls ≠ "java/lang/invoke/MethodHandle" ∧ yX7_ordered.cls ≠ "java/lang/invoke/VarHandle" ∧ (parseMethodDescriptor yX7_ordered.desc).map (fun d => d.parameters.length) = some 0 := by decide +kernel
set_option maxHeartbeats 4000000 in
set_option maxRecDepth 100000 in
theorem c_X7_ordered (l : Launch) (D : va_G) (cI cZ cO : ClassId) (q : Nat → Nat) (u : St)  : CTi l D (T3 cI cZ cO) yX7_ordered (Cond.code yX7_ordered cX7_ordered 1 (some .int) :: WA) ({ frames := 1, cells := 0, slots := 0, locals := 21 } : Room) [.ref (q 0)] (wX7 cI cZ cO q u) ((f_X7_ordered u)) (wX7 cI cZ cO q u) := by
  refine ct_i (K := fun z => z) (t := f_X7_ordered u) (rf := fun o => o) (wf := fun o => wX7 cI cZ cO q u) (own := RX7) (nm := "ordered") (L0 := [(0, .ref (q 0))]) (plainFor_of_name (by decide +kernel)) rfl rfl (Nat.le_of_ble_eq_true rfl) rfl ?_
  intro p e s m args below meth c A C
  unfold f_X7_ordered
  refine x_aload_n C dX7_ordered_0 0 rfl ?_
  refine x_iconst C 0 dX7_ordered_1 (by decide) ?_
  refine x_cViW (q0 := 0) (As := [.int 0]) C mw_385 mw_386 mw_387 mw_337 mw_383 hd_X7_orders rfl rfl ⟨Nat.le_of_ble_eq_true rfl, Nat.le_of_ble_eq_true rfl⟩ rfl rfl rfl (c_X7_orders l D cI cZ cO q u 0 (by omega)) rfl rfl (Nat.le_of_ble_eq_true rfl) (Nat.le_of_ble_eq_true rfl) (Nat.le_of_ble_eq_true rfl) dX7_ordered_2 ?_
  refine x_aload_n C dX7_ordered_5 0 rfl ?_
  refine x_iconst C 1 dX7_ordered_6 (by decide) ?_
  refine x_cViW (q0 := 0) (As := [.int 1]) C mw_385 mw_386 mw_387 mw_337 mw_383 hd_X7_orders rfl rfl ⟨Nat.le_of_ble_eq_true rfl, Nat.le_of_ble_eq_true rfl⟩ rfl rfl rfl (c_X7_orders l D cI cZ cO q u 1 (by omega)) rfl rfl (Nat.le_of_ble_eq_true rfl) (Nat.le_of_ble_eq_true rfl) (Nat.le_of_ble_eq_true rfl) dX7_ordered_7 ?_
  refine x_ior C dX7_ordered_10 ?_
  exact x_iret C rfl dX7_ordered_11 rfl rfl
def f_X7_note (u : St) (xm : Nat) (xw : Int32) : St := put (put (put (put u 30 (3 * (ixn ((u 29 0) - (u 29 0) / 64 * 64))) (u 6 0)) 30 ((3 * (ixn ((u 29 0) - (u 29 0) / 64 * 64))) + 1) (nI xm)) 30 ((3 * (ixn ((u 29 0) - (u 29 0) / 64 * 64))) + 2) xw) 29 0 ((u 29 0) + 1)
theorem hd_X7_note : yX7_note.cls ≠ "java/lang/invoke/MethodHandle" ∧ yX7_note.cls ≠ "java/lang/invoke/VarHandle" ∧ (parseMethodDescriptor yX7_note.desc).map (fun d => d.parameters.length) = some 2 := by decide +kernel
set_option maxHeartbeats 4000000 in
set_option maxRecDepth 100000 in
theorem c_X7_note (l : Launch) (D : va_G) (cI cZ cO : ClassId) (q : Nat → Nat) (u : St) (xm : Nat) (xw : Int32) (hy0 : LB 0 u) : CTv l D (T3 cI cZ cO) yX7_note (Cond.code yX7_note cX7_note 4 none :: WA) ({ frames := 0, cells := 0, slots := 0, locals := 0 } : Room) [.ref (q 0), .int (nI xm), .int xw] (wX7 cI cZ cO q u) (wX7 cI cZ cO q (f_X7_note u xm xw)) := by
  refine ct_v (K := fun z => z) (t := f_X7_note u xm xw) (wf := fun o => wX7 cI cZ cO q o) (own := RX7) (nm := "note") (L0 := [(0, .ref (q 0)), (1, .int (nI xm)), (2, .int xw)]) (plainFor_of_name (by decide +kernel)) rfl rfl (Nat.le_of_ble_eq_true rfl) rfl ?_
  intro p e s m args below meth c A C
  unfold f_X7_note
  refine x_aload_n C dX7_note_0 0 rfl ?_
  refine x_get (v := .int (u 29 0)) C hwsX70 29 mw_389 0 rfl rfl (by decide) rfl rfl dX7_note_1 ?_
  refine x_bipush C 64 dX7_note_4 (by decide) ?_
  refine x_irem C dX7_note_6 (by first | decide | assumption) ?_
  have hN1 := rem64 (LB_nn (by assumption : LB 0 u))
  refine x_top (nI (ixn ((u 29 0) - (u 29 0) / 64 * 64))) hN1.1 ?_
  refine x_istore_n (L' := [(3, .int (nI (ixn ((u 29 0) - (u 29 0) / 64 * 64)))), (0, .ref (q 0)), (1, .int (nI xm)), (2, .int xw)]) C dX7_note_7 (by decide) rfl ?_
  refine x_aload_n C dX7_note_8 1 rfl ?_
  refine x_get (v := .ref (q 20)) C hwsX70 30 mw_356 0 rfl rfl (by decide) rfl rfl dX7_note_9 ?_
  refine x_iconst C 3 dX7_note_12 (by decide) ?_
  refine x_iload_n C dX7_note_13 0 rfl ?_
  refine x_imul C dX7_note_14 ?_
  refine x_top (nI (3 * (ixn ((u 29 0) - (u 29 0) / 64 * 64)))) (pk_mul _ _) ?_
  refine x_aload_n C dX7_note_15 1 rfl ?_
  refine x_get (v := .int (u 6 0)) C hwsX70 6 mw_390 0 rfl rfl (by decide) rfl rfl dX7_note_16 ?_
  refine x_iast (ws' := wX7 cI cZ cO q (put u 30 (3 * (ixn ((u 29 0) - (u 29 0) / 64 * 64))) (u 6 0))) C 20 0 rfl rfl (3 * (ixn ((u 29 0) - (u 29 0) / 64 * 64))) rfl (by omega) (by decide) dX7_note_19 rfl ?_
  refine x_aload_n C dX7_note_20 1 rfl ?_
  refine x_get (v := .ref (q 20)) C hwsX70 30 mw_356 0 rfl rfl (by decide) rfl rfl dX7_note_21 ?_
  refine x_iconst C 3 dX7_note_24 (by decide) ?_
  refine x_iload_n C dX7_note_25 0 rfl ?_
  refine x_imul C dX7_note_26 ?_
  refine x_top (nI (3 * (ixn ((u 29 0) - (u 29 0) / 64 * 64)))) (pk_mul _ _) ?_
  refine x_iconst C 1 dX7_note_27 (by decide) ?_
  refine x_iadd C dX7_note_28 ?_
  refine x_top (nI ((3 * (ixn ((u 29 0) - (u 29 0) / 64 * 64))) + 1)) (nI_add _ _) ?_
  refine x_iload_n C dX7_note_29 2 rfl ?_
  refine x_iast (ws' := wX7 cI cZ cO q (put (put u 30 (3 * (ixn ((u 29 0) - (u 29 0) / 64 * 64))) (u 6 0)) 30 ((3 * (ixn ((u 29 0) - (u 29 0) / 64 * 64))) + 1) (nI xm))) C 20 0 rfl rfl ((3 * (ixn ((u 29 0) - (u 29 0) / 64 * 64))) + 1) rfl (by omega) (by decide) dX7_note_30 rfl ?_
  refine x_aload_n C dX7_note_31 1 rfl ?_
  refine x_get (v := .ref (q 20)) C hwsX70 30 mw_356 0 rfl rfl (by decide) rfl rfl dX7_note_32 ?_
  refine x_iconst C 3 dX7_note_35 (by decide) ?_
  refine x_iload_n C dX7_note_36 0 rfl ?_
  refine x_imul C dX7_note_37 ?_
  refine x_top (nI (3 * (ixn ((u 29 0) - (u 29 0) / 64 * 64)))) (pk_mul _ _) ?_
  refine x_iconst C 2 dX7_note_38 (by decide) ?_
  refine x_iadd C dX7_note_39 ?_
  refine x_top (nI ((3 * (ixn ((u 29 0) - (u 29 0) / 64 * 64))) + 2)) (nI_add _ _) ?_
  refine x_iload_n C dX7_note_40 3 rfl ?_
  refine x_iast (ws' := wX7 cI cZ cO q (put (put (put u 30 (3 * (ixn ((u 29 0) - (u 29 0) / 64 * 64))) (u 6 0)) 30 ((3 * (ixn ((u 29 0) - (u 29 0) / 64 * 64))) + 1) (nI xm)) 30 ((3 * (ixn ((u 29 0) - (u 29 0) / 64 * 64))) + 2) xw)) C 20 0 rfl rfl ((3 * (ixn ((u 29 0) - (u 29 0) / 64 * 64))) + 2) rfl (by omega) (by decide) dX7_note_41 rfl ?_
  refine x_aload_n C dX7_note_42 1 rfl ?_
  refine x_dup C dX7_note_43 rfl ?_
  refine x_get (v := .int (u 29 0)) C hwsX70 29 mw_389 0 rfl rfl (by decide) rfl rfl dX7_note_44 ?_
  refine x_iconst C 1 dX7_note_47 (by decide) ?_
  refine x_iadd C dX7_note_48 ?_
  refine x_put (ws' := wX7 cI cZ cO q (put (put (put (put u 30 (3 * (ixn ((u 29 0) - (u 29 0) / 64 * 64))) (u 6 0)) 30 ((3 * (ixn ((u 29 0) - (u 29 0) / 64 * 64))) + 1) (nI xm)) 30 ((3 * (ixn ((u 29 0) - (u 29 0) / 64 * 64))) + 2) xw) 29 0 ((u 29 0) + 1))) C hwsX70 tyX7 tyX7_ok nmX7 29 mw_389 0 rfl rfl (by decide) rfl rfl rfl rfl (Nat.le_of_ble_eq_true rfl) dX7_note_49 rfl ?_
  exact x_vret C rfl dX7_note_52 rfl
def f_X7_press_k53 (u : St) (xk : Nat) (b4 : Int32) : St := put u 10 xk b4
def f_X7_press_k25 (u : St) (xk : Nat) (b2 : Int32) : St := f_X7_press_k53 u xk (if 360 < b2 then 360 else (if b2 < 0 then 0 else b2))
def f_X7_press (u : St) (xk : Nat) (xf : Bool) : St := f_X7_press_k25 u xk (if xf = true then ((u 10 xk) + 36) else ((u 10 xk) - 10))
theorem hd_X7_press : yX7_press.cls ≠ "java/lang/invoke/MethodHandle" ∧ yX7_press.cls ≠ "java/lang/invoke/VarHandle" ∧ (parseMethodDescriptor yX7_press.desc).map (fun d => d.parameters.length) = some 2 := by decide +kernel
set_option maxHeartbeats 4000000 in
set_option maxRecDepth 100000 in
theorem c_X7_press (l : Launch) (D : va_G) (cI cZ cO : ClassId) (q : Nat → Nat) (u : St) (xk : Nat) (xf : Bool) (hy0 : xk < 5) : CTv l D (T3 cI cZ cO) yX7_press (Cond.code yX7_press cX7_press 4 none :: WA) ({ frames := 0, cells := 0, slots := 0, locals := 0 } : Room) [.ref (q 0), .int (nI xk), .int (b2i xf)] (wX7 cI cZ cO q u) (wX7 cI cZ cO q (f_X7_press u xk xf)) := by
  refine ct_v (K := fun z => z) (t := f_X7_press u xk xf) (wf := fun o => wX7 cI cZ cO q o) (own := RX7) (nm := "press") (L0 := [(0, .ref (q 0)), (1, .int (nI xk)), (2, .int (b2i xf))]) (plainFor_of_name (by decide +kernel)) rfl rfl (Nat.le_of_ble_eq_true rfl) rfl ?_
  intro p e s m args below meth c A C
  unfold f_X7_press
  refine x_iload_n C dX7_press_0 2 rfl ?_
  refine x_join (fun (b2 : Int32) => f_X7_press_k25 u xk b2) 25 (fun (b2 : Int32) => [(0, .ref (q 0)), (1, .int (nI xk)), (2, .int (b2i xf))]) (fun (b2 : Int32) => [.int b2]) (fun (b2 : Int32) => wX7 cI cZ cO q u) (fun b2 => ?_) _ (fun J7 => ?_)
  · unfold f_X7_press_k25
    refine x_istore_n (L' := [(3, .int b2), (0, .ref (q 0)), (1, .int (nI xk)), (2, .int (b2i xf))]) C dX7_press_25 (by decide) rfl ?_
    refine x_aload_n C dX7_press_26 1 rfl ?_
    refine x_get (v := .ref (q 1)) C hwsX70 10 mw_328 0 rfl rfl (by decide) rfl rfl dX7_press_27 ?_
    refine x_iload_n C dX7_press_30 2 rfl ?_
    refine x_iload_n C dX7_press_31 0 rfl ?_
    refine x_sipush C 360 dX7_press_32 (by decide) ?_
    refine x_join (fun (b4 : Int32) => f_X7_press_k53 u xk b4) 53 (fun (b4 : Int32) => [(0, .ref (q 0)), (1, .int (nI xk)), (2, .int (b2i xf)), (3, .int b2)]) (fun (b4 : Int32) => [.int b4, .int (nI xk), .ref (q 1)]) (fun (b4 : Int32) => wX7 cI cZ cO q u) (fun b4 => ?_) _ (fun J5 => ?_)
    · unfold f_X7_press_k53
      refine x_iast (ws' := wX7 cI cZ cO q (put u 10 xk b4)) C 1 0 rfl rfl xk rfl (by omega) (by decide) dX7_press_53 rfl ?_
      exact x_vret C rfl dX7_press_54 rfl
    · refine x_icmp_le C 44 dX7_press_35 (by decide) (fun c3 => ?_) (fun c3 => ?_)
      · refine x_sipush C 360 dX7_press_38 (by decide) ?_
        refine x_goto C 53 dX7_press_41 (by decide) ?_
        refine x_lsub (L' := [(0, .ref (q 0)), (1, .int (nI xk)), (2, .int (b2i xf)), (3, .int b2)]) [1, 2, 3, 0] rfl ?_
        exact J5 360
      · refine x_iload_n C dX7_press_44 0 rfl ?_
        refine x_if_ge C 52 dX7_press_45 (by decide) (fun c6 => ?_) (fun c6 => ?_)
        · refine x_iconst C 0 dX7_press_48 (by decide) ?_
          refine x_goto C 53 dX7_press_49 (by decide) ?_
          refine x_lsub (L' := [(0, .ref (q 0)), (1, .int (nI xk)), (2, .int (b2i xf)), (3, .int b2)]) [1, 2, 3, 0] rfl ?_
          exact J5 0
        · refine x_iload_n C dX7_press_52 0 rfl ?_
          refine x_lsub (L' := [(0, .ref (q 0)), (1, .int (nI xk)), (2, .int (b2i xf)), (3, .int b2)]) [1, 2, 3, 0] rfl ?_
          exact J5 b2
  · refine x_if_eqZ C 16 dX7_press_1 (by decide) (fun c1 => ?_) (fun c1 => ?_)
    · refine x_aload_n C dX7_press_4 0 rfl ?_
      refine x_get (v := .ref (q 1)) C hwsX70 10 mw_328 0 rfl rfl (by decide) rfl rfl dX7_press_5 ?_
      refine x_iload_n C dX7_press_8 1 rfl ?_
      refine x_iald C 1 0 rfl rfl xk rfl (by omega) (by decide) (u 10 xk) rfl dX7_press_9 ?_
      refine x_bipush C 36 dX7_press_10 (by decide) ?_
      refine x_iadd C dX7_press_12 ?_
      refine x_goto C 25 dX7_press_13 (by decide) ?_
      exact J7 ((u 10 xk) + 36)
    · refine x_aload_n C dX7_press_16 0 rfl ?_
      refine x_get (v := .ref (q 1)) C hwsX70 10 mw_328 0 rfl rfl (by decide) rfl rfl dX7_press_17 ?_
      refine x_iload_n C dX7_press_20 1 rfl ?_
      refine x_iald C 1 0 rfl rfl xk rfl (by omega) (by decide) (u 10 xk) rfl dX7_press_21 ?_
      refine x_bipush C 10 dX7_press_22 (by decide) ?_
      refine x_isub C dX7_press_24 ?_
      exact J7 ((u 10 xk) - 10)
def f_X7_move_k169 (u : St) (xk : Nat) (b6 : Bool) (b8 : Bool) (b13 : Bool) : St := put (put u 13 xk (((u 13 xk) + (b2i b6)) - (b2i b8))) 7 0 ((u 7 0) + (b2i b13))
def f_X7_move_k89 (u : St) (xk : Nat) (b6 : Bool) (b8 : Bool) : St := if (u 14 xk) = 0 then (if (f_X7_in (((u 13 xk) + (b2i b6)) - (b2i b8)) 0 (u 12 xk)) = true then (if (((u 13 xk) + (b2i b6)) - (b2i b8)) = (u 13 xk) then u else (f_X7_move_k169 u xk b6 b8 (if 2 < xk then (if ((put u 13 xk (((u 13 xk) + (b2i b6)) - (b2i b8))) 13 (xk - 3)) = (u 12 (xk - 3)) then false else true) else false))) else u) else u
def f_X7_move_k78 (u : St) (xk : Nat) (b4 : Bool) (b6 : Bool) : St := f_X7_move_k89 u xk b6 (if b4 = true then true else false)
def f_X7_move_k60 (u : St) (xk : Nat) (b2 : Bool) (b4 : Bool) : St := f_X7_move_k78 u xk b4 (if b2 = true then true else false)
def f_X7_move_k29 (u : St) (xk : Nat) (xu : Nat) (xd : Nat) (b2 : Bool) : St := f_X7_move_k60 u xk b2 (if (u 10 xd) = 360 then (if (u 10 xu) = 360 then false else true) else false)
def f_X7_move (u : St) (xk : Nat) (xu : Nat) (xd : Nat) : St := f_X7_move_k29 u xk xu xd (if (u 10 xu) = 360 then (if (u 10 xd) = 360 then false else true) else false)
theorem hd_X7_move : yX7_move.cls ≠ "java/lang/invoke/MethodHandle" ∧ yX7_move.cls ≠ "java/lang/invoke/VarHandle" ∧ (parseMethodDescriptor yX7_move.desc).map (fun d => d.parameters.length) = some 3 := by decide +kernel
set_option maxHeartbeats 4000000 in
set_option maxRecDepth 100000 in
theorem c_X7_move (l : Launch) (D : va_G) (cI cZ cO : ClassId) (q : Nat → Nat) (u : St) (xk : Nat) (xu : Nat) (xd : Nat) (hy0 : xk < 6) (hy1 : xu < 5) (hy2 : xd < 5) : CTv l D (T3 cI cZ cO) yX7_move (Cond.code yX7_move cX7_move 7 none :: WA) ({ frames := 1, cells := 0, slots := 0, locals := 22 } : Room) [.ref (q 0), .int (nI xk), .int (nI xu), .int (nI xd)] (wX7 cI cZ cO q u) (wX7 cI cZ cO q (f_X7_move u xk xu xd)) := by
  refine ct_v (K := fun z => z) (t := f_X7_move u xk xu xd) (wf := fun o => wX7 cI cZ cO q o) (own := RX7) (nm := "move") (L0 := [(0, .ref (q 0)), (1, .int (nI xk)), (2, .int (nI xu)), (3, .int (nI xd))]) (plainFor_of_name (by decide +kernel)) rfl rfl (Nat.le_of_ble_eq_true rfl) rfl ?_
  intro p e s m args below meth c A C
  unfold f_X7_move
  refine x_aload_n C dX7_move_0 0 rfl ?_
  refine x_get (v := .ref (q 1)) C hwsX70 10 mw_328 0 rfl rfl (by decide) rfl rfl dX7_move_1 ?_
  refine x_iload_n C dX7_move_4 2 rfl ?_
  refine x_iald C 1 0 rfl rfl xu rfl (by omega) (by decide) (u 10 xu) rfl dX7_move_5 ?_
  refine x_sipush C 360 dX7_move_6 (by decide) ?_
  refine x_join (fun (b2 : Bool) => f_X7_move_k29 u xk xu xd b2) 29 (fun (b2 : Bool) => [(0, .ref (q 0)), (1, .int (nI xk)), (2, .int (nI xu)), (3, .int (nI xd))]) (fun (b2 : Bool) => [.int (b2i b2)]) (fun (b2 : Bool) => wX7 cI cZ cO q u) (fun b2 => ?_) _ (fun J20 => ?_)
  · unfold f_X7_move_k29
    refine x_istore (L' := [(4, .int (b2i b2)), (0, .ref (q 0)), (1, .int (nI xk)), (2, .int (nI xu)), (3, .int (nI xd))]) C dX7_move_29 (by decide) rfl ?_
    refine x_aload_n C dX7_move_31 1 rfl ?_
    refine x_get (v := .ref (q 1)) C hwsX70 10 mw_328 0 rfl rfl (by decide) rfl rfl dX7_move_32 ?_
    refine x_iload_n C dX7_move_35 4 rfl ?_
    refine x_iald C 1 0 rfl rfl xd rfl (by omega) (by decide) (u 10 xd) rfl dX7_move_36 ?_
    refine x_sipush C 360 dX7_move_37 (by decide) ?_
    refine x_join (fun (b4 : Bool) => f_X7_move_k60 u xk b2 b4) 60 (fun (b4 : Bool) => [(0, .ref (q 0)), (1, .int (nI xk)), (2, .int (nI xu)), (3, .int (nI xd)), (4, .int (b2i b2))]) (fun (b4 : Bool) => [.int (b2i b4)]) (fun (b4 : Bool) => wX7 cI cZ cO q u) (fun b4 => ?_) _ (fun J18 => ?_)
    · unfold f_X7_move_k60
      refine x_istore (L' := [(5, .int (b2i b4)), (0, .ref (q 0)), (1, .int (nI xk)), (2, .int (nI xu)), (3, .int (nI xd)), (4, .int (b2i b2))]) C dX7_move_60 (by decide) rfl ?_
      refine x_aload_n C dX7_move_62 1 rfl ?_
      refine x_get (v := .ref (q 4)) C hwsX70 13 mw_329 0 rfl rfl (by decide) rfl rfl dX7_move_63 ?_
      refine x_iload_n C dX7_move_66 2 rfl ?_
      refine x_iald C 4 0 rfl rfl xk rfl (by omega) (by decide) (u 13 xk) rfl dX7_move_67 ?_
      refine x_iload C dX7_move_68 5 rfl ?_
      refine x_join (fun (b6 : Bool) => f_X7_move_k78 u xk b4 b6) 78 (fun (b6 : Bool) => [(0, .ref (q 0)), (1, .int (nI xk)), (2, .int (nI xu)), (3, .int (nI xd)), (4, .int (b2i b2)), (5, .int (b2i b4))]) (fun (b6 : Bool) => [.int (b2i b6), .int (u 13 xk)]) (fun (b6 : Bool) => wX7 cI cZ cO q u) (fun b6 => ?_) _ (fun J17 => ?_)
      · unfold f_X7_move_k78
        refine x_iadd C dX7_move_78 ?_
        refine x_iload C dX7_move_79 5 rfl ?_
        refine x_join (fun (b8 : Bool) => f_X7_move_k89 u xk b6 b8) 89 (fun (b8 : Bool) => [(0, .ref (q 0)), (1, .int (nI xk)), (2, .int (nI xu)), (3, .int (nI xd)), (4, .int (b2i b2)), (5, .int (b2i b4))]) (fun (b8 : Bool) => [.int (b2i b8), .int ((u 13 xk) + (b2i b6))]) (fun (b8 : Bool) => wX7 cI cZ cO q u) (fun b8 => ?_) _ (fun J16 => ?_)
        · unfold f_X7_move_k89
          refine x_isub C dX7_move_89 ?_
          refine x_istore (L' := [(6, .int (((u 13 xk) + (b2i b6)) - (b2i b8))), (0, .ref (q 0)), (1, .int (nI xk)), (2, .int (nI xu)), (3, .int (nI xd)), (4, .int (b2i b2)), (5, .int (b2i b4))]) C dX7_move_90 (by decide) rfl ?_
          refine x_aload_n C dX7_move_92 1 rfl ?_
          refine x_get (v := .ref (q 5)) C hwsX70 14 mw_341 0 rfl rfl (by decide) rfl rfl dX7_move_93 ?_
          refine x_iload_n C dX7_move_96 2 rfl ?_
          refine x_iald C 5 0 rfl rfl xk rfl (by omega) (by decide) (u 14 xk) rfl dX7_move_97 ?_
          refine x_if_ne C 173 dX7_move_98 (by decide) (fun c9 => ?_) (fun c9 => ?_)
          · refine x_iload C dX7_move_101 0 rfl ?_
            refine x_iconst C 0 dX7_move_103 (by decide) ?_
            refine x_aload_n C dX7_move_104 1 rfl ?_
            refine x_get (v := .ref (q 3)) C hwsX70 12 mw_330 0 rfl rfl (by decide) rfl rfl dX7_move_105 ?_
            refine x_iload_n C dX7_move_108 2 rfl ?_
            refine x_iald C 3 0 rfl rfl xk rfl (by omega) (by decide) (u 12 xk) rfl dX7_move_109 ?_
            refine x_cSi (As := [.int (((u 13 xk) + (b2i b6)) - (b2i b8)), .int 0, .int (u 12 xk)]) (ws' := wX7 cI cZ cO q u) C mw_367 mw_368 mw_337 mw_363 hd_X7_in rfl rfl ⟨Nat.le_of_ble_eq_true rfl, Nat.le_of_ble_eq_true rfl⟩ (c_X7_in l D cI cZ cO  (((u 13 xk) + (b2i b6)) - (b2i b8)) 0 (u 12 xk) ) [] [.inl 0, .inl 1, .inl 2, .inl 3, .inl 4, .inl 5, .inl 6, .inl 7, .inl 8, .inl 9, .inl 10, .inl 11, .inl 12, .inl 13, .inl 14, .inl 15, .inl 16, .inl 17, .inl 18, .inl 19, .inl 20] trivial rfl ⟨rfl, rfl, rfl, rfl, rfl, rfl, rfl, rfl, rfl, rfl, rfl, rfl, rfl, rfl, rfl, rfl, rfl, rfl, rfl, rfl, rfl, trivial⟩ rfl ⟨rfl, rfl, rfl, rfl, rfl, rfl, rfl, rfl, rfl, rfl, rfl, rfl, rfl, rfl, rfl, rfl, rfl, rfl, rfl, rfl, rfl, trivial⟩ rfl rfl (Nat.le_of_ble_eq_true rfl) (Nat.le_of_ble_eq_true rfl) (Nat.le_of_ble_eq_true rfl) dX7_move_110 ?_
            refine x_if_eqZ C 173 dX7_move_113 (by decide) (fun c10 => ?_) (fun c10 => ?_)
            · refine x_iload C dX7_move_116 0 rfl ?_
              refine x_aload_n C dX7_move_118 1 rfl ?_
              refine x_get (v := .ref (q 4)) C hwsX70 13 mw_329 0 rfl rfl (by decide) rfl rfl dX7_move_119 ?_
              refine x_iload_n C dX7_move_122 2 rfl ?_
              refine x_iald C 4 0 rfl rfl xk rfl (by omega) (by decide) (u 13 xk) rfl dX7_move_123 ?_
              refine x_icmp_eq C 173 dX7_move_124 (by decide) (fun c11 => ?_) (fun c11 => ?_)
              · exact x_vret C rfl dX7_move_173 rfl
              · refine x_aload_n C dX7_move_127 1 rfl ?_
                refine x_get (v := .ref (q 4)) C hwsX70 13 mw_329 0 rfl rfl (by decide) rfl rfl dX7_move_128 ?_
                refine x_iload_n C dX7_move_131 2 rfl ?_
                refine x_iload C dX7_move_132 0 rfl ?_
                refine x_iast (ws' := wX7 cI cZ cO q (put u 13 xk (((u 13 xk) + (b2i b6)) - (b2i b8)))) C 4 0 rfl rfl xk rfl (by omega) (by decide) dX7_move_134 rfl ?_
                refine x_aload_n C dX7_move_135 1 rfl ?_
                refine x_dup C dX7_move_136 rfl ?_
                refine x_get (v := .int (u 7 0)) C hwsX70 7 mw_422 0 rfl rfl (by decide) rfl rfl dX7_move_137 ?_
                refine x_iload_n C dX7_move_140 2 rfl ?_
                refine x_iconst C 2 dX7_move_141 (by decide) ?_
                refine x_join (fun (b13 : Bool) => f_X7_move_k169 u xk b6 b8 b13) 169 (fun (b13 : Bool) => [(0, .ref (q 0)), (1, .int (nI xk)), (2, .int (nI xu)), (3, .int (nI xd)), (4, .int (b2i b2)), (5, .int (b2i b4)), (6, .int (((u 13 xk) + (b2i b6)) - (b2i b8)))]) (fun (b13 : Bool) => [.int (b2i b13), .int (u 7 0), .ref (q 0)]) (fun (b13 : Bool) => wX7 cI cZ cO q (put u 13 xk (((u 13 xk) + (b2i b6)) - (b2i b8)))) (fun b13 => ?_) _ (fun J14 => ?_)
                · unfold f_X7_move_k169
                  refine x_iadd C dX7_move_169 ?_
                  refine x_put (ws' := wX7 cI cZ cO q (put (put u 13 xk (((u 13 xk) + (b2i b6)) - (b2i b8))) 7 0 ((u 7 0) + (b2i b13)))) C hwsX70 tyX7 tyX7_ok nmX7 7 mw_422 0 rfl rfl (by decide) rfl rfl rfl rfl (Nat.le_of_ble_eq_true rfl) dX7_move_170 rfl ?_
                  exact x_vret C rfl dX7_move_173 rfl
                · refine x_icmp_leN C xk 2 168 dX7_move_142 (by decide) rfl rfl (by omega) (by omega) (fun c12 => ?_) (fun c12 => ?_)
                  · refine x_aload_n C dX7_move_145 1 rfl ?_
                    refine x_get (v := .ref (q 4)) C hwsX70 13 mw_329 0 rfl rfl (by decide) rfl rfl dX7_move_146 ?_
                    refine x_iload_n C dX7_move_149 2 rfl ?_
                    refine x_iconst C 3 dX7_move_150 (by decide) ?_
                    refine x_isub C dX7_move_151 ?_
                    refine x_top (nI (xk - 3)) (pk_sub (a := xk) (b := 3) (by omega)) ?_
                    refine x_iald C 4 0 rfl rfl (xk - 3) rfl (by omega) (by decide) ((put u 13 xk (((u 13 xk) + (b2i b6)) - (b2i b8))) 13 (xk - 3)) rfl dX7_move_152 ?_
                    refine x_aload_n C dX7_move_153 1 rfl ?_
                    refine x_get (v := .ref (q 3)) C hwsX70 12 mw_330 0 rfl rfl (by decide) rfl rfl dX7_move_154 ?_
                    refine x_iload_n C dX7_move_157 2 rfl ?_
                    refine x_iconst C 3 dX7_move_158 (by decide) ?_
                    refine x_isub C dX7_move_159 ?_
                    refine x_top (nI (xk - 3)) (pk_sub (a := xk) (b := 3) (by omega)) ?_
                    refine x_iald C 3 0 rfl rfl (xk - 3) rfl (by omega) (by decide) (u 12 (xk - 3)) (by simp [put, upd]) dX7_move_160 ?_
                    refine x_icmp_eq C 168 dX7_move_161 (by decide) (fun c15 => ?_) (fun c15 => ?_)
                    · refine x_iconst C 0 dX7_move_168 (by decide) ?_
                      refine x_lsub (L' := [(0, .ref (q 0)), (1, .int (nI xk)), (2, .int (nI xu)), (3, .int (nI xd)), (4, .int (b2i b2)), (5, .int (b2i b4)), (6, .int (((u 13 xk) + (b2i b6)) - (b2i b8)))]) [1, 2, 3, 4, 5, 6, 0] rfl ?_
                      exact J14 false
                    · refine x_iconst C 1 dX7_move_164 (by decide) ?_
                      refine x_goto C 169 dX7_move_165 (by decide) ?_
                      refine x_lsub (L' := [(0, .ref (q 0)), (1, .int (nI xk)), (2, .int (nI xu)), (3, .int (nI xd)), (4, .int (b2i b2)), (5, .int (b2i b4)), (6, .int (((u 13 xk) + (b2i b6)) - (b2i b8)))]) [1, 2, 3, 4, 5, 6, 0] rfl ?_
                      exact J14 true
                  · refine x_iconst C 0 dX7_move_168 (by decide) ?_
                    refine x_lsub (L' := [(0, .ref (q 0)), (1, .int (nI xk)), (2, .int (nI xu)), (3, .int (nI xd)), (4, .int (b2i b2)), (5, .int (b2i b4)), (6, .int (((u 13 xk) + (b2i b6)) - (b2i b8)))]) [1, 2, 3, 4, 5, 6, 0] rfl ?_
                    exact J14 false
            · exact x_vret C rfl dX7_move_173 rfl
          · exact x_vret C rfl dX7_move_173 rfl
        · refine x_if_eqZ C 88 dX7_move_81 (by decide) (fun c7 => ?_) (fun c7 => ?_)
          · refine x_iconst C 1 dX7_move_84 (by decide) ?_
            refine x_goto C 89 dX7_move_85 (by decide) ?_
            exact J16 true
          · refine x_iconst C 0 dX7_move_88 (by decide) ?_
            exact J16 false
      · refine x_if_eqZ C 77 dX7_move_70 (by decide) (fun c5 => ?_) (fun c5 => ?_)
        · refine x_iconst C 1 dX7_move_73 (by decide) ?_
          refine x_goto C 78 dX7_move_74 (by decide) ?_
          refine x_lsub (L' := [(0, .ref (q 0)), (1, .int (nI xk)), (2, .int (nI xu)), (3, .int (nI xd)), (4, .int (b2i b2)), (5, .int (b2i b4))]) [1, 2, 3, 4, 5, 0] rfl ?_
          exact J17 true
        · refine x_iconst C 0 dX7_move_77 (by decide) ?_
          refine x_lsub (L' := [(0, .ref (q 0)), (1, .int (nI xk)), (2, .int (nI xu)), (3, .int (nI xd)), (4, .int (b2i b2)), (5, .int (b2i b4))]) [1, 2, 3, 4, 5, 0] rfl ?_
          exact J17 false
    · refine x_icmp_ne C 59 dX7_move_40 (by decide) (fun c3 => ?_) (fun c3 => ?_)
      · refine x_aload_n C dX7_move_43 1 rfl ?_
        refine x_get (v := .ref (q 1)) C hwsX70 10 mw_328 0 rfl rfl (by decide) rfl rfl dX7_move_44 ?_
        refine x_iload_n C dX7_move_47 3 rfl ?_
        refine x_iald C 1 0 rfl rfl xu rfl (by omega) (by decide) (u 10 xu) rfl dX7_move_48 ?_
        refine x_sipush C 360 dX7_move_49 (by decide) ?_
        refine x_icmp_eq C 59 dX7_move_52 (by decide) (fun c19 => ?_) (fun c19 => ?_)
        · refine x_iconst C 0 dX7_move_59 (by decide) ?_
          refine x_lsub (L' := [(0, .ref (q 0)), (1, .int (nI xk)), (2, .int (nI xu)), (3, .int (nI xd)), (4, .int (b2i b2))]) [1, 2, 3, 4, 0] rfl ?_
          exact J18 false
        · refine x_iconst C 1 dX7_move_55 (by decide) ?_
          refine x_goto C 60 dX7_move_56 (by decide) ?_
          refine x_lsub (L' := [(0, .ref (q 0)), (1, .int (nI xk)), (2, .int (nI xu)), (3, .int (nI xd)), (4, .int (b2i b2))]) [1, 2, 3, 4, 0] rfl ?_
          exact J18 true
      · refine x_iconst C 0 dX7_move_59 (by decide) ?_
        refine x_lsub (L' := [(0, .ref (q 0)), (1, .int (nI xk)), (2, .int (nI xu)), (3, .int (nI xd)), (4, .int (b2i b2))]) [1, 2, 3, 4, 0] rfl ?_
        exact J18 false
  · refine x_icmp_ne C 28 dX7_move_9 (by decide) (fun c1 => ?_) (fun c1 => ?_)
    · refine x_aload_n C dX7_move_12 0 rfl ?_
      refine x_get (v := .ref (q 1)) C hwsX70 10 mw_328 0 rfl rfl (by decide) rfl rfl dX7_move_13 ?_
      refine x_iload_n C dX7_move_16 3 rfl ?_
      refine x_iald C 1 0 rfl rfl xd rfl (by omega) (by decide) (u 10 xd) rfl dX7_move_17 ?_
      refine x_sipush C 360 dX7_move_18 (by decide) ?_
      refine x_icmp_eq C 28 dX7_move_21 (by decide) (fun c21 => ?_) (fun c21 => ?_)
      · refine x_iconst C 0 dX7_move_28 (by decide) ?_
        exact J20 false
      · refine x_iconst C 1 dX7_move_24 (by decide) ?_
        refine x_goto C 29 dX7_move_25 (by decide) ?_
        exact J20 true
    · refine x_iconst C 0 dX7_move_28 (by decide) ?_
      exact J20 false
def f_X7_watch_l319 (u : St) (xm : Nat) (b25 : Unit) : Int32 := if (u 23 ((5 * xm) + 4)) < 100 then 0 else (if (f_X7_all u xm 12) = true then 0 else 9)
def f_X7_watch_l295 (u : St) (xm : Nat) (b23 : Unit) : Int32 := if (u 23 ((5 * xm) + 3)) < 100 then (f_X7_watch_l319 u xm ()) else (if (f_X7_all u xm 9) = true then (f_X7_watch_l319 u xm ()) else 9)
def f_X7_watch_l266 (u : St) (xm : Nat) (b21 : Unit) : Int32 := if (u 23 ((5 * xm) + 4)) < 70 then (f_X7_watch_l295 u xm ()) else (if (f_X7_some u xm 9) = true then 8 else (f_X7_watch_l295 u xm ()))
def f_X7_watch_l242 (u : St) (xm : Nat) (b19 : Unit) : Int32 := if (u 23 ((5 * xm) + 3)) < 70 then (f_X7_watch_l266 u xm ()) else (if (f_X7_some u xm 12) = true then 8 else (f_X7_watch_l266 u xm ()))
def f_X7_watch_l214 (u : St) (xm : Nat) (b17 : Unit) : Int32 := if (u 23 ((5 * xm) + 2)) < 70 then (f_X7_watch_l242 u xm ()) else (if (f_X7_all u xm 3) = true then (f_X7_watch_l242 u xm ()) else 7)
def f_X7_watch_l185 (u : St) (xm : Nat) (b15 : Unit) : Int32 := if (u 23 ((5 * xm) + 1)) < 70 then (f_X7_watch_l214 u xm ()) else (if (f_X7_all u xm 6) = true then (f_X7_watch_l214 u xm ()) else 6)
def f_X7_watch_l165 (u : St) (xm : Nat) (b6 : Bool) (b13 : Unit) : Int32 := if (u 24 xm) < 100 then (f_X7_watch_l185 u xm ()) else (if b6 = true then 5 else (f_X7_watch_l185 u xm ()))
def f_X7_watch_l144 (u : St) (xm : Nat) (b6 : Bool) (b11 : Unit) : Int32 := if (u 23 (5 * xm)) < 30 then (f_X7_watch_l165 u xm b6 ()) else (if b6 = true then (f_X7_watch_l165 u xm b6 ()) else 4)
def f_X7_watch_l136 (u : St) (xm : Nat) (b4 : Bool) (b6 : Bool) (b43 : Unit) : Int32 := if b4 = true then 3 else (f_X7_watch_l144 u xm b6 ())
def f_X7_watch_l115 (u : St) (xm : Nat) (b4 : Bool) (b6 : Bool) (b9 : Unit) : Int32 := if (u 22 xm) < 0 then (f_X7_watch_l136 u xm b4 b6 ()) else (if (u 22 xm) < 216 then (f_X7_watch_l144 u xm b6 ()) else (f_X7_watch_l136 u xm b4 b6 ()))
def f_X7_watch_k81 (u : St) (xm : Nat) (a2 : Bool) (b4 : Bool) (b6 : Bool) : Int32 := if a2 = true then 1 else (if (u 22 xm) = 10 then (if b4 = true then (f_X7_watch_l115 u xm b4 b6 ()) else 2) else (f_X7_watch_l115 u xm b4 b6 ()))
def f_X7_watch_k60 (u : St) (xm : Nat) (a2 : Bool) (b4 : Bool) : Int32 := f_X7_watch_k81 u xm a2 b4 (if (u 25 ((18 * xm) + 2)) = 1 then true else false)
def f_X7_watch_x4 (u : St) (xm : Nat) (a2 : Bool) : Int32 := f_X7_watch_k60 u xm a2 (if (u 25 ((18 * xm) + 1)) = 1 then true else false)
def f_X7_watch_k33 (b55 : Bool) : Bool := b55
def f_X7_watch_t4 (u : St) (xm : Nat) (i1 : Nat) (a2 : Bool) : Bool := f_X7_watch_k33 (if a2 = true then true else (if (u 27 ((18 * xm) + i1)) = 0 then false else true))
def f_X7_watch (u : St) (xm : Nat) : Int32 := f_X7_watch_x4 u xm (up (f_X7_watch_t4 u xm) 0 18 false)
theorem hd_X7_watch : yX7_watch.cls ≠ "java/lang/invoke/MethodHandle" ∧ yX7_watch.cls ≠ "java/lang/invoke/VarHandle" ∧ (parseMethodDescriptor yX7_watch.desc).map (fun d => d.parameters.length) = some 1 := by decide +kernel
set_option maxHeartbeats 4000000 in
set_option maxRecDepth 100000 in
theorem c_X7_watch (l : Launch) (D : va_G) (cI cZ cO : ClassId) (q : Nat → Nat) (u : St) (xm : Nat) (hy0 : xm < 2) : CTi l D (T3 cI cZ cO) yX7_watch (Cond.code yX7_watch cX7_watch 6 (some .int) :: WA) ({ frames := 1, cells := 0, slots := 0, locals := 22 } : Room) [.ref (q 0), .int (nI xm)] (wX7 cI cZ cO q u) ((f_X7_watch u xm)) (wX7 cI cZ cO q u) := by
  refine ct_i (K := fun z => z) (t := f_X7_watch u xm) (rf := fun o => o) (wf := fun o => wX7 cI cZ cO q u) (own := RX7) (nm := "watch") (L0 := [(0, .ref (q 0)), (1, .int (nI xm))]) (plainFor_of_name (by decide +kernel)) rfl rfl (Nat.le_of_ble_eq_true rfl) rfl ?_
  intro p e s m args below meth c A C
  unfold f_X7_watch
  refine x_iconst C 0 dX7_watch_0 (by decide) ?_
  refine x_istore_n (L' := [(2, .int 0), (0, .ref (q 0)), (1, .int (nI xm))]) C dX7_watch_1 (by decide) rfl ?_
  refine x_iconst C 0 dX7_watch_2 (by decide) ?_
  refine x_istore_n (L' := [(3, .int 0), (2, .int 0), (0, .ref (q 0)), (1, .int (nI xm))]) C dX7_watch_3 (by decide) rfl ?_
  refine x_lsub (L' := [(0, .ref (q 0)), (1, .int (nI xm)), (2, .int 0), (3, .int 0)]) [2, 3, 1, 0] rfl ?_
  refine x_loop (f_X7_watch_t4 u xm) (fun (a2 : Bool) => f_X7_watch_x4 u xm a2) 18 4 (fun (i1 : Nat) (a2 : Bool) => [(0, .ref (q 0)), (1, .int (nI xm)), (2, .int (b2i a2)), (3, .int (nI i1))]) (fun (i1 : Nat) (a2 : Bool) => []) (fun (i1 : Nat) (a2 : Bool) => wX7 cI cZ cO q u) (fun a2 => ?_) (fun i1 a2 K53 hk51 ih52 => ?_) 18 0 false (by omega)
  · unfold f_X7_watch_x4
    refine x_iload_n C dX7_watch_4 3 rfl ?_
    refine x_bipush C 18 dX7_watch_5 (by decide) ?_
    refine x_icmp_ge_t C 40 dX7_watch_7 (by decide) (by decide) ?_
    refine x_aload_n C dX7_watch_40 0 rfl ?_
    refine x_get (v := .ref (q 16)) C hwsX70 25 mw_353 0 rfl rfl (by decide) rfl rfl dX7_watch_41 ?_
    refine x_bipush C 18 dX7_watch_44 (by decide) ?_
    refine x_iload_n C dX7_watch_46 1 rfl ?_
    refine x_imul C dX7_watch_47 ?_
    refine x_top (nI (18 * xm)) (pk_mul _ _) ?_
    refine x_iconst C 1 dX7_watch_48 (by decide) ?_
    refine x_iadd C dX7_watch_49 ?_
    refine x_top (nI ((18 * xm) + 1)) (nI_add _ _) ?_
    refine x_iald C 16 0 rfl rfl ((18 * xm) + 1) rfl (by omega) (by decide) (u 25 ((18 * xm) + 1)) rfl dX7_watch_50 ?_
    refine x_iconst C 1 dX7_watch_51 (by decide) ?_
    refine x_join (fun (b4 : Bool) => f_X7_watch_k60 u xm a2 b4) 60 (fun (b4 : Bool) => [(0, .ref (q 0)), (1, .int (nI xm)), (2, .int (b2i a2)), (3, .int (nI 18))]) (fun (b4 : Bool) => [.int (b2i b4)]) (fun (b4 : Bool) => wX7 cI cZ cO q u) (fun b4 => ?_) _ (fun J50 => ?_)
    · unfold f_X7_watch_k60
      refine x_istore_n (L' := [(3, .int (b2i b4)), (0, .ref (q 0)), (1, .int (nI xm)), (2, .int (b2i a2))]) C dX7_watch_60 (by decide) rfl ?_
      refine x_aload_n C dX7_watch_61 1 rfl ?_
      refine x_get (v := .ref (q 16)) C hwsX70 25 mw_353 0 rfl rfl (by decide) rfl rfl dX7_watch_62 ?_
      refine x_bipush C 18 dX7_watch_65 (by decide) ?_
      refine x_iload_n C dX7_watch_67 2 rfl ?_
      refine x_imul C dX7_watch_68 ?_
      refine x_top (nI (18 * xm)) (pk_mul _ _) ?_
      refine x_iconst C 2 dX7_watch_69 (by decide) ?_
      refine x_iadd C dX7_watch_70 ?_
      refine x_top (nI ((18 * xm) + 2)) (nI_add _ _) ?_
      refine x_iald C 16 0 rfl rfl ((18 * xm) + 2) rfl (by omega) (by decide) (u 25 ((18 * xm) + 2)) rfl dX7_watch_71 ?_
      refine x_iconst C 1 dX7_watch_72 (by decide) ?_
      refine x_join (fun (b6 : Bool) => f_X7_watch_k81 u xm a2 b4 b6) 81 (fun (b6 : Bool) => [(0, .ref (q 0)), (1, .int (nI xm)), (2, .int (b2i a2)), (3, .int (b2i b4))]) (fun (b6 : Bool) => [.int (b2i b6)]) (fun (b6 : Bool) => wX7 cI cZ cO q u) (fun b6 => ?_) _ (fun J49 => ?_)
      · unfold f_X7_watch_k81
        refine x_istore (L' := [(4, .int (b2i b6)), (0, .ref (q 0)), (1, .int (nI xm)), (2, .int (b2i a2)), (3, .int (b2i b4))]) C dX7_watch_81 (by decide) rfl ?_
        refine x_iconst C 5 dX7_watch_83 (by decide) ?_
        refine x_iload_n C dX7_watch_84 2 rfl ?_
        refine x_imul C dX7_watch_85 ?_
        refine x_top (nI (5 * xm)) (pk_mul _ _) ?_
        refine x_istore (L' := [(5, .int (nI (5 * xm))), (4, .int (b2i b6)), (0, .ref (q 0)), (1, .int (nI xm)), (2, .int (b2i a2)), (3, .int (b2i b4))]) C dX7_watch_86 (by decide) rfl ?_
        refine x_iload_n C dX7_watch_88 4 rfl ?_
        refine x_if_eqZ C 96 dX7_watch_89 (by decide) (fun c7 => ?_) (fun c7 => ?_)
        · refine x_iconst C 1 dX7_watch_92 (by decide) ?_
          refine x_goto C 349 dX7_watch_93 (by decide) ?_
          exact x_iret C rfl dX7_watch_349 rfl rfl
        · refine x_aload_n C dX7_watch_96 2 rfl ?_
          refine x_get (v := .ref (q 13)) C hwsX70 22 mw_350 0 rfl rfl (by decide) rfl rfl dX7_watch_97 ?_
          refine x_iload_n C dX7_watch_100 3 rfl ?_
          refine x_iald C 13 0 rfl rfl xm rfl (by omega) (by decide) (u 22 xm) rfl dX7_watch_101 ?_
          refine x_bipush C 10 dX7_watch_102 (by decide) ?_
          refine x_lab (fun (b9 : Unit) => f_X7_watch_l115 u xm b4 b6 b9) 115 (fun (b9 : Unit) => [(0, .ref (q 0)), (1, .int (nI xm)), (2, .int (b2i a2)), (3, .int (b2i b4)), (4, .int (b2i b6)), (5, .int (nI (5 * xm)))]) (fun (b9 : Unit) => []) (fun (b9 : Unit) => wX7 cI cZ cO q u) (fun b9 => ?_) (fun J47 => ?_)
          · unfold f_X7_watch_l115
            refine x_aload_n C dX7_watch_115 0 rfl ?_
            refine x_get (v := .ref (q 13)) C hwsX70 22 mw_350 0 rfl rfl (by decide) rfl rfl dX7_watch_116 ?_
            refine x_iload_n C dX7_watch_119 1 rfl ?_
            refine x_iald C 13 0 rfl rfl xm rfl (by omega) (by decide) (u 22 xm) rfl dX7_watch_120 ?_
            refine x_lab (fun (b11 : Unit) => f_X7_watch_l144 u xm b6 b11) 144 (fun (b11 : Unit) => [(0, .ref (q 0)), (1, .int (nI xm)), (2, .int (b2i a2)), (3, .int (b2i b4)), (4, .int (b2i b6)), (5, .int (nI (5 * xm)))]) (fun (b11 : Unit) => []) (fun (b11 : Unit) => wX7 cI cZ cO q u) (fun b11 => ?_) (fun J42 => ?_)
            · unfold f_X7_watch_l144
              refine x_aload_n C dX7_watch_144 0 rfl ?_
              refine x_get (v := .ref (q 14)) C hwsX70 23 mw_351 0 rfl rfl (by decide) rfl rfl dX7_watch_145 ?_
              refine x_iload C dX7_watch_148 5 rfl ?_
              refine x_iald C 14 0 rfl rfl (5 * xm) rfl (by omega) (by decide) (u 23 (5 * xm)) rfl dX7_watch_150 ?_
              refine x_bipush C 30 dX7_watch_151 (by decide) ?_
              refine x_lab (fun (b13 : Unit) => f_X7_watch_l165 u xm b6 b13) 165 (fun (b13 : Unit) => [(0, .ref (q 0)), (1, .int (nI xm)), (2, .int (b2i a2)), (3, .int (b2i b4)), (4, .int (b2i b6)), (5, .int (nI (5 * xm)))]) (fun (b13 : Unit) => []) (fun (b13 : Unit) => wX7 cI cZ cO q u) (fun b13 => ?_) (fun J40 => ?_)
              · unfold f_X7_watch_l165
                refine x_aload_n C dX7_watch_165 0 rfl ?_
                refine x_get (v := .ref (q 15)) C hwsX70 24 mw_352 0 rfl rfl (by decide) rfl rfl dX7_watch_166 ?_
                refine x_iload_n C dX7_watch_169 1 rfl ?_
                refine x_iald C 15 0 rfl rfl xm rfl (by omega) (by decide) (u 24 xm) rfl dX7_watch_170 ?_
                refine x_bipush C 100 dX7_watch_171 (by decide) ?_
                refine x_lab (fun (b15 : Unit) => f_X7_watch_l185 u xm b15) 185 (fun (b15 : Unit) => [(0, .ref (q 0)), (1, .int (nI xm)), (2, .int (b2i a2)), (3, .int (b2i b4)), (4, .int (b2i b6)), (5, .int (nI (5 * xm)))]) (fun (b15 : Unit) => []) (fun (b15 : Unit) => wX7 cI cZ cO q u) (fun b15 => ?_) (fun J38 => ?_)
                · unfold f_X7_watch_l185
                  refine x_aload_n C dX7_watch_185 0 rfl ?_
                  refine x_get (v := .ref (q 14)) C hwsX70 23 mw_351 0 rfl rfl (by decide) rfl rfl dX7_watch_186 ?_
                  refine x_iload C dX7_watch_189 5 rfl ?_
                  refine x_iconst C 1 dX7_watch_191 (by decide) ?_
                  refine x_iadd C dX7_watch_192 ?_
                  refine x_top (nI ((5 * xm) + 1)) (nI_add _ _) ?_
                  refine x_iald C 14 0 rfl rfl ((5 * xm) + 1) rfl (by omega) (by decide) (u 23 ((5 * xm) + 1)) rfl dX7_watch_193 ?_
                  refine x_bipush C 70 dX7_watch_194 (by decide) ?_
                  refine x_lab (fun (b17 : Unit) => f_X7_watch_l214 u xm b17) 214 (fun (b17 : Unit) => [(0, .ref (q 0)), (1, .int (nI xm)), (2, .int (b2i a2)), (3, .int (b2i b4)), (4, .int (b2i b6)), (5, .int (nI (5 * xm)))]) (fun (b17 : Unit) => []) (fun (b17 : Unit) => wX7 cI cZ cO q u) (fun b17 => ?_) (fun J36 => ?_)
                  · unfold f_X7_watch_l214
                    refine x_aload_n C dX7_watch_214 0 rfl ?_
                    refine x_get (v := .ref (q 14)) C hwsX70 23 mw_351 0 rfl rfl (by decide) rfl rfl dX7_watch_215 ?_
                    refine x_iload C dX7_watch_218 5 rfl ?_
                    refine x_iconst C 2 dX7_watch_220 (by decide) ?_
                    refine x_iadd C dX7_watch_221 ?_
                    refine x_top (nI ((5 * xm) + 2)) (nI_add _ _) ?_
                    refine x_iald C 14 0 rfl rfl ((5 * xm) + 2) rfl (by omega) (by decide) (u 23 ((5 * xm) + 2)) rfl dX7_watch_222 ?_
                    refine x_bipush C 70 dX7_watch_223 (by decide) ?_
                    refine x_lab (fun (b19 : Unit) => f_X7_watch_l242 u xm b19) 242 (fun (b19 : Unit) => [(0, .ref (q 0)), (1, .int (nI xm)), (2, .int (b2i a2)), (3, .int (b2i b4)), (4, .int (b2i b6)), (5, .int (nI (5 * xm)))]) (fun (b19 : Unit) => []) (fun (b19 : Unit) => wX7 cI cZ cO q u) (fun b19 => ?_) (fun J34 => ?_)
                    · unfold f_X7_watch_l242
                      refine x_aload_n C dX7_watch_242 0 rfl ?_
                      refine x_get (v := .ref (q 14)) C hwsX70 23 mw_351 0 rfl rfl (by decide) rfl rfl dX7_watch_243 ?_
                      refine x_iload C dX7_watch_246 5 rfl ?_
                      refine x_iconst C 3 dX7_watch_248 (by decide) ?_
                      refine x_iadd C dX7_watch_249 ?_
                      refine x_top (nI ((5 * xm) + 3)) (nI_add _ _) ?_
                      refine x_iald C 14 0 rfl rfl ((5 * xm) + 3) rfl (by omega) (by decide) (u 23 ((5 * xm) + 3)) rfl dX7_watch_250 ?_
                      refine x_bipush C 70 dX7_watch_251 (by decide) ?_
                      refine x_lab (fun (b21 : Unit) => f_X7_watch_l266 u xm b21) 266 (fun (b21 : Unit) => [(0, .ref (q 0)), (1, .int (nI xm)), (2, .int (b2i a2)), (3, .int (b2i b4)), (4, .int (b2i b6)), (5, .int (nI (5 * xm)))]) (fun (b21 : Unit) => []) (fun (b21 : Unit) => wX7 cI cZ cO q u) (fun b21 => ?_) (fun J32 => ?_)
                      · unfold f_X7_watch_l266
                        refine x_aload_n C dX7_watch_266 0 rfl ?_
                        refine x_get (v := .ref (q 14)) C hwsX70 23 mw_351 0 rfl rfl (by decide) rfl rfl dX7_watch_267 ?_
                        refine x_iload C dX7_watch_270 5 rfl ?_
                        refine x_iconst C 4 dX7_watch_272 (by decide) ?_
                        refine x_iadd C dX7_watch_273 ?_
                        refine x_top (nI ((5 * xm) + 4)) (nI_add _ _) ?_
                        refine x_iald C 14 0 rfl rfl ((5 * xm) + 4) rfl (by omega) (by decide) (u 23 ((5 * xm) + 4)) rfl dX7_watch_274 ?_
                        refine x_bipush C 70 dX7_watch_275 (by decide) ?_
                        refine x_lab (fun (b23 : Unit) => f_X7_watch_l295 u xm b23) 295 (fun (b23 : Unit) => [(0, .ref (q 0)), (1, .int (nI xm)), (2, .int (b2i a2)), (3, .int (b2i b4)), (4, .int (b2i b6)), (5, .int (nI (5 * xm)))]) (fun (b23 : Unit) => []) (fun (b23 : Unit) => wX7 cI cZ cO q u) (fun b23 => ?_) (fun J30 => ?_)
                        · unfold f_X7_watch_l295
                          refine x_aload_n C dX7_watch_295 0 rfl ?_
                          refine x_get (v := .ref (q 14)) C hwsX70 23 mw_351 0 rfl rfl (by decide) rfl rfl dX7_watch_296 ?_
                          refine x_iload C dX7_watch_299 5 rfl ?_
                          refine x_iconst C 3 dX7_watch_301 (by decide) ?_
                          refine x_iadd C dX7_watch_302 ?_
                          refine x_top (nI ((5 * xm) + 3)) (nI_add _ _) ?_
                          refine x_iald C 14 0 rfl rfl ((5 * xm) + 3) rfl (by omega) (by decide) (u 23 ((5 * xm) + 3)) rfl dX7_watch_303 ?_
                          refine x_bipush C 100 dX7_watch_304 (by decide) ?_
                          refine x_lab (fun (b25 : Unit) => f_X7_watch_l319 u xm b25) 319 (fun (b25 : Unit) => [(0, .ref (q 0)), (1, .int (nI xm)), (2, .int (b2i a2)), (3, .int (b2i b4)), (4, .int (b2i b6)), (5, .int (nI (5 * xm)))]) (fun (b25 : Unit) => []) (fun (b25 : Unit) => wX7 cI cZ cO q u) (fun b25 => ?_) (fun J28 => ?_)
                          · unfold f_X7_watch_l319
                            refine x_aload_n C dX7_watch_319 0 rfl ?_
                            refine x_get (v := .ref (q 14)) C hwsX70 23 mw_351 0 rfl rfl (by decide) rfl rfl dX7_watch_320 ?_
                            refine x_iload C dX7_watch_323 5 rfl ?_
                            refine x_iconst C 4 dX7_watch_325 (by decide) ?_
                            refine x_iadd C dX7_watch_326 ?_
                            refine x_top (nI ((5 * xm) + 4)) (nI_add _ _) ?_
                            refine x_iald C 14 0 rfl rfl ((5 * xm) + 4) rfl (by omega) (by decide) (u 23 ((5 * xm) + 4)) rfl dX7_watch_327 ?_
                            refine x_bipush C 100 dX7_watch_328 (by decide) ?_
                            refine x_icmp_lt C 348 dX7_watch_330 (by decide) (fun c26 => ?_) (fun c26 => ?_)
                            · refine x_iconst C 0 dX7_watch_348 (by decide) ?_
                              exact x_iret C rfl dX7_watch_349 rfl rfl
                            · refine x_aload_n C dX7_watch_333 0 rfl ?_
                              refine x_iload_n C dX7_watch_334 1 rfl ?_
                              refine x_bipush C 12 dX7_watch_335 (by decide) ?_
                              refine x_cViW (q0 := 0) (As := [.int (nI xm), .int 12]) C mw_399 mw_400 mw_401 mw_337 mw_381 hd_X7_all rfl rfl ⟨Nat.le_of_ble_eq_true rfl, Nat.le_of_ble_eq_true rfl⟩ rfl rfl rfl (c_X7_all l D cI cZ cO q u xm 12 (by omega) (by omega)) rfl rfl (Nat.le_of_ble_eq_true rfl) (Nat.le_of_ble_eq_true rfl) (Nat.le_of_ble_eq_true rfl) dX7_watch_337 ?_
                              refine x_if_neZ C 348 dX7_watch_340 (by decide) (fun c27 => ?_) (fun c27 => ?_)
                              · refine x_iconst C 0 dX7_watch_348 (by decide) ?_
                                exact x_iret C rfl dX7_watch_349 rfl rfl
                              · refine x_bipush C 9 dX7_watch_343 (by decide) ?_
                                refine x_goto C 349 dX7_watch_345 (by decide) ?_
                                exact x_iret C rfl dX7_watch_349 rfl rfl
                          refine x_icmp_lt C 319 dX7_watch_306 (by decide) (fun c24 => ?_) (fun c24 => ?_)
                          · exact J28 ()
                          · refine x_aload_n C dX7_watch_309 0 rfl ?_
                            refine x_iload_n C dX7_watch_310 1 rfl ?_
                            refine x_bipush C 9 dX7_watch_311 (by decide) ?_
                            refine x_cViW (q0 := 0) (As := [.int (nI xm), .int 9]) C mw_399 mw_400 mw_401 mw_337 mw_381 hd_X7_all rfl rfl ⟨Nat.le_of_ble_eq_true rfl, Nat.le_of_ble_eq_true rfl⟩ rfl rfl rfl (c_X7_all l D cI cZ cO q u xm 9 (by omega) (by omega)) rfl rfl (Nat.le_of_ble_eq_true rfl) (Nat.le_of_ble_eq_true rfl) (Nat.le_of_ble_eq_true rfl) dX7_watch_313 ?_
                            refine x_if_eqZ C 343 dX7_watch_316 (by decide) (fun c29 => ?_) (fun c29 => ?_)
                            · exact J28 ()
                            · refine x_bipush C 9 dX7_watch_343 (by decide) ?_
                              refine x_goto C 349 dX7_watch_345 (by decide) ?_
                              exact x_iret C rfl dX7_watch_349 rfl rfl
                        refine x_icmp_lt C 295 dX7_watch_277 (by decide) (fun c22 => ?_) (fun c22 => ?_)
                        · exact J30 ()
                        · refine x_aload_n C dX7_watch_280 0 rfl ?_
                          refine x_iload_n C dX7_watch_281 1 rfl ?_
                          refine x_bipush C 9 dX7_watch_282 (by decide) ?_
                          refine x_cViW (q0 := 0) (As := [.int (nI xm), .int 9]) C mw_402 mw_403 mw_404 mw_337 mw_382 hd_X7_some rfl rfl ⟨Nat.le_of_ble_eq_true rfl, Nat.le_of_ble_eq_true rfl⟩ rfl rfl rfl (c_X7_some l D cI cZ cO q u xm 9 (by omega) (by omega)) rfl rfl (Nat.le_of_ble_eq_true rfl) (Nat.le_of_ble_eq_true rfl) (Nat.le_of_ble_eq_true rfl) dX7_watch_284 ?_
                          refine x_if_eqZ C 295 dX7_watch_287 (by decide) (fun c31 => ?_) (fun c31 => ?_)
                          · refine x_bipush C 8 dX7_watch_290 (by decide) ?_
                            refine x_goto C 349 dX7_watch_292 (by decide) ?_
                            exact x_iret C rfl dX7_watch_349 rfl rfl
                          · exact J30 ()
                      refine x_icmp_lt C 266 dX7_watch_253 (by decide) (fun c20 => ?_) (fun c20 => ?_)
                      · exact J32 ()
                      · refine x_aload_n C dX7_watch_256 0 rfl ?_
                        refine x_iload_n C dX7_watch_257 1 rfl ?_
                        refine x_bipush C 12 dX7_watch_258 (by decide) ?_
                        refine x_cViW (q0 := 0) (As := [.int (nI xm), .int 12]) C mw_402 mw_403 mw_404 mw_337 mw_382 hd_X7_some rfl rfl ⟨Nat.le_of_ble_eq_true rfl, Nat.le_of_ble_eq_true rfl⟩ rfl rfl rfl (c_X7_some l D cI cZ cO q u xm 12 (by omega) (by omega)) rfl rfl (Nat.le_of_ble_eq_true rfl) (Nat.le_of_ble_eq_true rfl) (Nat.le_of_ble_eq_true rfl) dX7_watch_260 ?_
                        refine x_if_neZ C 290 dX7_watch_263 (by decide) (fun c33 => ?_) (fun c33 => ?_)
                        · refine x_bipush C 8 dX7_watch_290 (by decide) ?_
                          refine x_goto C 349 dX7_watch_292 (by decide) ?_
                          exact x_iret C rfl dX7_watch_349 rfl rfl
                        · exact J32 ()
                    refine x_icmp_lt C 242 dX7_watch_225 (by decide) (fun c18 => ?_) (fun c18 => ?_)
                    · exact J34 ()
                    · refine x_aload_n C dX7_watch_228 0 rfl ?_
                      refine x_iload_n C dX7_watch_229 1 rfl ?_
                      refine x_iconst C 3 dX7_watch_230 (by decide) ?_
                      refine x_cViW (q0 := 0) (As := [.int (nI xm), .int 3]) C mw_399 mw_400 mw_401 mw_337 mw_381 hd_X7_all rfl rfl ⟨Nat.le_of_ble_eq_true rfl, Nat.le_of_ble_eq_true rfl⟩ rfl rfl rfl (c_X7_all l D cI cZ cO q u xm 3 (by omega) (by omega)) rfl rfl (Nat.le_of_ble_eq_true rfl) (Nat.le_of_ble_eq_true rfl) (Nat.le_of_ble_eq_true rfl) dX7_watch_231 ?_
                      refine x_if_neZ C 242 dX7_watch_234 (by decide) (fun c35 => ?_) (fun c35 => ?_)
                      · exact J34 ()
                      · refine x_bipush C 7 dX7_watch_237 (by decide) ?_
                        refine x_goto C 349 dX7_watch_239 (by decide) ?_
                        exact x_iret C rfl dX7_watch_349 rfl rfl
                  refine x_icmp_lt C 214 dX7_watch_196 (by decide) (fun c16 => ?_) (fun c16 => ?_)
                  · exact J36 ()
                  · refine x_aload_n C dX7_watch_199 0 rfl ?_
                    refine x_iload_n C dX7_watch_200 1 rfl ?_
                    refine x_bipush C 6 dX7_watch_201 (by decide) ?_
                    refine x_cViW (q0 := 0) (As := [.int (nI xm), .int 6]) C mw_399 mw_400 mw_401 mw_337 mw_381 hd_X7_all rfl rfl ⟨Nat.le_of_ble_eq_true rfl, Nat.le_of_ble_eq_true rfl⟩ rfl rfl rfl (c_X7_all l D cI cZ cO q u xm 6 (by omega) (by omega)) rfl rfl (Nat.le_of_ble_eq_true rfl) (Nat.le_of_ble_eq_true rfl) (Nat.le_of_ble_eq_true rfl) dX7_watch_203 ?_
                    refine x_if_neZ C 214 dX7_watch_206 (by decide) (fun c37 => ?_) (fun c37 => ?_)
                    · exact J36 ()
                    · refine x_bipush C 6 dX7_watch_209 (by decide) ?_
                      refine x_goto C 349 dX7_watch_211 (by decide) ?_
                      exact x_iret C rfl dX7_watch_349 rfl rfl
                refine x_icmp_lt C 185 dX7_watch_173 (by decide) (fun c14 => ?_) (fun c14 => ?_)
                · exact J38 ()
                · refine x_iload C dX7_watch_176 4 rfl ?_
                  refine x_if_eqZ C 185 dX7_watch_178 (by decide) (fun c39 => ?_) (fun c39 => ?_)
                  · refine x_iconst C 5 dX7_watch_181 (by decide) ?_
                    refine x_goto C 349 dX7_watch_182 (by decide) ?_
                    exact x_iret C rfl dX7_watch_349 rfl rfl
                  · exact J38 ()
              refine x_icmp_lt C 165 dX7_watch_153 (by decide) (fun c12 => ?_) (fun c12 => ?_)
              · exact J40 ()
              · refine x_iload C dX7_watch_156 4 rfl ?_
                refine x_if_neZ C 165 dX7_watch_158 (by decide) (fun c41 => ?_) (fun c41 => ?_)
                · exact J40 ()
                · refine x_iconst C 4 dX7_watch_161 (by decide) ?_
                  refine x_goto C 349 dX7_watch_162 (by decide) ?_
                  exact x_iret C rfl dX7_watch_349 rfl rfl
            refine x_lab (fun (b43 : Unit) => f_X7_watch_l136 u xm b4 b6 b43) 136 (fun (b43 : Unit) => [(0, .ref (q 0)), (1, .int (nI xm)), (2, .int (b2i a2)), (3, .int (b2i b4)), (4, .int (b2i b6)), (5, .int (nI (5 * xm)))]) (fun (b43 : Unit) => []) (fun (b43 : Unit) => wX7 cI cZ cO q u) (fun b43 => ?_) (fun J45 => ?_)
            · unfold f_X7_watch_l136
              refine x_iload_n C dX7_watch_136 3 rfl ?_
              refine x_if_eqZ C 144 dX7_watch_137 (by decide) (fun c44 => ?_) (fun c44 => ?_)
              · refine x_iconst C 3 dX7_watch_140 (by decide) ?_
                refine x_goto C 349 dX7_watch_141 (by decide) ?_
                exact x_iret C rfl dX7_watch_349 rfl rfl
              · exact J42 ()
            refine x_if_lt C 136 dX7_watch_121 (by decide) (fun c10 => ?_) (fun c10 => ?_)
            · exact J45 ()
            · refine x_aload_n C dX7_watch_124 0 rfl ?_
              refine x_get (v := .ref (q 13)) C hwsX70 22 mw_350 0 rfl rfl (by decide) rfl rfl dX7_watch_125 ?_
              refine x_iload_n C dX7_watch_128 1 rfl ?_
              refine x_iald C 13 0 rfl rfl xm rfl (by omega) (by decide) (u 22 xm) rfl dX7_watch_129 ?_
              refine x_sipush C 216 dX7_watch_130 (by decide) ?_
              refine x_icmp_lt C 144 dX7_watch_133 (by decide) (fun c46 => ?_) (fun c46 => ?_)
              · exact J42 ()
              · exact J45 ()
          refine x_icmp_ne C 115 dX7_watch_104 (by decide) (fun c8 => ?_) (fun c8 => ?_)
          · refine x_iload_n C dX7_watch_107 5 rfl ?_
            refine x_if_neZ C 115 dX7_watch_108 (by decide) (fun c48 => ?_) (fun c48 => ?_)
            · refine x_lsub (L' := [(0, .ref (q 0)), (1, .int (nI xm)), (2, .int (b2i a2)), (3, .int (b2i b4)), (4, .int (b2i b6)), (5, .int (nI (5 * xm)))]) [2, 3, 4, 5, 1, 0] rfl ?_
              exact J47 ()
            · refine x_iconst C 2 dX7_watch_111 (by decide) ?_
              refine x_goto C 349 dX7_watch_112 (by decide) ?_
              exact x_iret C rfl dX7_watch_349 rfl rfl
          · refine x_lsub (L' := [(0, .ref (q 0)), (1, .int (nI xm)), (2, .int (b2i a2)), (3, .int (b2i b4)), (4, .int (b2i b6)), (5, .int (nI (5 * xm)))]) [2, 3, 4, 5, 1, 0] rfl ?_
            exact J47 ()
      · refine x_icmp_ne C 80 dX7_watch_73 (by decide) (fun c5 => ?_) (fun c5 => ?_)
        · refine x_iconst C 1 dX7_watch_76 (by decide) ?_
          refine x_goto C 81 dX7_watch_77 (by decide) ?_
          refine x_lsub (L' := [(0, .ref (q 0)), (1, .int (nI xm)), (2, .int (b2i a2)), (3, .int (b2i b4))]) [1, 2, 3, 0] rfl ?_
          exact J49 true
        · refine x_iconst C 0 dX7_watch_80 (by decide) ?_
          refine x_lsub (L' := [(0, .ref (q 0)), (1, .int (nI xm)), (2, .int (b2i a2)), (3, .int (b2i b4))]) [1, 2, 3, 0] rfl ?_
          exact J49 false
    · refine x_icmp_ne C 59 dX7_watch_52 (by decide) (fun c3 => ?_) (fun c3 => ?_)
      · refine x_iconst C 1 dX7_watch_55 (by decide) ?_
        refine x_goto C 60 dX7_watch_56 (by decide) ?_
        exact J50 true
      · refine x_iconst C 0 dX7_watch_59 (by decide) ?_
        exact J50 false
  · unfold f_X7_watch_t4
    refine x_iload_n C dX7_watch_4 3 rfl ?_
    refine x_bipush C 18 dX7_watch_5 (by decide) ?_
    refine x_icmp_ge_f C 40 dX7_watch_7 (by decide) (nI_lt (b := 18) hk51 (by omega)) ?_
    refine x_iload_n C dX7_watch_10 2 rfl ?_
    refine x_join (fun (b55 : Bool) => f_X7_watch_k33 b55) 33 (fun (b55 : Bool) => [(0, .ref (q 0)), (1, .int (nI xm)), (2, .int (b2i a2)), (3, .int (nI i1))]) (fun (b55 : Bool) => [.int (b2i b55)]) (fun (b55 : Bool) => wX7 cI cZ cO q u) (fun b55 => ?_) _ (fun J56 => ?_)
    · unfold f_X7_watch_k33
      refine x_istore_n (L' := [(2, .int (b2i b55)), (0, .ref (q 0)), (1, .int (nI xm)), (3, .int (nI i1))]) C dX7_watch_33 (by decide) rfl ?_
      refine x_iinc (L' := [(3, .int (nI (i1 + 1))), (2, .int (b2i b55)), (0, .ref (q 0)), (1, .int (nI xm))]) C (nI (i1 + 1)) dX7_watch_34 3 rfl (nI_add _ _) (by decide) rfl ?_
      refine x_goto C 4 dX7_watch_37 (by decide) ?_
      refine x_lsub (L' := [(0, .ref (q 0)), (1, .int (nI xm)), (2, .int (b2i b55)), (3, .int (nI (i1 + 1)))]) [2, 3, 1, 0] rfl ?_
      exact ih52 b55
    · refine x_if_neZ C 28 dX7_watch_11 (by decide) (fun c54 => ?_) (fun c54 => ?_)
      · refine x_iconst C 1 dX7_watch_28 (by decide) ?_
        refine x_goto C 33 dX7_watch_29 (by decide) ?_
        exact J56 true
      · refine x_aload_n C dX7_watch_14 0 rfl ?_
        refine x_get (v := .ref (q 18)) C hwsX70 27 mw_355 0 rfl rfl (by decide) rfl rfl dX7_watch_15 ?_
        refine x_bipush C 18 dX7_watch_18 (by decide) ?_
        refine x_iload_n C dX7_watch_20 1 rfl ?_
        refine x_imul C dX7_watch_21 ?_
        refine x_top (nI (18 * xm)) (pk_mul _ _) ?_
        refine x_iload_n C dX7_watch_22 3 rfl ?_
        refine x_iadd C dX7_watch_23 ?_
        refine x_top (nI ((18 * xm) + i1)) (nI_add _ _) ?_
        refine x_zald C 18 1 rfl rfl ((18 * xm) + i1) rfl (by omega) (by decide) (u 27 ((18 * xm) + i1)) rfl dX7_watch_24 ?_
        refine x_if_eq C 32 dX7_watch_25 (by decide) (fun c57 => ?_) (fun c57 => ?_)
        · refine x_iconst C 0 dX7_watch_32 (by decide) ?_
          exact J56 false
        · refine x_iconst C 1 dX7_watch_28 (by decide) ?_
          refine x_goto C 33 dX7_watch_29 (by decide) ?_
          exact J56 true
def f_X7_isBusy (u : St) (xm : Nat) : Bool := if (u 21 xm) = 0 then (if (u 19 xm) = 0 then (if (u 16 xm) = 0 then (if (u 25 (18 * xm)) = (u 18 xm) then false else true) else true) else false) else false
theorem hd_X7_isBusy : yX7_isBusy.cls ≠ "java/lang/invoke/MethodHandle" ∧ yX7_isBusy.cls ≠ "java/lang/invoke/VarHandle" ∧ (parseMethodDescriptor yX7_isBusy.desc).map (fun d => d.parameters.length) = some 1 := by decide +kernel
set_option maxHeartbeats 4000000 in
set_option maxRecDepth 100000 in
theorem c_X7_isBusy (l : Launch) (D : va_G) (cI cZ cO : ClassId) (q : Nat → Nat) (u : St) (xm : Nat) (hy0 : xm < 2) : CTi l D (T3 cI cZ cO) yX7_isBusy (Cond.code yX7_isBusy cX7_isBusy 2 (some .boolean) :: WA) ({ frames := 0, cells := 0, slots := 0, locals := 0 } : Room) [.ref (q 0), .int (nI xm)] (wX7 cI cZ cO q u) (b2i (f_X7_isBusy u xm)) (wX7 cI cZ cO q u) := by
  refine ct_i (K := fun z => z) (t := f_X7_isBusy u xm) (rf := fun o => b2i o) (wf := fun o => wX7 cI cZ cO q u) (own := RX7) (nm := "isBusy") (L0 := [(0, .ref (q 0)), (1, .int (nI xm))]) (plainFor_of_name (by decide +kernel)) rfl rfl (Nat.le_of_ble_eq_true rfl) rfl ?_
  intro p e s m args below meth c A C
  unfold f_X7_isBusy
  refine x_aload_n C dX7_isBusy_0 0 rfl ?_
  refine x_get (v := .ref (q 12)) C hwsX70 21 mw_349 0 rfl rfl (by decide) rfl rfl dX7_isBusy_1 ?_
  refine x_iload_n C dX7_isBusy_4 1 rfl ?_
  refine x_iald C 12 0 rfl rfl xm rfl (by omega) (by decide) (u 21 xm) rfl dX7_isBusy_5 ?_
  refine x_if_ne C 49 dX7_isBusy_6 (by decide) (fun c1 => ?_) (fun c1 => ?_)
  · refine x_aload_n C dX7_isBusy_9 0 rfl ?_
    refine x_get (v := .ref (q 10)) C hwsX70 19 mw_346 0 rfl rfl (by decide) rfl rfl dX7_isBusy_10 ?_
    refine x_iload_n C dX7_isBusy_13 1 rfl ?_
    refine x_iald C 10 0 rfl rfl xm rfl (by omega) (by decide) (u 19 xm) rfl dX7_isBusy_14 ?_
    refine x_if_ne C 49 dX7_isBusy_15 (by decide) (fun c2 => ?_) (fun c2 => ?_)
    · refine x_aload_n C dX7_isBusy_18 0 rfl ?_
      refine x_get (v := .ref (q 7)) C hwsX70 16 mw_343 0 rfl rfl (by decide) rfl rfl dX7_isBusy_19 ?_
      refine x_iload_n C dX7_isBusy_22 1 rfl ?_
      refine x_iald C 7 0 rfl rfl xm rfl (by omega) (by decide) (u 16 xm) rfl dX7_isBusy_23 ?_
      refine x_if_ne C 45 dX7_isBusy_24 (by decide) (fun c3 => ?_) (fun c3 => ?_)
      · refine x_aload_n C dX7_isBusy_27 0 rfl ?_
        refine x_get (v := .ref (q 16)) C hwsX70 25 mw_353 0 rfl rfl (by decide) rfl rfl dX7_isBusy_28 ?_
        refine x_bipush C 18 dX7_isBusy_31 (by decide) ?_
        refine x_iload_n C dX7_isBusy_33 1 rfl ?_
        refine x_imul C dX7_isBusy_34 ?_
        refine x_top (nI (18 * xm)) (pk_mul _ _) ?_
        refine x_iald C 16 0 rfl rfl (18 * xm) rfl (by omega) (by decide) (u 25 (18 * xm)) rfl dX7_isBusy_35 ?_
        refine x_aload_n C dX7_isBusy_36 0 rfl ?_
        refine x_get (v := .ref (q 9)) C hwsX70 18 mw_345 0 rfl rfl (by decide) rfl rfl dX7_isBusy_37 ?_
        refine x_iload_n C dX7_isBusy_40 1 rfl ?_
        refine x_iald C 9 0 rfl rfl xm rfl (by omega) (by decide) (u 18 xm) rfl dX7_isBusy_41 ?_
        refine x_icmp_eq C 49 dX7_isBusy_42 (by decide) (fun c4 => ?_) (fun c4 => ?_)
        · refine x_iconst C 0 dX7_isBusy_49 (by decide) ?_
          exact x_zret C rfl (by decide) dX7_isBusy_50 rfl rfl
        · refine x_iconst C 1 dX7_isBusy_45 (by decide) ?_
          refine x_goto C 50 dX7_isBusy_46 (by decide) ?_
          exact x_zret C rfl (by decide) dX7_isBusy_50 rfl rfl
      · refine x_iconst C 1 dX7_isBusy_45 (by decide) ?_
        refine x_goto C 50 dX7_isBusy_46 (by decide) ?_
        exact x_zret C rfl (by decide) dX7_isBusy_50 rfl rfl
    · refine x_iconst C 0 dX7_isBusy_49 (by decide) ?_
      exact x_zret C rfl (by decide) dX7_isBusy_50 rfl rfl
  · refine x_iconst C 0 dX7_isBusy_49 (by decide) ?_
    exact x_zret C rfl (by decide) dX7_isBusy_50 rfl rfl
theorem fr_vote (u : St) (xm xk : Nat) : f_X7_vote u xm xk 29 = u 29 := by
  simp [f_X7_vote, f_X7_vote_k62_3, f_X7_vote_k62_2, f_X7_vote_k62, f_X7_vote_k155, f_X7_vote_k209_3, f_X7_vote_k209_2, f_X7_vote_k209, f_X7_vote_k90, f_X7_vote_k112, f_X7_vote_k137, it_ap, put]
theorem fr_press (u : St) (xk : Nat) (xf : Bool) : f_X7_press u xk xf 29 = u 29 := by
  simp [f_X7_press, f_X7_press_k25, f_X7_press_k53, it_ap, put]
theorem fr_move (u : St) (xk xu xd : Nat) : f_X7_move u xk xu xd 29 = u 29 := by
  simp [f_X7_move, f_X7_move_k29, f_X7_move_k60, f_X7_move_k78, f_X7_move_k89, f_X7_move_k169, it_ap, put]
theorem LB_vote {n : Nat} {u : St} {m k : Nat} (h : LB n u) : LB n (f_X7_vote u m k) := LB_fr h (fr_vote u m k)
theorem LB_press {n : Nat} {u : St} {k : Nat} {b : Bool} (h : LB n u) : LB n (f_X7_press u k b) := LB_fr h (fr_press u k b)
theorem LB_move {n : Nat} {u : St} {k a b : Nat} (h : LB n u) : LB n (f_X7_move u k a b) := LB_fr h (fr_move u k a b)
theorem LB_feel {n : Nat} {u : St} (h : LB n u) : LB n (f_X7_feel u) := by
  unfold f_X7_feel f_X7_feel_x2
  exact LB_up (I := LB n) (fun k a h => by unfold f_X7_feel_t2; exact LB_put (by decide) h) 18 0 u h
theorem LB_note {n : Nat} {u : St} {m : Nat} {w : Int32} (h : LB (n + 1) u) : LB n (f_X7_note u m w) := by
  obtain ⟨h1, h2⟩ := h
  have e : f_X7_note u m w 29 0 = u 29 0 + 1 := by simp [f_X7_note, put, upd]
  have e2 : (u 29 0 + 1).toInt = (u 29 0).toInt + 1 := by
    rw [Int32.toInt_add]
    have h3 : (1 : Int32).toInt = 1 := by decide
    rw [h3]
    exact Int.bmod_eq_of_le (by omega) (by omega)
  unfold LB
  rw [e, e2]
  omega
theorem LB_ite {n : Nat} {c : Prop} [Decidable c] {a b : St} (ha : LB n a) (hb : LB n b) : LB n (if c then a else b) := by split <;> assumption
