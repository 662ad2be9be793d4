def f_J6_bitCount_0f7a4_k48 (b5 : Int32) : Int32 := b5 &&& 63
def f_J6_bitCount_0f7a4_k41 (b4 : Int32) : Int32 := f_J6_bitCount_0f7a4_k48 (b4 + ((b4.toUInt32 >>> ((16 : Int32).toUInt32 &&& Int32.toUInt32 31)).toInt32))
def f_J6_bitCount_0f7a4_k34 (b3 : Int32) : Int32 := f_J6_bitCount_0f7a4_k41 (b3 + ((b3.toUInt32 >>> ((8 : Int32).toUInt32 &&& Int32.toUInt32 31)).toInt32))
def f_J6_bitCount_0f7a4_k24 (b2 : Int32) : Int32 := f_J6_bitCount_0f7a4_k34 ((b2 + ((b2.toUInt32 >>> ((4 : Int32).toUInt32 &&& Int32.toUInt32 31)).toInt32)) &&& 252645135)
def f_J6_bitCount_0f7a4_k10 (b1 : Int32) : Int32 := f_J6_bitCount_0f7a4_k24 ((b1 &&& 858993459) + (((b1.toUInt32 >>> ((2 : Int32).toUInt32 &&& Int32.toUInt32 31)).toInt32) &&& 858993459))
def f_J6_bitCount_0f7a4 (xb : Int32) : Int32 := f_J6_bitCount_0f7a4_k10 (xb - (((xb.toUInt32 >>> ((1 : Int32).toUInt32 &&& Int32.toUInt32 31)).toInt32) &&& 1431655765))
theorem hd_J6_bitCount_0f7a4 : yJ6_bitCount_0f7a4.cls ≠ "java/lang/invoke/MethodHandle" ∧ yJ6_bitCount_0f7a4.cls ≠ "java/lang/invoke/VarHandle" ∧ (parseMethodDescriptor yJ6_bitCount_0f7a4.desc).map (fun d => d.parameters.length) = some 1 := by decide +kernel
set_option maxHeartbeats 4000000 in
set_option maxRecDepth 100000 in
theorem c_J6_bitCount_0f7a4 (l : Launch) (D : va_G) (cI cZ cO : ClassId)  (xb : Int32)  : CTi l D (T3 cI cZ cO) yJ6_bitCount_0f7a4 (Cond.code yJ6_bitCount_0f7a4 cJ6_bitCount_0f7a4 1 (some .int) :: WA) ({ frames := 0, cells := 0, slots := 0, locals := 0 } : Room) [.int xb] ([]) ((f_J6_bitCount_0f7a4 xb)) ([]) := by
  refine ct_i (K := fun z => z) (t := f_J6_bitCount_0f7a4 xb) (rf := fun o => o) (wf := fun o => []) (own := RJ6) (nm := "bitCount") (L0 := [(0, .int xb)]) (plainFor_of_name (by decide +kernel)) rfl rfl (Nat.le_of_ble_eq_true rfl) rfl ?_
  intro p e s m args below meth c A C
  unfold f_J6_bitCount_0f7a4
  refine x_iload_n C dJ6_bitCount_0f7a4_0 0 rfl ?_
  refine x_iload_n C dJ6_bitCount_0f7a4_1 0 rfl ?_
  refine x_iconst C 1 dJ6_bitCount_0f7a4_2 (by decide) ?_
  refine x_iushr C dJ6_bitCount_0f7a4_3 ?_
  refine x_ldcw C mw_68 dJ6_bitCount_0f7a4_4 ?_
  refine x_iand C dJ6_bitCount_0f7a4_7 ?_
  refine x_isub C dJ6_bitCount_0f7a4_8 ?_
  refine x_istore_n (L' := [(0, .int (xb - (((xb.toUInt32 >>> ((1 : Int32).toUInt32 &&& Int32.toUInt32 31)).toInt32) &&& 1431655765)))]) C dJ6_bitCount_0f7a4_9 (by decide) rfl ?_
  refine x_join (fun (b1 : Int32) => f_J6_bitCount_0f7a4_k10 b1) 10 (fun (b1 : Int32) => [(0, .int b1)]) (fun (b1 : Int32) => []) (fun (b1 : Int32) => []) (fun b1 => ?_) (xb - (((xb.toUInt32 >>> ((1 : Int32).toUInt32 &&& Int32.toUInt32 31)).toInt32) &&& 1431655765)) (fun J10 => ?_)
  · unfold f_J6_bitCount_0f7a4_k10
    refine x_iload_n C dJ6_bitCount_0f7a4_10 0 rfl ?_
    refine x_ldcw C mw_69 dJ6_bitCount_0f7a4_11 ?_
    refine x_iand C dJ6_bitCount_0f7a4_14 ?_
    refine x_iload_n C dJ6_bitCount_0f7a4_15 0 rfl ?_
    refine x_iconst C 2 dJ6_bitCount_0f7a4_16 (by decide) ?_
    refine x_iushr C dJ6_bitCount_0f7a4_17 ?_
    refine x_ldcw C mw_69 dJ6_bitCount_0f7a4_18 ?_
    refine x_iand C dJ6_bitCount_0f7a4_21 ?_
    refine x_iadd C dJ6_bitCount_0f7a4_22 ?_
    refine x_istore_n (L' := [(0, .int ((b1 &&& 858993459) + (((b1.toUInt32 >>> ((2 : Int32).toUInt32 &&& Int32.toUInt32 31)).toInt32) &&& 858993459)))]) C dJ6_bitCount_0f7a4_23 (by decide) rfl ?_
    refine x_join (fun (b2 : Int32) => f_J6_bitCount_0f7a4_k24 b2) 24 (fun (b2 : Int32) => [(0, .int b2)]) (fun (b2 : Int32) => []) (fun (b2 : Int32) => []) (fun b2 => ?_) ((b1 &&& 858993459) + (((b1.toUInt32 >>> ((2 : Int32).toUInt32 &&& Int32.toUInt32 31)).toInt32) &&& 858993459)) (fun J9 => ?_)
    · unfold f_J6_bitCount_0f7a4_k24
      refine x_iload_n C dJ6_bitCount_0f7a4_24 0 rfl ?_
      refine x_iload_n C dJ6_bitCount_0f7a4_25 0 rfl ?_
      refine x_iconst C 4 dJ6_bitCount_0f7a4_26 (by decide) ?_
      refine x_iushr C dJ6_bitCount_0f7a4_27 ?_
      refine x_iadd C dJ6_bitCount_0f7a4_28 ?_
      refine x_ldcw C mw_70 dJ6_bitCount_0f7a4_29 ?_
      refine x_iand C dJ6_bitCount_0f7a4_32 ?_
      refine x_istore_n (L' := [(0, .int ((b2 + ((b2.toUInt32 >>> ((4 : Int32).toUInt32 &&& Int32.toUInt32 31)).toInt32)) &&& 252645135))]) C dJ6_bitCount_0f7a4_33 (by decide) rfl ?_
      refine x_join (fun (b3 : Int32) => f_J6_bitCount_0f7a4_k34 b3) 34 (fun (b3 : Int32) => [(0, .int b3)]) (fun (b3 : Int32) => []) (fun (b3 : Int32) => []) (fun b3 => ?_) ((b2 + ((b2.toUInt32 >>> ((4 : Int32).toUInt32 &&& Int32.toUInt32 31)).toInt32)) &&& 252645135) (fun J8 => ?_)
      · unfold f_J6_bitCount_0f7a4_k34
        refine x_iload_n C dJ6_bitCount_0f7a4_34 0 rfl ?_
        refine x_iload_n C dJ6_bitCount_0f7a4_35 0 rfl ?_
        refine x_bipush C 8 dJ6_bitCount_0f7a4_36 (by decide) ?_
        refine x_iushr C dJ6_bitCount_0f7a4_38 ?_
        refine x_iadd C dJ6_bitCount_0f7a4_39 ?_
        refine x_istore_n (L' := [(0, .int (b3 + ((b3.toUInt32 >>> ((8 : Int32).toUInt32 &&& Int32.toUInt32 31)).toInt32)))]) C dJ6_bitCount_0f7a4_40 (by decide) rfl ?_
        refine x_join (fun (b4 : Int32) => f_J6_bitCount_0f7a4_k41 b4) 41 (fun (b4 : Int32) => [(0, .int b4)]) (fun (b4 : Int32) => []) (fun (b4 : Int32) => []) (fun b4 => ?_) (b3 + ((b3.toUInt32 >>> ((8 : Int32).toUInt32 &&& Int32.toUInt32 31)).toInt32)) (fun J7 => ?_)
        · unfold f_J6_bitCount_0f7a4_k41
          refine x_iload_n C dJ6_bitCount_0f7a4_41 0 rfl ?_
          refine x_iload_n C dJ6_bitCount_0f7a4_42 0 rfl ?_
          refine x_bipush C 16 dJ6_bitCount_0f7a4_43 (by decide) ?_
          refine x_iushr C dJ6_bitCount_0f7a4_45 ?_
          refine x_iadd C dJ6_bitCount_0f7a4_46 ?_
          refine x_istore_n (L' := [(0, .int (b4 + ((b4.toUInt32 >>> ((16 : Int32).toUInt32 &&& Int32.toUInt32 31)).toInt32)))]) C dJ6_bitCount_0f7a4_47 (by decide) rfl ?_
          refine x_join (fun (b5 : Int32) => f_J6_bitCount_0f7a4_k48 b5) 48 (fun (b5 : Int32) => [(0, .int b5)]) (fun (b5 : Int32) => []) (fun (b5 : Int32) => []) (fun b5 => ?_) (b4 + ((b4.toUInt32 >>> ((16 : Int32).toUInt32 &&& Int32.toUInt32 31)).toInt32)) (fun J6 => ?_)
          · unfold f_J6_bitCount_0f7a4_k48
            refine x_iload_n C dJ6_bitCount_0f7a4_48 0 rfl ?_
            refine x_bipush C 63 dJ6_bitCount_0f7a4_49 (by decide) ?_
            refine x_iand C dJ6_bitCount_0f7a4_51 ?_
            exact x_iret C rfl dJ6_bitCount_0f7a4_52 rfl rfl
          · exact J6 _
        · exact J7 _
      · exact J8 _
    · exact J9 _
  · exact J10 _

def f_J9_floorMod_7cf53 (xa : Int32) (xb : Int32) : Int32 := if (xa ^^^ xb) < 0 then (if (xa - xa / xb * xb) = 0 then (xa - xa / xb * xb) else ((xa - xa / xb * xb) + xb)) else (xa - xa / xb * xb)
theorem hd_J9_floorMod_7cf53 : yJ9_floorMod_7cf53.cls ≠ "java/lang/invoke/MethodHandle" ∧ yJ9_floorMod_7cf53.cls ≠ "java/lang/invoke/VarHandle" ∧ (parseMethodDescriptor yJ9_floorMod_7cf53.desc).map (fun d => d.parameters.length) = some 2 := by decide +kernel
set_option maxHeartbeats 4000000 in
set_option maxRecDepth 100000 in
theorem c_J9_floorMod_7cf53 (l : Launch) (D : va_G) (cI cZ cO : ClassId)  (xa : Int32) (xb : Int32) (hy0 : ¬ xb = 0) : CTi l D (T3 cI cZ cO) yJ9_floorMod_7cf53 (Cond.code yJ9_floorMod_7cf53 cJ9_floorMod_7cf53 3 (some .int) :: WA) ({ frames := 0, cells := 0, slots := 0, locals := 0 } : Room) [.int xa, .int xb] ([]) ((f_J9_floorMod_7cf53 xa xb)) ([]) := by
  refine ct_i (K := fun z => z) (t := f_J9_floorMod_7cf53 xa xb) (rf := fun o => o) (wf := fun o => []) (own := RJ9) (nm := "floorMod") (L0 := [(0, .int xa), (1, .int xb)]) (by decide +kernel) rfl rfl (Nat.le_of_ble_eq_true rfl) rfl ?_
  intro p e s m args below meth c A C
  unfold f_J9_floorMod_7cf53
  refine x_iload_n C dJ9_floorMod_7cf53_0 0 rfl ?_
  refine x_iload_n C dJ9_floorMod_7cf53_1 1 rfl ?_
  refine x_irem C dJ9_floorMod_7cf53_2 (by first | decide | assumption) ?_
  refine x_istore_n (L' := [(2, .int (xa - xa / xb * xb)), (0, .int xa), (1, .int xb)]) C dJ9_floorMod_7cf53_3 (by decide) rfl ?_
  refine x_iload_n C dJ9_floorMod_7cf53_4 1 rfl ?_
  refine x_iload_n C dJ9_floorMod_7cf53_5 2 rfl ?_
  refine x_ixor C dJ9_floorMod_7cf53_6 ?_
  refine x_if_ge C 18 dJ9_floorMod_7cf53_7 (by decide) (fun c1 => ?_) (fun c1 => ?_)
  · refine x_iload_n C dJ9_floorMod_7cf53_10 0 rfl ?_
    refine x_if_eq C 18 dJ9_floorMod_7cf53_11 (by decide) (fun c2 => ?_) (fun c2 => ?_)
    · refine x_iload_n C dJ9_floorMod_7cf53_18 0 rfl ?_
      exact x_iret C rfl dJ9_floorMod_7cf53_19 rfl rfl
    · refine x_iload_n C dJ9_floorMod_7cf53_14 0 rfl ?_
      refine x_iload_n C dJ9_floorMod_7cf53_15 2 rfl ?_
      refine x_iadd C dJ9_floorMod_7cf53_16 ?_
      exact x_iret C rfl dJ9_floorMod_7cf53_17 rfl rfl
  · refine x_iload_n C dJ9_floorMod_7cf53_18 0 rfl ?_
    exact x_iret C rfl dJ9_floorMod_7cf53_19 rfl rfl

theorem r_int (x : Int32) : (x - x / 64 * 64).toInt = x.toInt.tmod 64 := by
  have z : (64 : Int32).toInt = 64 := by decide
  have h1 := Int32.toInt_lt x
  have h2 := Int32.le_toInt x
  have e := Int.tmod_add_mul_tdiv x.toInt 64
  have b1 : x.toInt.tmod 64 < 64 := Int.tmod_lt_of_pos _ (by decide)
  have b2 : -64 < x.toInt.tmod 64 := by
    have h3 : (-x.toInt).tmod 64 < 64 := Int.tmod_lt_of_pos _ (by decide)
    rw [Int.neg_tmod] at h3
    omega
  have s1 : 0 ≤ x.toInt → 0 ≤ x.toInt.tmod 64 := fun h => Int.tmod_nonneg _ h
  have q : (x / 64).toInt = x.toInt.tdiv 64 := by
    rw [Int32.toInt_div, z]
    apply Int.bmod_eq_of_le <;> omega
  rw [Int32.toInt_sub, Int32.toInt_mul, q, z]
  rw [Int.bmod_eq_of_le (n := x.toInt.tdiv 64 * 64) (by omega) (by omega)]
  rw [Int.bmod_eq_of_le (by omega) (by omega)]
  omega

theorem r_neg {x : Int32} (h : x < 0) : -64 < (x - x / 64 * 64).toInt ∧ (x - x / 64 * 64).toInt ≤ 0 := by
  rw [r_int]
  rw [Int32.lt_iff_toInt_lt] at h
  have z : (0 : Int32).toInt = 0 := by decide
  have h3 : (-x.toInt).tmod 64 < 64 := Int.tmod_lt_of_pos _ (by decide)
  have h4 : 0 ≤ (-x.toInt).tmod 64 := Int.tmod_nonneg _ (by omega)
  rw [Int.neg_tmod] at h3 h4
  omega
theorem r64 {r : Int32} (h1 : -64 < r.toInt) (h2 : r.toInt ≤ 0) (h0 : ¬ r = 0) : 0 < (r + 64).toInt ∧ (r + 64).toInt < 64 := by
  have z : (64 : Int32).toInt = 64 := by decide
  rw [Int32.toInt_add, z, Int.bmod_eq_of_le (by omega) (by omega)]
  have : ¬ r.toInt = 0 := fun q => h0 (Int32.toInt_inj.mp q)
  omega
theorem xor_nn {x : Int32} (h : ¬ x < 0) : ¬ (x ^^^ 64) < 0 := by
  intro h2
  have a : x.toBitVec.msb = false := by
    rw [Int32.lt_iff_toInt_lt] at h
    have z : (0 : Int32).toInt = 0 := by decide
    rw [z] at h
    have : ¬ x.toBitVec.toInt < 0 := h
    rw [BitVec.msb_eq_toInt]
    exact decide_eq_false this
  have b : (x ^^^ 64).toBitVec.msb = true := by
    rw [Int32.lt_iff_toInt_lt] at h2
    have z : (0 : Int32).toInt = 0 := by decide
    rw [z] at h2
    rw [BitVec.msb_eq_toInt]
    exact decide_eq_true h2
  rw [Int32.toBitVec_xor, BitVec.msb_xor, a] at b
  revert b; decide
theorem xor_ng {x : Int32} (h : x < 0) : (x ^^^ 64) < 0 := by
  have z : (0 : Int32).toInt = 0 := by decide
  have a : x.toBitVec.msb = true := by
    rw [Int32.lt_iff_toInt_lt, z] at h
    rw [BitVec.msb_eq_toInt]
    exact decide_eq_true h
  have b : (x ^^^ 64).toBitVec.msb = true := by
    rw [Int32.toBitVec_xor, BitVec.msb_xor, a]; decide
  rw [Int32.lt_iff_toInt_lt, z]
  rw [BitVec.msb_eq_toInt] at b
  exact of_decide_eq_true b
theorem ix64 {y : Int32} (h1 : 0 ≤ y.toInt) (h2 : y.toInt < 64) : y = nI (ixn y) ∧ ixn y < 64 := by
  have z : (0 : Int32).toInt = 0 := by decide
  obtain ⟨j, hj, e⟩ := nI_of (x := y) (fun q => by rw [Int32.lt_iff_toInt_lt, z] at q; omega)
  have e2 : ixn y = j := by rw [e]; exact nI_clamp hj
  have e3 : y.toInt = (j : Int) := by rw [e]; exact nI_toInt hj
  rw [e2]
  exact ⟨e, by omega⟩
theorem fm64 (x : Int32) : f_J9_floorMod_7cf53 x 64 = nI (ixn (f_J9_floorMod_7cf53 x 64)) ∧ ixn (f_J9_floorMod_7cf53 x 64) < 64 := by
  have z : (0 : Int32).toInt = 0 := by decide
  have key : 0 ≤ (f_J9_floorMod_7cf53 x 64).toInt ∧ (f_J9_floorMod_7cf53 x 64).toInt < 64 := by
    unfold f_J9_floorMod_7cf53
    by_cases h : x < 0
    · rw [if_pos (xor_ng h)]
      obtain ⟨a, b⟩ := r_neg h
      by_cases h0 : x - x / 64 * 64 = 0
      · rw [if_pos h0, h0, z]; exact ⟨by decide, by decide⟩
      · rw [if_neg h0]
        obtain ⟨c, d⟩ := r64 a b h0
        exact ⟨by omega, d⟩
    · rw [if_neg (xor_nn h), r_int]
      rw [Int32.lt_iff_toInt_lt, z] at h
      exact ⟨Int.tmod_nonneg _ (by omega), Int.tmod_lt_of_pos _ (by decide)⟩
  exact ix64 key.1 key.2
def f_X6_outside (xn : Int32) (xg : Int32) : Bool := if xn < 0 then true else (if xg < xn then true else false)
theorem hd_X6_outside : yX6_outside.cls ≠ "java/lang/invoke/MethodHandle" ∧ yX6_outside.cls ≠ "java/lang/invoke/VarHandle" ∧ (parseMethodDescriptor yX6_outside.desc).map (fun d => d.parameters.length) = some 2 := by decide +kernel
set_option maxHeartbeats 4000000 in
set_option maxRecDepth 100000 in
theorem c_X6_outside (l : Launch) (D : va_G) (cI cZ cO : ClassId)  (xn : Int32) (xg : Int32)  : CTi l D (T3 cI cZ cO) yX6_outside (Cond.code yX6_outside cX6_outside 2 (some .boolean) :: WA) ({ frames := 0, cells := 0, slots := 0, locals := 0 } : Room) [.int xn, .int xg] ([]) (b2i (f_X6_outside xn xg)) ([]) := by
  refine ct_i (K := fun z => z) (t := f_X6_outside xn xg) (rf := fun o => b2i o) (wf := fun o => []) (own := RX6) (nm := "outside") (L0 := [(0, .int xn), (1, .int xg)]) (plainFor_of_name (by decide +kernel)) rfl rfl (Nat.le_of_ble_eq_true rfl) rfl ?_
  intro p e s m args below meth c A C
  unfold f_X6_outside
  refine x_iload_n C dX6_outside_0 0 rfl ?_
  refine x_if_lt C 9 dX6_outside_1 (by decide) (fun c1 => ?_) (fun c1 => ?_)
  · refine x_iconst C 1 dX6_outside_9 (by decide) ?_
    refine x_goto C 14 dX6_outside_10 (by decide) ?_
    exact x_zret C rfl (by decide) dX6_outside_14 rfl rfl
  · refine x_iload_n C dX6_outside_4 0 rfl ?_
    refine x_iload_n C dX6_outside_5 1 rfl ?_
    refine x_icmp_le C 13 dX6_outside_6 (by decide) (fun c2 => ?_) (fun c2 => ?_)
    · refine x_iconst C 1 dX6_outside_9 (by decide) ?_
      refine x_goto C 14 dX6_outside_10 (by decide) ?_
      exact x_zret C rfl (by decide) dX6_outside_14 rfl rfl
    · refine x_iconst C 0 dX6_outside_13 (by decide) ?_
      exact x_zret C rfl (by decide) dX6_outside_14 rfl rfl

def f_X6_bit (xb : Bool) : Int32 := if xb = true then 1 else 0
theorem hd_X6_bit : yX6_bit.cls ≠ "java/lang/invoke/MethodHandle" ∧ yX6_bit.cls ≠ "java/lang/invoke/VarHandle" ∧ (parseMethodDescriptor yX6_bit.desc).map (fun d => d.parameters.length) = some 1 := by decide +kernel
set_option maxHeartbeats 4000000 in
set_option maxRecDepth 100000 in
theorem c_X6_bit (l : Launch) (D : va_G) (cI cZ cO : ClassId)  (xb : Bool)  : CTi l D (T3 cI cZ cO) yX6_bit (Cond.code yX6_bit cX6_bit 1 (some .int) :: WA) ({ frames := 0, cells := 0, slots := 0, locals := 0 } : Room) [.int (b2i xb)] ([]) ((f_X6_bit xb)) ([]) := by
  refine ct_i (K := fun z => z) (t := f_X6_bit xb) (rf := fun o => o) (wf := fun o => []) (own := RX6) (nm := "bit") (L0 := [(0, .int (b2i xb))]) (plainFor_of_name (by decide +kernel)) rfl rfl (Nat.le_of_ble_eq_true rfl) rfl ?_
  intro p e s m args below meth c A C
  unfold f_X6_bit
  refine x_iload_n C dX6_bit_0 0 rfl ?_
  refine x_if_eqZ C 8 dX6_bit_1 (by decide) (fun c1 => ?_) (fun c1 => ?_)
  · refine x_iconst C 1 dX6_bit_4 (by decide) ?_
    refine x_goto C 9 dX6_bit_5 (by decide) ?_
    exact x_iret C rfl dX6_bit_9 rfl rfl
  · refine x_iconst C 0 dX6_bit_8 (by decide) ?_
    exact x_iret C rfl dX6_bit_9 rfl rfl

def f_X6_has (xb : Int32) (xi : Int32) : Bool := if ((xb >>> (xi &&& 31)) &&& 1) = 1 then true else false
theorem hd_X6_has : yX6_has.cls ≠ "java/lang/invoke/MethodHandle" ∧ yX6_has.cls ≠ "java/lang/invoke/VarHandle" ∧ (parseMethodDescriptor yX6_has.desc).map (fun d => d.parameters.length) = some 2 := by decide +kernel
set_option maxHeartbeats 4000000 in
set_option maxRecDepth 100000 in
theorem c_X6_has (l : Launch) (D : va_G) (cI cZ cO : ClassId)  (xb : Int32) (xi : Int32)  : CTi l D (T3 cI cZ cO) yX6_has (Cond.code yX6_has cX6_has 2 (some .boolean) :: WA) ({ frames := 0, cells := 0, slots := 0, locals := 0 } : Room) [.int xb, .int xi] ([]) (b2i (f_X6_has xb xi)) ([]) := by
  refine ct_i (K := fun z => z) (t := f_X6_has xb xi) (rf := fun o => b2i o) (wf := fun o => []) (own := RX6) (nm := "has") (L0 := [(0, .int xb), (1, .int xi)]) (plainFor_of_name (by decide +kernel)) rfl rfl (Nat.le_of_ble_eq_true rfl) rfl ?_
  intro p e s m args below meth c A C
  unfold f_X6_has
  refine x_iload_n C dX6_has_0 0 rfl ?_
  refine x_iload_n C dX6_has_1 1 rfl ?_
  refine x_ishr C dX6_has_2 ?_
  refine x_iconst C 1 dX6_has_3 (by decide) ?_
  refine x_iand C dX6_has_4 ?_
  refine x_iconst C 1 dX6_has_5 (by decide) ?_
  refine x_icmp_ne C 13 dX6_has_6 (by decide) (fun c1 => ?_) (fun c1 => ?_)
  · refine x_iconst C 1 dX6_has_9 (by decide) ?_
    refine x_goto C 14 dX6_has_10 (by decide) ?_
    exact x_zret C rfl (by decide) dX6_has_14 rfl rfl
  · refine x_iconst C 0 dX6_has_13 (by decide) ?_
    exact x_zret C rfl (by decide) dX6_has_14 rfl rfl

def f_X6_both (xb : Int32) (xo : Int32) (xp : Int32) : Bool := if (f_X6_has xb xo) = true then (if (f_X6_has xb xp) = true then true else false) else false
theorem hd_X6_both : yX6_both.cls ≠ "java/lang/invoke/MethodHandle" ∧ yX6_both.cls ≠ "java/lang/invoke/VarHandle" ∧ (parseMethodDescriptor yX6_both.desc).map (fun d => d.parameters.length) = some 3 := by decide +kernel
set_option maxHeartbeats 4000000 in
set_option maxRecDepth 100000 in
theorem c_X6_both (l : Launch) (D : va_G) (cI cZ cO : ClassId)  (xb : Int32) (xo : Int32) (xp : Int32)  : CTi l D (T3 cI cZ cO) yX6_both (Cond.code yX6_both cX6_both 3 (some .boolean) :: WA) ({ frames := 1, cells := 0, slots := 0, locals := 21 } : Room) [.int xb, .int xo, .int xp] ([]) (b2i (f_X6_both xb xo xp)) ([]) := by
  refine ct_i (K := fun z => z) (t := f_X6_both xb xo xp) (rf := fun o => b2i o) (wf := fun o => []) (own := RX6) (nm := "both") (L0 := [(0, .int xb), (1, .int xo), (2, .int xp)]) (plainFor_of_name (by decide +kernel)) rfl rfl (Nat.le_of_ble_eq_true rfl) rfl ?_
  intro p e s m args below meth c A C
  unfold f_X6_both
  refine x_iload_n C dX6_both_0 0 rfl ?_
  refine x_iload_n C dX6_both_1 1 rfl ?_
  refine x_cSiW (As := [.int xb, .int xo]) C mw_267 mw_108 mw_37 mw_105 hd_X6_has rfl rfl ⟨Nat.le_of_ble_eq_true rfl, Nat.le_of_ble_eq_true rfl⟩ (c_X6_has l D cI cZ cO  xb xo ) rfl rfl (Nat.le_of_ble_eq_true rfl) (Nat.le_of_ble_eq_true rfl) (Nat.le_of_ble_eq_true rfl) dX6_both_2 ?_
  refine x_if_eqZ C 20 dX6_both_5 (by decide) (fun c1 => ?_) (fun c1 => ?_)
  · refine x_iload_n C dX6_both_8 0 rfl ?_
    refine x_iload_n C dX6_both_9 2 rfl ?_
    refine x_cSiW (As := [.int xb, .int xp]) C mw_267 mw_108 mw_37 mw_105 hd_X6_has rfl rfl ⟨Nat.le_of_ble_eq_true rfl, Nat.le_of_ble_eq_true rfl⟩ (c_X6_has l D cI cZ cO  xb xp ) rfl rfl (Nat.le_of_ble_eq_true rfl) (Nat.le_of_ble_eq_true rfl) (Nat.le_of_ble_eq_true rfl) dX6_both_10 ?_
    refine x_if_eqZ C 20 dX6_both_13 (by decide) (fun c2 => ?_) (fun c2 => ?_)
    · refine x_iconst C 1 dX6_both_16 (by decide) ?_
      refine x_goto C 21 dX6_both_17 (by decide) ?_
      exact x_zret C rfl (by decide) dX6_both_21 rfl rfl
    · refine x_iconst C 0 dX6_both_20 (by decide) ?_
      exact x_zret C rfl (by decide) dX6_both_21 rfl rfl
  · refine x_iconst C 0 dX6_both_20 (by decide) ?_
    exact x_zret C rfl (by decide) dX6_both_21 rfl rfl

def f_X1_add (uG : St) (xt : Int32) (xm : Int32) (xw : Int32) : St := put (put (put (put uG 0 ((ixn (f_J9_floorMod_7cf53 (uG 1 0) 64)) * 3) xt) 0 (((ixn (f_J9_floorMod_7cf53 (uG 1 0) 64)) * 3) + 1) xm) 0 (((ixn (f_J9_floorMod_7cf53 (uG 1 0) 64)) * 3) + 2) xw) 1 0 ((uG 1 0) + 1)
theorem hd_X1_add : yX1_add.cls ≠ "java/lang/invoke/MethodHandle" ∧ yX1_add.cls ≠ "java/lang/invoke/VarHandle" ∧ (parseMethodDescriptor yX1_add.desc).map (fun d => d.parameters.length) = some 3 := by decide +kernel
set_option maxHeartbeats 4000000 in
set_option maxRecDepth 100000 in
theorem c_X1_add (l : Launch) (D : va_G) (cI cZ cO : ClassId) (hG aG0 : Nat) (uG : St) (xt : Int32) (xm : Int32) (xw : Int32)  : CTv l D (T3 cI cZ cO) yX1_add (Cond.code yX1_add cX1_add 5 none :: WA) ({ frames := 1, cells := 0, slots := 0, locals := 22 } : Room) [.ref hG, .int xt, .int xm, .int xw] (wX1 cI cZ cO hG aG0 uG) (wX1 cI cZ cO hG aG0 (f_X1_add uG xt xm xw)) := by
  refine ct_v (K := fun z => z) (t := f_X1_add uG xt xm xw) (wf := fun o => wX1 cI cZ cO hG aG0 o) (own := RX1) (nm := "add") (L0 := [(0, .ref hG), (1, .int xt), (2, .int xm), (3, .int xw)]) (plainFor_of_name (by decide +kernel)) rfl rfl (Nat.le_of_ble_eq_true rfl) rfl ?_
  intro p e s m args below meth c A C
  unfold f_X1_add
  refine x_aload_n C dX1_add_0 0 rfl ?_
  refine x_get (v := .int (uG 1 0)) C hwsX10 1 mw_100 0 rfl rfl (by decide) rfl rfl dX1_add_1 ?_
  refine x_bipush C 64 dX1_add_4 (by decide) ?_
  refine x_cSi (As := [.int (uG 1 0), .int 64]) (ws' := wX1 cI cZ cO hG aG0 uG) C mw_102 mw_103 mw_104 mw_98 hd_J9_floorMod_7cf53 rfl rfl ⟨Nat.le_of_ble_eq_true rfl, Nat.le_of_ble_eq_true rfl⟩ (c_J9_floorMod_7cf53 l D cI cZ cO  (uG 1 0) 64 (by first | omega | decide | assumption)) [] [.inl 0, .inl 1] trivial rfl ⟨rfl, rfl, trivial⟩ rfl ⟨rfl, rfl, trivial⟩ rfl rfl (Nat.le_of_ble_eq_true rfl) (Nat.le_of_ble_eq_true rfl) (Nat.le_of_ble_eq_true rfl) dX1_add_6 ?_
  have hfm := fm64 (uG 1 0)
  refine x_top (nI (ixn (f_J9_floorMod_7cf53 (uG 1 0) 64))) hfm.1 ?_
  refine x_iconst C 3 dX1_add_9 (by decide) ?_
  refine x_imul C dX1_add_10 ?_
  refine x_top (nI ((ixn (f_J9_floorMod_7cf53 (uG 1 0) 64)) * 3)) (pk_mul _ _) ?_
  refine x_istore (L' := [(4, .int (nI ((ixn (f_J9_floorMod_7cf53 (uG 1 0) 64)) * 3))), (0, .ref hG), (1, .int xt), (2, .int xm), (3, .int xw)]) C dX1_add_11 (by decide) rfl ?_
  refine x_aload_n C dX1_add_13 1 rfl ?_
  refine x_get (v := .ref aG0) C hwsX10 0 mw_101 0 rfl rfl (by decide) rfl rfl dX1_add_14 ?_
  refine x_iload C dX1_add_17 0 rfl ?_
  refine x_iload_n C dX1_add_19 2 rfl ?_
  refine x_iast (ws' := wX1 cI cZ cO hG aG0 (put uG 0 ((ixn (f_J9_floorMod_7cf53 (uG 1 0) 64)) * 3) xt)) C 1 0 rfl rfl ((ixn (f_J9_floorMod_7cf53 (uG 1 0) 64)) * 3) rfl (by omega) (by decide) dX1_add_20 rfl ?_
  refine x_aload_n C dX1_add_21 1 rfl ?_
  refine x_get (v := .ref aG0) C hwsX10 0 mw_101 0 rfl rfl (by decide) rfl rfl dX1_add_22 ?_
  refine x_iload C dX1_add_25 0 rfl ?_
  refine x_iconst C 1 dX1_add_27 (by decide) ?_
  refine x_iadd C dX1_add_28 ?_
  refine x_top (nI (((ixn (f_J9_floorMod_7cf53 (uG 1 0) 64)) * 3) + 1)) (nI_add _ _) ?_
  refine x_iload_n C dX1_add_29 3 rfl ?_
  refine x_iast (ws' := wX1 cI cZ cO hG aG0 (put (put uG 0 ((ixn (f_J9_floorMod_7cf53 (uG 1 0) 64)) * 3) xt) 0 (((ixn (f_J9_floorMod_7cf53 (uG 1 0) 64)) * 3) + 1) xm)) C 1 0 rfl rfl (((ixn (f_J9_floorMod_7cf53 (uG 1 0) 64)) * 3) + 1) rfl (by omega) (by decide) dX1_add_30 rfl ?_
  refine x_aload_n C dX1_add_31 1 rfl ?_
  refine x_get (v := .ref aG0) C hwsX10 0 mw_101 0 rfl rfl (by decide) rfl rfl dX1_add_32 ?_
  refine x_iload C dX1_add_35 0 rfl ?_
  refine x_iconst C 2 dX1_add_37 (by decide) ?_
  refine x_iadd C dX1_add_38 ?_
  refine x_top (nI (((ixn (f_J9_floorMod_7cf53 (uG 1 0) 64)) * 3) + 2)) (nI_add _ _) ?_
  refine x_iload_n C dX1_add_39 4 rfl ?_
  refine x_iast (ws' := wX1 cI cZ cO hG aG0 (put (put (put uG 0 ((ixn (f_J9_floorMod_7cf53 (uG 1 0) 64)) * 3) xt) 0 (((ixn (f_J9_floorMod_7cf53 (uG 1 0) 64)) * 3) + 1) xm) 0 (((ixn (f_J9_floorMod_7cf53 (uG 1 0) 64)) * 3) + 2) xw)) C 1 0 rfl rfl (((ixn (f_J9_floorMod_7cf53 (uG 1 0) 64)) * 3) + 2) rfl (by omega) (by decide) dX1_add_40 rfl ?_
  refine x_aload_n C dX1_add_41 1 rfl ?_
  refine x_dup C dX1_add_42 rfl ?_
  refine x_get (v := .int (uG 1 0)) C hwsX10 1 mw_100 0 rfl rfl (by decide) rfl rfl dX1_add_43 ?_
  refine x_iconst C 1 dX1_add_46 (by decide) ?_
  refine x_iadd C dX1_add_47 ?_
  refine x_put (ws' := wX1 cI cZ cO hG aG0 (put (put (put (put uG 0 ((ixn (f_J9_floorMod_7cf53 (uG 1 0) 64)) * 3) xt) 0 (((ixn (f_J9_floorMod_7cf53 (uG 1 0) 64)) * 3) + 1) xm) 0 (((ixn (f_J9_floorMod_7cf53 (uG 1 0) 64)) * 3) + 2) xw) 1 0 ((uG 1 0) + 1))) C hwsX10 tyX1 tyX1_ok nmX1 1 mw_100 0 rfl rfl (by decide) rfl rfl rfl rfl (Nat.le_of_ble_eq_true rfl) dX1_add_48 rfl ?_
  exact x_vret C rfl dX1_add_51 rfl

def f_X1_number (uG : St) (xi : Int32) (xw : Nat) : Int32 := if xi < 0 then (-1) else (if xi < (uG 1 0) then (if xi < ((uG 1 0) - 64) then (-1) else (uG 0 (((ixn (f_J9_floorMod_7cf53 xi 64)) * 3) + xw))) else (-1))
theorem hd_X1_number : yX1_number.cls ≠ "java/lang/invoke/MethodHandle" ∧ yX1_number.cls ≠ "java/lang/invoke/VarHandle" ∧ (parseMethodDescriptor yX1_number.desc).map (fun d => d.parameters.length) = some 2 := by decide +kernel
set_option maxHeartbeats 4000000 in
set_option maxRecDepth 100000 in
theorem c_X1_number (l : Launch) (D : va_G) (cI cZ cO : ClassId) (hG aG0 : Nat) (uG : St) (xi : Int32) (xw : Nat) (hy0 : xw < 3) : CTi l D (T3 cI cZ cO) yX1_number (Cond.code yX1_number cX1_number 3 (some .int) :: WA) ({ frames := 1, cells := 0, slots := 0, locals := 22 } : Room) [.ref hG, .int xi, .int (nI xw)] (wX1 cI cZ cO hG aG0 uG) ((f_X1_number uG xi xw)) (wX1 cI cZ cO hG aG0 uG) := by
  refine ct_i (K := fun z => z) (t := f_X1_number uG xi xw) (rf := fun o => o) (wf := fun o => wX1 cI cZ cO hG aG0 uG) (own := RX1) (nm := "number") (L0 := [(0, .ref hG), (1, .int xi), (2, .int (nI xw))]) (plainFor_of_name (by decide +kernel)) rfl rfl (Nat.le_of_ble_eq_true rfl) rfl ?_
  intro p e s m args below meth c A C
  unfold f_X1_number
  refine x_iload_n C dX1_number_0 1 rfl ?_
  refine x_if_lt C 23 dX1_number_1 (by decide) (fun c1 => ?_) (fun c1 => ?_)
  · refine x_iconst C (-1) dX1_number_23 (by decide) ?_
    exact x_iret C rfl dX1_number_24 rfl rfl
  · refine x_iload_n C dX1_number_4 1 rfl ?_
    refine x_aload_n C dX1_number_5 0 rfl ?_
    refine x_get (v := .int (uG 1 0)) C hwsX10 1 mw_100 0 rfl rfl (by decide) rfl rfl dX1_number_6 ?_
    refine x_icmp_ge C 23 dX1_number_9 (by decide) (fun c2 => ?_) (fun c2 => ?_)
    · refine x_iload_n C dX1_number_12 1 rfl ?_
      refine x_aload_n C dX1_number_13 0 rfl ?_
      refine x_get (v := .int (uG 1 0)) C hwsX10 1 mw_100 0 rfl rfl (by decide) rfl rfl dX1_number_14 ?_
      refine x_bipush C 64 dX1_number_17 (by decide) ?_
      refine x_isub C dX1_number_19 ?_
      refine x_icmp_ge C 25 dX1_number_20 (by decide) (fun c3 => ?_) (fun c3 => ?_)
      · refine x_iconst C (-1) dX1_number_23 (by decide) ?_
        exact x_iret C rfl dX1_number_24 rfl rfl
      · refine x_aload_n C dX1_number_25 0 rfl ?_
        refine x_get (v := .ref aG0) C hwsX10 0 mw_101 0 rfl rfl (by decide) rfl rfl dX1_number_26 ?_
        refine x_iload_n C dX1_number_29 1 rfl ?_
        refine x_bipush C 64 dX1_number_30 (by decide) ?_
        refine x_cSi (As := [.int xi, .int 64]) (ws' := wX1 cI cZ cO hG aG0 uG) C mw_102 mw_103 mw_104 mw_98 hd_J9_floorMod_7cf53 rfl rfl ⟨Nat.le_of_ble_eq_true rfl, Nat.le_of_ble_eq_true rfl⟩ (c_J9_floorMod_7cf53 l D cI cZ cO  xi 64 (by first | omega | decide | assumption)) [] [.inl 0, .inl 1] trivial rfl ⟨rfl, rfl, trivial⟩ rfl ⟨rfl, rfl, trivial⟩ rfl rfl (Nat.le_of_ble_eq_true rfl) (Nat.le_of_ble_eq_true rfl) (Nat.le_of_ble_eq_true rfl) dX1_number_32 ?_
        have hfm := fm64 xi
        refine x_top (nI (ixn (f_J9_floorMod_7cf53 xi 64))) hfm.1 ?_
        refine x_iconst C 3 dX1_number_35 (by decide) ?_
        refine x_imul C dX1_number_36 ?_
        refine x_top (nI ((ixn (f_J9_floorMod_7cf53 xi 64)) * 3)) (pk_mul _ _) ?_
        refine x_iload_n C dX1_number_37 2 rfl ?_
        refine x_iadd C dX1_number_38 ?_
        refine x_top (nI (((ixn (f_J9_floorMod_7cf53 xi 64)) * 3) + xw)) (nI_add _ _) ?_
        refine x_iald C 1 0 rfl rfl (((ixn (f_J9_floorMod_7cf53 xi 64)) * 3) + xw) rfl (by omega) (by decide) (uG 0 (((ixn (f_J9_floorMod_7cf53 xi 64)) * 3) + xw)) rfl dX1_number_39 ?_
        exact x_iret C rfl dX1_number_40 rfl rfl
    · refine x_iconst C (-1) dX1_number_23 (by decide) ?_
      exact x_iret C rfl dX1_number_24 rfl rfl

def f_X2_usableLength (xw : Int32) : Int32 := if xw < 5 then 15 else (if 40 < xw then 15 else xw)
theorem hd_X2_usableLength : yX2_usableLength.cls ≠ "java/lang/invoke/MethodHandle" ∧ yX2_usableLength.cls ≠ "java/lang/invoke/VarHandle" ∧ (parseMethodDescriptor yX2_usableLength.desc).map (fun d => d.parameters.length) = some 1 := by decide +kernel
set_option maxHeartbeats 4000000 in
set_option maxRecDepth 100000 in
theorem c_X2_usableLength (l : Launch) (D : va_G) (cI cZ cO : ClassId)  (xw : Int32)  : CTi l D (T3 cI cZ cO) yX2_usableLength (Cond.code yX2_usableLength cX2_usableLength 1 (some .int) :: WA) ({ frames := 0, cells := 0, slots := 0, locals := 0 } : Room) [.int xw] ([]) ((f_X2_usableLength xw)) ([]) := by
  refine ct_i (K := fun z => z) (t := f_X2_usableLength xw) (rf := fun o => o) (wf := fun o => []) (own := RX2) (nm := "usableLength") (L0 := [(0, .int xw)]) (plainFor_of_name (by decide +kernel)) rfl rfl (Nat.le_of_ble_eq_true rfl) rfl ?_
  intro p e s m args below meth c A C
  unfold f_X2_usableLength
  refine x_iload_n C dX2_usableLength_0 0 rfl ?_
  refine x_iconst C 5 dX2_usableLength_1 (by decide) ?_
  refine x_icmp_lt C 11 dX2_usableLength_2 (by decide) (fun c1 => ?_) (fun c1 => ?_)
  · refine x_bipush C 15 dX2_usableLength_11 (by decide) ?_
    refine x_goto C 17 dX2_usableLength_13 (by decide) ?_
    exact x_iret C rfl dX2_usableLength_17 rfl rfl
  · refine x_iload_n C dX2_usableLength_5 0 rfl ?_
    refine x_bipush C 40 dX2_usableLength_6 (by decide) ?_
    refine x_icmp_le C 16 dX2_usableLength_8 (by decide) (fun c2 => ?_) (fun c2 => ?_)
    · refine x_bipush C 15 dX2_usableLength_11 (by decide) ?_
      refine x_goto C 17 dX2_usableLength_13 (by decide) ?_
      exact x_iret C rfl dX2_usableLength_17 rfl rfl
    · refine x_iload_n C dX2_usableLength_16 0 rfl ?_
      exact x_iret C rfl dX2_usableLength_17 rfl rfl

def f_X2_greatestLength (uP : St) (xf : Nat) : Int32 := imx (uP 0 xf) (uP 0 (xf + 1))
theorem hd_X2_greatestLength : yX2_greatestLength.cls ≠ "java/lang/invoke/MethodHandle" ∧ yX2_greatestLength.cls ≠ "java/lang/invoke/VarHandle" ∧ (parseMethodDescriptor yX2_greatestLength.desc).map (fun d => d.parameters.length) = some 1 := by decide +kernel
set_option maxHeartbeats 4000000 in
set_option maxRecDepth 100000 in
theorem c_X2_greatestLength (l : Launch) (D : va_G) (cI cZ cO : ClassId) (hP aP0 aP1 aP2 aP3 aP4 : Nat) (uP : St) (xf : Nat) (hy0 : xf + 1 < 6) : CTi l D (T3 cI cZ cO) yX2_greatestLength (Cond.code yX2_greatestLength cX2_greatestLength 2 (some .int) :: WA) ({ frames := 1, cells := 0, slots := 0, locals := 21 } : Room) [.ref hP, .int (nI xf)] (wX2 cI cZ cO hP aP0 aP1 aP2 aP3 aP4 uP) ((f_X2_greatestLength uP xf)) (wX2 cI cZ cO hP aP0 aP1 aP2 aP3 aP4 uP) := by
  refine ct_i (K := fun z => z) (t := f_X2_greatestLength uP xf) (rf := fun o => o) (wf := fun o => wX2 cI cZ cO hP aP0 aP1 aP2 aP3 aP4 uP) (own := RX2) (nm := "greatestLength") (L0 := [(0, .ref hP), (1, .int (nI xf))]) (plainFor_of_name (by decide +kernel)) rfl rfl (Nat.le_of_ble_eq_true rfl) rfl ?_
  intro p e s m args below meth c A C
  unfold f_X2_greatestLength
  refine x_aload_n C dX2_greatestLength_0 0 rfl ?_
  refine x_get (v := .ref aP0) C hwsX20 0 mw_158 0 rfl rfl (by decide) rfl rfl dX2_greatestLength_1 ?_
  refine x_iload_n C dX2_greatestLength_4 1 rfl ?_
  refine x_iald C 1 0 rfl rfl xf rfl (by omega) (by decide) (uP 0 xf) rfl dX2_greatestLength_5 ?_
  refine x_aload_n C dX2_greatestLength_6 0 rfl ?_
  refine x_get (v := .ref aP0) C hwsX20 0 mw_158 0 rfl rfl (by decide) rfl rfl dX2_greatestLength_7 ?_
  refine x_iload_n C dX2_greatestLength_10 1 rfl ?_
  refine x_iconst C 1 dX2_greatestLength_11 (by decide) ?_
  refine x_iadd C dX2_greatestLength_12 ?_
  refine x_top (nI (xf + 1)) (nI_add _ _) ?_
  refine x_iald C 1 0 rfl rfl (xf + 1) rfl (by omega) (by decide) (uP 0 (xf + 1)) rfl dX2_greatestLength_13 ?_
  refine x_mmax C mw_173 mw_174 mw_41 mw_175 (Nat.le_of_ble_eq_true rfl) (Nat.le_of_ble_eq_true rfl) (Nat.le_of_ble_eq_true rfl) (Nat.le_of_ble_eq_true rfl) dX2_greatestLength_14 ?_
  exact x_iret C rfl dX2_greatestLength_17 rfl rfl

def f_X2_moveHandle_k22 (uP : St) (b2 : St) : Int32 × St := (uP 5 0, b2)
def f_X2_moveHandle (uP : St) (xd : Int32) : Int32 × St := f_X2_moveHandle_k22 uP (if (uP 5 0) = xd then uP else (put (put uP 5 0 xd) 7 0 200))
theorem hd_X2_moveHandle : yX2_moveHandle.cls ≠ "java/lang/invoke/MethodHandle" ∧ yX2_moveHandle.cls ≠ "java/lang/invoke/VarHandle" ∧ (parseMethodDescriptor yX2_moveHandle.desc).map (fun d => d.parameters.length) = some 1 := by decide +kernel
set_option maxHeartbeats 4000000 in
set_option maxRecDepth 100000 in
theorem c_X2_moveHandle (l : Launch) (D : va_G) (cI cZ cO : ClassId) (hP aP0 aP1 aP2 aP3 aP4 : Nat) (uP : St) (xd : Int32)  : CTi l D (T3 cI cZ cO) yX2_moveHandle (Cond.code yX2_moveHandle cX2_moveHandle 3 (some .int) :: WA) ({ frames := 0, cells := 0, slots := 0, locals := 0 } : Room) [.ref hP, .int xd] (wX2 cI cZ cO hP aP0 aP1 aP2 aP3 aP4 uP) ((f_X2_moveHandle uP xd).1) (wX2 cI cZ cO hP aP0 aP1 aP2 aP3 aP4 (f_X2_moveHandle uP xd).2) := by
  refine ct_i (K := fun z => z) (t := f_X2_moveHandle uP xd) (rf := fun o => o.1) (wf := fun o => wX2 cI cZ cO hP aP0 aP1 aP2 aP3 aP4 o.2) (own := RX2) (nm := "moveHandle") (L0 := [(0, .ref hP), (1, .int xd)]) (plainFor_of_name (by decide +kernel)) rfl rfl (Nat.le_of_ble_eq_true rfl) rfl ?_
  intro p e s m args below meth c A C
  unfold f_X2_moveHandle
  refine x_aload_n C dX2_moveHandle_0 0 rfl ?_
  refine x_get (v := .int (uP 5 0)) C hwsX20 5 mw_163 0 rfl rfl (by decide) rfl rfl dX2_moveHandle_1 ?_
  refine x_istore_n (L' := [(2, .int (uP 5 0)), (0, .ref hP), (1, .int xd)]) C dX2_moveHandle_4 (by decide) rfl ?_
  refine x_iload_n C dX2_moveHandle_5 0 rfl ?_
  refine x_iload_n C dX2_moveHandle_6 2 rfl ?_
  refine x_join (fun (b2 : St) => f_X2_moveHandle_k22 uP b2) 22 (fun (b2 : St) => [(0, .ref hP), (1, .int xd), (2, .int (uP 5 0))]) (fun (b2 : St) => []) (fun (b2 : St) => wX2 cI cZ cO hP aP0 aP1 aP2 aP3 aP4 b2) (fun b2 => ?_) _ (fun J3 => ?_)
  · unfold f_X2_moveHandle_k22
    refine x_iload_n C dX2_moveHandle_22 2 rfl ?_
    exact x_iret C rfl dX2_moveHandle_23 rfl rfl
  · refine x_icmp_eq C 22 dX2_moveHandle_7 (by decide) (fun c1 => ?_) (fun c1 => ?_)
    · refine x_lsub (L' := [(0, .ref hP), (1, .int xd), (2, .int (uP 5 0))]) [1, 2, 0] rfl ?_
      exact J3 uP
    · refine x_aload_n C dX2_moveHandle_10 1 rfl ?_
      refine x_iload_n C dX2_moveHandle_11 2 rfl ?_
      refine x_put (ws' := wX2 cI cZ cO hP aP0 aP1 aP2 aP3 aP4 (put uP 5 0 xd)) C hwsX20 tyX2 tyX2_ok nmX2 5 mw_163 0 rfl rfl (by decide) rfl rfl rfl rfl (Nat.le_of_ble_eq_true rfl) dX2_moveHandle_12 rfl ?_
      refine x_aload_n C dX2_moveHandle_15 1 rfl ?_
      refine x_sipush C 200 dX2_moveHandle_16 (by decide) ?_
      refine x_put (ws' := wX2 cI cZ cO hP aP0 aP1 aP2 aP3 aP4 (put (put uP 5 0 xd) 7 0 200)) C hwsX20 tyX2 tyX2_ok nmX2 7 mw_165 0 rfl rfl (by decide) rfl rfl rfl rfl (Nat.le_of_ble_eq_true rfl) dX2_moveHandle_19 rfl ?_
      refine x_lsub (L' := [(0, .ref hP), (1, .int xd), (2, .int (uP 5 0))]) [1, 2, 0] rfl ?_
      exact J3 (put (put uP 5 0 xd) 7 0 200)

def f_X2_moveSwitch (uP : St) : St := if (uP 7 0) = 0 then (put uP 6 0 (imx ((uP 6 0) - 2) 0)) else (if (uP 6 0) < 24 then (put uP 6 0 (imn ((uP 6 0) + 3) 24)) else (put uP 7 0 ((uP 7 0) - 1)))
theorem hd_X2_moveSwitch : yX2_moveSwitch.cls ≠ "java/lang/invoke/MethodHandle" ∧ yX2_moveSwitch.cls ≠ "java/lang/invoke/VarHandle" ∧ (parseMethodDescriptor yX2_moveSwitch.desc).map (fun d => d.parameters.length) = some 0 := by decide +kernel
set_option maxHeartbeats 4000000 in
set_option maxRecDepth 100000 in
theorem c_X2_moveSwitch (l : Launch) (D : va_G) (cI cZ cO : ClassId) (hP aP0 aP1 aP2 aP3 aP4 : Nat) (uP : St)  : CTv l D (T3 cI cZ cO) yX2_moveSwitch (Cond.code yX2_moveSwitch cX2_moveSwitch 1 none :: WA) ({ frames := 1, cells := 0, slots := 0, locals := 21 } : Room) [.ref hP] (wX2 cI cZ cO hP aP0 aP1 aP2 aP3 aP4 uP) (wX2 cI cZ cO hP aP0 aP1 aP2 aP3 aP4 (f_X2_moveSwitch uP)) := by
  refine ct_v (K := fun z => z) (t := f_X2_moveSwitch uP) (wf := fun o => wX2 cI cZ cO hP aP0 aP1 aP2 aP3 aP4 o) (own := RX2) (nm := "moveSwitch") (L0 := [(0, .ref hP)]) (plainFor_of_name (by decide +kernel)) rfl rfl (Nat.le_of_ble_eq_true rfl) rfl ?_
  intro p e s m args below meth c A C
  unfold f_X2_moveSwitch
  refine x_aload_n C dX2_moveSwitch_0 0 rfl ?_
  refine x_get (v := .int (uP 7 0)) C hwsX20 7 mw_165 0 rfl rfl (by decide) rfl rfl dX2_moveSwitch_1 ?_
  refine x_if_ne C 24 dX2_moveSwitch_4 (by decide) (fun c1 => ?_) (fun c1 => ?_)
  · refine x_aload_n C dX2_moveSwitch_7 0 rfl ?_
    refine x_aload_n C dX2_moveSwitch_8 0 rfl ?_
    refine x_get (v := .int (uP 6 0)) C hwsX20 6 mw_164 0 rfl rfl (by decide) rfl rfl dX2_moveSwitch_9 ?_
    refine x_iconst C 2 dX2_moveSwitch_12 (by decide) ?_
    refine x_isub C dX2_moveSwitch_13 ?_
    refine x_iconst C 0 dX2_moveSwitch_14 (by decide) ?_
    refine x_mmax C mw_173 mw_174 mw_41 mw_175 (Nat.le_of_ble_eq_true rfl) (Nat.le_of_ble_eq_true rfl) (Nat.le_of_ble_eq_true rfl) (Nat.le_of_ble_eq_true rfl) dX2_moveSwitch_15 ?_
    refine x_put (ws' := wX2 cI cZ cO hP aP0 aP1 aP2 aP3 aP4 (put uP 6 0 (imx ((uP 6 0) - 2) 0))) C hwsX20 tyX2 tyX2_ok nmX2 6 mw_164 0 rfl rfl (by decide) rfl rfl rfl rfl (Nat.le_of_ble_eq_true rfl) dX2_moveSwitch_18 rfl ?_
    refine x_goto C 61 dX2_moveSwitch_21 (by decide) ?_
    exact x_vret C rfl dX2_moveSwitch_61 rfl
  · refine x_aload_n C dX2_moveSwitch_24 0 rfl ?_
    refine x_get (v := .int (uP 6 0)) C hwsX20 6 mw_164 0 rfl rfl (by decide) rfl rfl dX2_moveSwitch_25 ?_
    refine x_bipush C 24 dX2_moveSwitch_28 (by decide) ?_
    refine x_icmp_ge C 51 dX2_moveSwitch_30 (by decide) (fun c2 => ?_) (fun c2 => ?_)
    · refine x_aload_n C dX2_moveSwitch_33 0 rfl ?_
      refine x_aload_n C dX2_moveSwitch_34 0 rfl ?_
      refine x_get (v := .int (uP 6 0)) C hwsX20 6 mw_164 0 rfl rfl (by decide) rfl rfl dX2_moveSwitch_35 ?_
      refine x_iconst C 3 dX2_moveSwitch_38 (by decide) ?_
      refine x_iadd C dX2_moveSwitch_39 ?_
      refine x_bipush C 24 dX2_moveSwitch_40 (by decide) ?_
      refine x_mmin C mw_178 mw_40 mw_41 mw_42 (Nat.le_of_ble_eq_true rfl) (Nat.le_of_ble_eq_true rfl) (Nat.le_of_ble_eq_true rfl) (Nat.le_of_ble_eq_true rfl) dX2_moveSwitch_42 ?_
      refine x_put (ws' := wX2 cI cZ cO hP aP0 aP1 aP2 aP3 aP4 (put uP 6 0 (imn ((uP 6 0) + 3) 24))) C hwsX20 tyX2 tyX2_ok nmX2 6 mw_164 0 rfl rfl (by decide) rfl rfl rfl rfl (Nat.le_of_ble_eq_true rfl) dX2_moveSwitch_45 rfl ?_
      refine x_goto C 61 dX2_moveSwitch_48 (by decide) ?_
      exact x_vret C rfl dX2_moveSwitch_61 rfl
    · refine x_aload_n C dX2_moveSwitch_51 0 rfl ?_
      refine x_dup C dX2_moveSwitch_52 rfl ?_
      refine x_get (v := .int (uP 7 0)) C hwsX20 7 mw_165 0 rfl rfl (by decide) rfl rfl dX2_moveSwitch_53 ?_
      refine x_iconst C 1 dX2_moveSwitch_56 (by decide) ?_
      refine x_isub C dX2_moveSwitch_57 ?_
      refine x_put (ws' := wX2 cI cZ cO hP aP0 aP1 aP2 aP3 aP4 (put uP 7 0 ((uP 7 0) - 1))) C hwsX20 tyX2 tyX2_ok nmX2 7 mw_165 0 rfl rfl (by decide) rfl rfl rfl rfl (Nat.le_of_ble_eq_true rfl) dX2_moveSwitch_58 rfl ?_
      exact x_vret C rfl dX2_moveSwitch_61 rfl

def f_X2_full (uP : St) (xv : Nat) : Bool := if (uP 3 xv) = 360 then true else false
theorem hd_X2_full : yX2_full.cls ≠ "java/lang/invoke/MethodHandle" ∧ yX2_full.cls ≠ "java/lang/invoke/VarHandle" ∧ (parseMethodDescriptor yX2_full.desc).map (fun d => d.parameters.length) = some 1 := by decide +kernel
set_option maxHeartbeats 4000000 in
set_option maxRecDepth 100000 in
theorem c_X2_full (l : Launch) (D : va_G) (cI cZ cO : ClassId) (hP aP0 aP1 aP2 aP3 aP4 : Nat) (uP : St) (xv : Nat) (hy0 : xv < 5) : CTi l D (T3 cI cZ cO) yX2_full (Cond.code yX2_full cX2_full 2 (some .boolean) :: WA) ({ frames := 0, cells := 0, slots := 0, locals := 0 } : Room) [.ref hP, .int (nI xv)] (wX2 cI cZ cO hP aP0 aP1 aP2 aP3 aP4 uP) (b2i (f_X2_full uP xv)) (wX2 cI cZ cO hP aP0 aP1 aP2 aP3 aP4 uP) := by
  refine ct_i (K := fun z => z) (t := f_X2_full uP xv) (rf := fun o => b2i o) (wf := fun o => wX2 cI cZ cO hP aP0 aP1 aP2 aP3 aP4 uP) (own := RX2) (nm := "full") (L0 := [(0, .ref hP), (1, .int (nI xv))]) (plainFor_of_name (by decide +kernel)) rfl rfl (Nat.le_of_ble_eq_true rfl) rfl ?_
  intro p e s m args below meth c A C
  unfold f_X2_full
  refine x_aload_n C dX2_full_0 0 rfl ?_
  refine x_get (v := .ref aP3) C hwsX20 3 mw_161 0 rfl rfl (by decide) rfl rfl dX2_full_1 ?_
  refine x_iload_n C dX2_full_4 1 rfl ?_
  refine x_iald C 4 0 rfl rfl xv rfl (by omega) (by decide) (uP 3 xv) rfl dX2_full_5 ?_
  refine x_sipush C 360 dX2_full_6 (by decide) ?_
  refine x_icmp_ne C 16 dX2_full_9 (by decide) (fun c1 => ?_) (fun c1 => ?_)
  · refine x_iconst C 1 dX2_full_12 (by decide) ?_
    refine x_goto C 17 dX2_full_13 (by decide) ?_
    exact x_zret C rfl (by decide) dX2_full_17 rfl rfl
  · refine x_iconst C 0 dX2_full_16 (by decide) ?_
    exact x_zret C rfl (by decide) dX2_full_17 rfl rfl

def f_X2_fed (uP : St) (xv : Nat) (xa : Bool) (xb : Bool) : Bool := if (uP 4 xv) = 1 then false else (if (uP 4 xv) = 2 then xb else xa)
theorem hd_X2_fed : yX2_fed.cls ≠ "java/lang/invoke/MethodHandle" ∧ yX2_fed.cls ≠ "java/lang/invoke/VarHandle" ∧ (parseMethodDescriptor yX2_fed.desc).map (fun d => d.parameters.length) = some 3 := by decide +kernel
set_option maxHeartbeats 4000000 in
set_option maxRecDepth 100000 in
theorem c_X2_fed (l : Launch) (D : va_G) (cI cZ cO : ClassId) (hP aP0 aP1 aP2 aP3 aP4 : Nat) (uP : St) (xv : Nat) (xa : Bool) (xb : Bool) (hy0 : xv < 5) : CTi l D (T3 cI cZ cO) yX2_fed (Cond.code yX2_fed cX2_fed 4 (some .boolean) :: WA) ({ frames := 0, cells := 0, slots := 0, locals := 0 } : Room) [.ref hP, .int (nI xv), .int (b2i xa), .int (b2i xb)] (wX2 cI cZ cO hP aP0 aP1 aP2 aP3 aP4 uP) (b2i (f_X2_fed uP xv xa xb)) (wX2 cI cZ cO hP aP0 aP1 aP2 aP3 aP4 uP) := by
  refine ct_i (K := fun z => z) (t := f_X2_fed uP xv xa xb) (rf := fun o => b2i o) (wf := fun o => wX2 cI cZ cO hP aP0 aP1 aP2 aP3 aP4 uP) (own := RX2) (nm := "fed") (L0 := [(0, .ref hP), (1, .int (nI xv)), (2, .int (b2i xa)), (3, .int (b2i xb))]) (plainFor_of_name (by decide +kernel)) rfl rfl (Nat.le_of_ble_eq_true rfl) rfl ?_
  intro p e s m args below meth c A C
  unfold f_X2_fed
  refine x_aload_n C dX2_fed_0 0 rfl ?_
  refine x_get (v := .ref aP4) C hwsX20 4 mw_162 0 rfl rfl (by decide) rfl rfl dX2_fed_1 ?_
  refine x_iload_n C dX2_fed_4 1 rfl ?_
  refine x_iald C 5 0 rfl rfl xv rfl (by omega) (by decide) (uP 4 xv) rfl dX2_fed_5 ?_
  refine x_iconst C 1 dX2_fed_6 (by decide) ?_
  refine x_icmp_ne C 12 dX2_fed_7 (by decide) (fun c1 => ?_) (fun c1 => ?_)
  · refine x_iconst C 0 dX2_fed_10 (by decide) ?_
    exact x_zret C rfl (by decide) dX2_fed_11 rfl rfl
  · refine x_aload_n C dX2_fed_12 0 rfl ?_
    refine x_get (v := .ref aP4) C hwsX20 4 mw_162 0 rfl rfl (by decide) rfl rfl dX2_fed_13 ?_
    refine x_iload_n C dX2_fed_16 1 rfl ?_
    refine x_iald C 5 0 rfl rfl xv rfl (by omega) (by decide) (uP 4 xv) rfl dX2_fed_17 ?_
    refine x_iconst C 2 dX2_fed_18 (by decide) ?_
    refine x_icmp_ne C 26 dX2_fed_19 (by decide) (fun c2 => ?_) (fun c2 => ?_)
    · refine x_iload_n C dX2_fed_22 3 rfl ?_
      refine x_goto C 27 dX2_fed_23 (by decide) ?_
      exact x_zret C rfl (nz_b _) dX2_fed_27 rfl rfl
    · refine x_iload_n C dX2_fed_26 2 rfl ?_
      exact x_zret C rfl (nz_b _) dX2_fed_27 rfl rfl

def f_X2_changePressure_k40 (uP : St) (xv : Nat) (b2 : Int32) : St := put uP 3 xv b2
def f_X2_changePressure (uP : St) (xv : Nat) (xg : Bool) : St := f_X2_changePressure_k40 uP xv (if xg = true then (imn ((uP 3 xv) + 36) 360) else (imx ((uP 3 xv) - 10) 0))
theorem hd_X2_changePressure : yX2_changePressure.cls ≠ "java/lang/invoke/MethodHandle" ∧ yX2_changePressure.cls ≠ "java/lang/invoke/VarHandle" ∧ (parseMethodDescriptor yX2_changePressure.desc).map (fun d => d.parameters.length) = some 2 := by decide +kernel
set_option maxHeartbeats 4000000 in
set_option maxRecDepth 100000 in
theorem c_X2_changePressure (l : Launch) (D : va_G) (cI cZ cO : ClassId) (hP aP0 aP1 aP2 aP3 aP4 : Nat) (uP : St) (xv : Nat) (xg : Bool) (hy0 : xv < 5) : CTv l D (T3 cI cZ cO) yX2_changePressure (Cond.code yX2_changePressure cX2_changePressure 3 none :: WA) ({ frames := 1, cells := 0, slots := 0, locals := 21 } : Room) [.ref hP, .int (nI xv), .int (b2i xg)] (wX2 cI cZ cO hP aP0 aP1 aP2 aP3 aP4 uP) (wX2 cI cZ cO hP aP0 aP1 aP2 aP3 aP4 (f_X2_changePressure uP xv xg)) := by
  refine ct_v (K := fun z => z) (t := f_X2_changePressure uP xv xg) (wf := fun o => wX2 cI cZ cO hP aP0 aP1 aP2 aP3 aP4 o) (own := RX2) (nm := "changePressure") (L0 := [(0, .ref hP), (1, .int (nI xv)), (2, .int (b2i xg))]) (plainFor_of_name (by decide +kernel)) rfl rfl (Nat.le_of_ble_eq_true rfl) rfl ?_
  intro p e s m args below meth c A C
  unfold f_X2_changePressure
  refine x_aload_n C dX2_changePressure_0 0 rfl ?_
  refine x_get (v := .ref aP3) C hwsX20 3 mw_161 0 rfl rfl (by decide) rfl rfl dX2_changePressure_1 ?_
  refine x_iload_n C dX2_changePressure_4 1 rfl ?_
  refine x_iload_n C dX2_changePressure_5 2 rfl ?_
  refine x_join (fun (b2 : Int32) => f_X2_changePressure_k40 uP xv b2) 40 (fun (b2 : Int32) => [(0, .ref hP), (1, .int (nI xv)), (2, .int (b2i xg))]) (fun (b2 : Int32) => [.int b2, .int (nI xv), .ref aP3]) (fun (b2 : Int32) => wX2 cI cZ cO hP aP0 aP1 aP2 aP3 aP4 uP) (fun b2 => ?_) _ (fun J3 => ?_)
  · unfold f_X2_changePressure_k40
    refine x_iast (ws' := wX2 cI cZ cO hP aP0 aP1 aP2 aP3 aP4 (put uP 3 xv b2)) C 4 0 rfl rfl xv rfl (by omega) (by decide) dX2_changePressure_40 rfl ?_
    exact x_vret C rfl dX2_changePressure_41 rfl
  · refine x_if_eqZ C 27 dX2_changePressure_6 (by decide) (fun c1 => ?_) (fun c1 => ?_)
    · refine x_aload_n C dX2_changePressure_9 0 rfl ?_
      refine x_get (v := .ref aP3) C hwsX20 3 mw_161 0 rfl rfl (by decide) rfl rfl dX2_changePressure_10 ?_
      refine x_iload_n C dX2_changePressure_13 1 rfl ?_
      refine x_iald C 4 0 rfl rfl xv rfl (by omega) (by decide) (uP 3 xv) rfl dX2_changePressure_14 ?_
      refine x_bipush C 36 dX2_changePressure_15 (by decide) ?_
      refine x_iadd C dX2_changePressure_17 ?_
      refine x_sipush C 360 dX2_changePressure_18 (by decide) ?_
      refine x_mmin C mw_178 mw_40 mw_41 mw_42 (Nat.le_of_ble_eq_true rfl) (Nat.le_of_ble_eq_true rfl) (Nat.le_of_ble_eq_true rfl) (Nat.le_of_ble_eq_true rfl) dX2_changePressure_21 ?_
      refine x_goto C 40 dX2_changePressure_24 (by decide) ?_
      exact J3 (imn ((uP 3 xv) + 36) 360)
    · refine x_aload_n C dX2_changePressure_27 0 rfl ?_
      refine x_get (v := .ref aP3) C hwsX20 3 mw_161 0 rfl rfl (by decide) rfl rfl dX2_changePressure_28 ?_
      refine x_iload_n C dX2_changePressure_31 1 rfl ?_
      refine x_iald C 4 0 rfl rfl xv rfl (by omega) (by decide) (uP 3 xv) rfl dX2_changePressure_32 ?_
      refine x_bipush C 10 dX2_changePressure_33 (by decide) ?_
      refine x_isub C dX2_changePressure_35 ?_
      refine x_iconst C 0 dX2_changePressure_36 (by decide) ?_
      refine x_mmax C mw_173 mw_174 mw_41 mw_175 (Nat.le_of_ble_eq_true rfl) (Nat.le_of_ble_eq_true rfl) (Nat.le_of_ble_eq_true rfl) (Nat.le_of_ble_eq_true rfl) dX2_changePressure_37 ?_
      exact J3 (imx ((uP 3 xv) - 10) 0)

def f_X2_push (uP : St) (xo : Nat) (xi : Nat) : Int32 := (f_X6_bit (f_X2_full uP xo)) - (f_X6_bit (f_X2_full uP xi))
theorem hd_X2_push : yX2_push.cls ≠ "java/lang/invoke/MethodHandle" ∧ yX2_push.cls ≠ "java/lang/invoke/VarHandle" ∧ (parseMethodDescriptor yX2_push.desc).map (fun d => d.parameters.length) = some 2 := by decide +kernel
set_option maxHeartbeats 4000000 in
set_option maxRecDepth 100000 in
theorem c_X2_push (l : Launch) (D : va_G) (cI cZ cO : ClassId) (hP aP0 aP1 aP2 aP3 aP4 : Nat) (uP : St) (xo : Nat) (xi : Nat) (hy0 : xo < 5) (hy1 : xi < 5) : CTi l D (T3 cI cZ cO) yX2_push (Cond.code yX2_push cX2_push 3 (some .int) :: WA) ({ frames := 1, cells := 0, slots := 0, locals := 21 } : Room) [.ref hP, .int (nI xo), .int (nI xi)] (wX2 cI cZ cO hP aP0 aP1 aP2 aP3 aP4 uP) ((f_X2_push uP xo xi)) (wX2 cI cZ cO hP aP0 aP1 aP2 aP3 aP4 uP) := by
  refine ct_i (K := fun z => z) (t := f_X2_push uP xo xi) (rf := fun o => o) (wf := fun o => wX2 cI cZ cO hP aP0 aP1 aP2 aP3 aP4 uP) (own := RX2) (nm := "push") (L0 := [(0, .ref hP), (1, .int (nI xo)), (2, .int (nI xi))]) (plainFor_of_name (by decide +kernel)) rfl rfl (Nat.le_of_ble_eq_true rfl) rfl ?_
  intro p e s m args below meth c A C
  unfold f_X2_push
  refine x_aload_n C dX2_push_0 0 rfl ?_
  refine x_iload_n C dX2_push_1 1 rfl ?_
  refine x_cViW (q0 := 0) (As := [.int (nI xo)]) C mw_182 mw_183 mw_184 mw_171 mw_179 hd_X2_full rfl rfl ⟨Nat.le_of_ble_eq_true rfl, Nat.le_of_ble_eq_true rfl⟩ rfl rfl rfl (c_X2_full l D cI cZ cO hP aP0 aP1 aP2 aP3 aP4 uP xo (by omega)) rfl rfl (Nat.le_of_ble_eq_true rfl) (Nat.le_of_ble_eq_true rfl) (Nat.le_of_ble_eq_true rfl) dX2_push_2 ?_
  refine x_cNi (As := [.int (b2i (f_X2_full uP xo))]) (ws' := wX2 cI cZ cO hP aP0 aP1 aP2 aP3 aP4 uP) C C.2.2.2.1.2.2.1 mw_72 mw_37 mw_66 hd_X6_bit rfl rfl ⟨Nat.le_of_ble_eq_true rfl, Nat.le_of_ble_eq_true rfl⟩ (c_X6_bit l D cI cZ cO  (f_X2_full uP xo) ) [] [.inl 0, .inl 1, .inl 2, .inl 3, .inl 4, .inl 5] trivial rfl ⟨rfl, rfl, rfl, rfl, rfl, rfl, trivial⟩ rfl ⟨rfl, rfl, rfl, rfl, rfl, rfl, trivial⟩ rfl rfl (Nat.le_of_ble_eq_true rfl) (Nat.le_of_ble_eq_true rfl) (Nat.le_of_ble_eq_true rfl) dX2_push_5 ?_
  refine x_aload_n C dX2_push_8 0 rfl ?_
  refine x_iload_n C dX2_push_9 2 rfl ?_
  refine x_cViW (q0 := 0) (As := [.int (nI xi)]) C mw_182 mw_183 mw_184 mw_171 mw_179 hd_X2_full rfl rfl ⟨Nat.le_of_ble_eq_true rfl, Nat.le_of_ble_eq_true rfl⟩ rfl rfl rfl (c_X2_full l D cI cZ cO hP aP0 aP1 aP2 aP3 aP4 uP xi (by omega)) rfl rfl (Nat.le_of_ble_eq_true rfl) (Nat.le_of_ble_eq_true rfl) (Nat.le_of_ble_eq_true rfl) dX2_push_10 ?_
  refine x_cNi (As := [.int (b2i (f_X2_full uP xi))]) (ws' := wX2 cI cZ cO hP aP0 aP1 aP2 aP3 aP4 uP) C C.2.2.2.1.2.2.1 mw_72 mw_37 mw_66 hd_X6_bit rfl rfl ⟨Nat.le_of_ble_eq_true rfl, Nat.le_of_ble_eq_true rfl⟩ (c_X6_bit l D cI cZ cO  (f_X2_full uP xi) ) [] [.inl 0, .inl 1, .inl 2, .inl 3, .inl 4, .inl 5] trivial rfl ⟨rfl, rfl, rfl, rfl, rfl, rfl, trivial⟩ rfl ⟨rfl, rfl, rfl, rfl, rfl, rfl, trivial⟩ rfl rfl (Nat.le_of_ble_eq_true rfl) (Nat.le_of_ble_eq_true rfl) (Nat.le_of_ble_eq_true rfl) dX2_push_13 ?_
  refine x_isub C dX2_push_16 ?_
  exact x_iret C rfl dX2_push_17 rfl rfl

def f_X2_shift (uP : St) (xk : Nat) (xs : Int32) : Bool × St := if xs = 0 then (false, uP) else (if (uP 2 xk) = 1 then (false, uP) else (if ((uP 1 xk) + xs) < 0 then (false, uP) else (if (uP 0 xk) < ((uP 1 xk) + xs) then (false, uP) else (true, put uP 1 xk ((uP 1 xk) + xs)))))
theorem hd_X2_shift : yX2_shift.cls ≠ "java/lang/invoke/MethodHandle" ∧ yX2_shift.cls ≠ "java/lang/invoke/VarHandle" ∧ (parseMethodDescriptor yX2_shift.desc).map (fun d => d.parameters.length) = some 2 := by decide +kernel
set_option maxHeartbeats 4000000 in
set_option maxRecDepth 100000 in
theorem c_X2_shift (l : Launch) (D : va_G) (cI cZ cO : ClassId) (hP aP0 aP1 aP2 aP3 aP4 : Nat) (uP : St) (xk : Nat) (xs : Int32) (hy0 : xk < 6) : CTi l D (T3 cI cZ cO) yX2_shift (Cond.code yX2_shift cX2_shift 4 (some .boolean) :: WA) ({ frames := 0, cells := 0, slots := 0, locals := 0 } : Room) [.ref hP, .int (nI xk), .int xs] (wX2 cI cZ cO hP aP0 aP1 aP2 aP3 aP4 uP) (b2i (f_X2_shift uP xk xs).1) (wX2 cI cZ cO hP aP0 aP1 aP2 aP3 aP4 (f_X2_shift uP xk xs).2) := by
  refine ct_i (K := fun z => z) (t := f_X2_shift uP xk xs) (rf := fun o => b2i o.1) (wf := fun o => wX2 cI cZ cO hP aP0 aP1 aP2 aP3 aP4 o.2) (own := RX2) (nm := "shift") (L0 := [(0, .ref hP), (1, .int (nI xk)), (2, .int xs)]) (plainFor_of_name (by decide +kernel)) rfl rfl (Nat.le_of_ble_eq_true rfl) rfl ?_
  intro p e s m args below meth c A C
  unfold f_X2_shift
  refine x_aload_n C dX2_shift_0 0 rfl ?_
  refine x_get (v := .ref aP1) C hwsX20 1 mw_159 0 rfl rfl (by decide) rfl rfl dX2_shift_1 ?_
  refine x_iload_n C dX2_shift_4 1 rfl ?_
  refine x_iald C 2 0 rfl rfl xk rfl (by omega) (by decide) (uP 1 xk) rfl dX2_shift_5 ?_
  refine x_iload_n C dX2_shift_6 2 rfl ?_
  refine x_iadd C dX2_shift_7 ?_
  refine x_istore_n (L' := [(3, .int ((uP 1 xk) + xs)), (0, .ref hP), (1, .int (nI xk)), (2, .int xs)]) C dX2_shift_8 (by decide) rfl ?_
  refine x_iload_n C dX2_shift_9 3 rfl ?_
  refine x_if_eq C 37 dX2_shift_10 (by decide) (fun c1 => ?_) (fun c1 => ?_)
  · refine x_iconst C 0 dX2_shift_37 (by decide) ?_
    exact x_zret C rfl (by decide) dX2_shift_38 rfl rfl
  · refine x_aload_n C dX2_shift_13 1 rfl ?_
    refine x_get (v := .ref aP2) C hwsX20 2 mw_160 0 rfl rfl (by decide) rfl rfl dX2_shift_14 ?_
    refine x_iload_n C dX2_shift_17 2 rfl ?_
    refine x_iald C 3 0 rfl rfl xk rfl (by omega) (by decide) (uP 2 xk) rfl dX2_shift_18 ?_
    refine x_iconst C 1 dX2_shift_19 (by decide) ?_
    refine x_icmp_eq C 37 dX2_shift_20 (by decide) (fun c2 => ?_) (fun c2 => ?_)
    · refine x_iconst C 0 dX2_shift_37 (by decide) ?_
      exact x_zret C rfl (by decide) dX2_shift_38 rfl rfl
    · refine x_iload_n C dX2_shift_23 0 rfl ?_
      refine x_if_lt C 37 dX2_shift_24 (by decide) (fun c3 => ?_) (fun c3 => ?_)
      · refine x_iconst C 0 dX2_shift_37 (by decide) ?_
        exact x_zret C rfl (by decide) dX2_shift_38 rfl rfl
      · refine x_iload_n C dX2_shift_27 0 rfl ?_
        refine x_aload_n C dX2_shift_28 1 rfl ?_
        refine x_get (v := .ref aP0) C hwsX20 0 mw_158 0 rfl rfl (by decide) rfl rfl dX2_shift_29 ?_
        refine x_iload_n C dX2_shift_32 2 rfl ?_
        refine x_iald C 1 0 rfl rfl xk rfl (by omega) (by decide) (uP 0 xk) rfl dX2_shift_33 ?_
        refine x_icmp_le C 39 dX2_shift_34 (by decide) (fun c4 => ?_) (fun c4 => ?_)
        · refine x_iconst C 0 dX2_shift_37 (by decide) ?_
          exact x_zret C rfl (by decide) dX2_shift_38 rfl rfl
        · refine x_aload_n C dX2_shift_39 1 rfl ?_
          refine x_get (v := .ref aP1) C hwsX20 1 mw_159 0 rfl rfl (by decide) rfl rfl dX2_shift_40 ?_
          refine x_iload_n C dX2_shift_43 2 rfl ?_
          refine x_iload_n C dX2_shift_44 0 rfl ?_
          refine x_iast (ws' := wX2 cI cZ cO hP aP0 aP1 aP2 aP3 aP4 (put uP 1 xk ((uP 1 xk) + xs))) C 2 0 rfl rfl xk rfl (by omega) (by decide) dX2_shift_45 rfl ?_
          refine x_iconst C 1 dX2_shift_46 (by decide) ?_
          exact x_zret C rfl (by decide) dX2_shift_47 rfl rfl

def f_X2_movePressures_x41 (a5 : St) : St := a5
def f_X2_movePressures_o71 (o11 : St) : St := o11
def f_X2_movePressures_k67 (uP : St) (i4 : Nat) (a5 : St) (b10 : Bool) : St := f_X2_movePressures_o71 (f_X2_changePressure a5 i4 (f_X2_fed a5 i4 b10 (f_X2_full uP 0)))
def f_X2_movePressures_t41 (uP : St) (xo : Int32) (i4 : Nat) (a5 : St) : St := f_X2_movePressures_k67 uP i4 a5 (if (f_X6_has xo (nI i4)) = true then (if (f_X2_full uP 0) = true then true else false) else false)
def f_X2_movePressures_o36 (uP : St) (xo : Int32) (o3 : St) : St := f_X2_movePressures_x41 (up (f_X2_movePressures_t41 uP xo) 1 (5 - 1) o3)
def f_X2_movePressures_k32 (uP : St) (xo : Int32) (b2 : Bool) : St := f_X2_movePressures_o36 uP xo (f_X2_changePressure uP 0 (f_X2_fed uP 0 b2 true))
def f_X2_movePressures (uP : St) (xo : Int32) : St := f_X2_movePressures_k32 uP xo (if (f_X6_has xo 0) = true then (if (uP 6 0) = 24 then true else false) else false)
theorem hd_X2_movePressures : yX2_movePressures.cls ≠ "java/lang/invoke/MethodHandle" ∧ yX2_movePressures.cls ≠ "java/lang/invoke/VarHandle" ∧ (parseMethodDescriptor yX2_movePressures.desc).map (fun d => d.parameters.length) = some 1 := by decide +kernel
set_option maxHeartbeats 4000000 in
set_option maxRecDepth 100000 in
theorem c_X2_movePressures (l : Launch) (D : va_G) (cI cZ cO : ClassId) (hP aP0 aP1 aP2 aP3 aP4 : Nat) (uP : St) (xo : Int32)  : CTv l D (T3 cI cZ cO) yX2_movePressures (Cond.code yX2_movePressures cX2_movePressures 4 none :: WA) ({ frames := 2, cells := 0, slots := 0, locals := 43 } : Room) [.ref hP, .int xo] (wX2 cI cZ cO hP aP0 aP1 aP2 aP3 aP4 uP) (wX2 cI cZ cO hP aP0 aP1 aP2 aP3 aP4 (f_X2_movePressures uP xo)) := by
  refine ct_v (K := fun z => z) (t := f_X2_movePressures uP xo) (wf := fun o => wX2 cI cZ cO hP aP0 aP1 aP2 aP3 aP4 o) (own := RX2) (nm := "movePressures") (L0 := [(0, .ref hP), (1, .int xo)]) (plainFor_of_name (by decide +kernel)) rfl rfl (Nat.le_of_ble_eq_true rfl) rfl ?_
  intro p e s m args below meth c A C
  unfold f_X2_movePressures
  refine x_aload_n C dX2_movePressures_0 0 rfl ?_
  refine x_iconst C 0 dX2_movePressures_1 (by decide) ?_
  refine x_cViW (q0 := 0) (As := [.int 0]) C mw_182 mw_183 mw_184 mw_171 mw_179 hd_X2_full rfl rfl ⟨Nat.le_of_ble_eq_true rfl, Nat.le_of_ble_eq_true rfl⟩ rfl rfl rfl (c_X2_full l D cI cZ cO hP aP0 aP1 aP2 aP3 aP4 uP 0 (by omega)) rfl rfl (Nat.le_of_ble_eq_true rfl) (Nat.le_of_ble_eq_true rfl) (Nat.le_of_ble_eq_true rfl) dX2_movePressures_2 ?_
  refine x_istore_n (L' := [(2, .int (b2i (f_X2_full uP 0))), (0, .ref hP), (1, .int xo)]) C dX2_movePressures_5 (by decide) rfl ?_
  refine x_aload_n C dX2_movePressures_6 1 rfl ?_
  refine x_iconst C 0 dX2_movePressures_7 (by decide) ?_
  refine x_aload_n C dX2_movePressures_8 1 rfl ?_
  refine x_iconst C 0 dX2_movePressures_9 (by decide) ?_
  refine x_iload_n C dX2_movePressures_10 2 rfl ?_
  refine x_iconst C 0 dX2_movePressures_11 (by decide) ?_
  refine x_cNi (As := [.int xo, .int 0]) (ws' := wX2 cI cZ cO hP aP0 aP1 aP2 aP3 aP4 uP) C C.2.2.2.1.2.1 mw_108 mw_37 mw_105 hd_X6_has rfl rfl ⟨Nat.le_of_ble_eq_true rfl, Nat.le_of_ble_eq_true rfl⟩ (c_X6_has l D cI cZ cO  xo 0 ) [] [.inl 0, .inl 1, .inl 2, .inl 3, .inl 4, .inl 5] trivial rfl ⟨rfl, rfl, rfl, rfl, rfl, rfl, trivial⟩ rfl ⟨rfl, rfl, rfl, rfl, rfl, rfl, trivial⟩ rfl rfl (Nat.le_of_ble_eq_true rfl) (Nat.le_of_ble_eq_true rfl) (Nat.le_of_ble_eq_true rfl) dX2_movePressures_12 ?_
  refine x_join (fun (b2 : Bool) => f_X2_movePressures_k32 uP xo b2) 32 (fun (b2 : Bool) => [(0, .ref hP), (1, .int xo), (2, .int (b2i (f_X2_full uP 0)))]) (fun (b2 : Bool) => [.int (b2i b2), .int 0, .ref hP, .int 0, .ref hP]) (fun (b2 : Bool) => wX2 cI cZ cO hP aP0 aP1 aP2 aP3 aP4 uP) (fun b2 => ?_) _ (fun J14 => ?_)
  · unfold f_X2_movePressures_k32
    refine x_iconst C 1 dX2_movePressures_32 (by decide) ?_
    refine x_cViW (q0 := 0) (As := [.int 0, .int (b2i b2), .int 1]) C mw_185 mw_186 mw_187 mw_171 mw_180 hd_X2_fed rfl rfl ⟨Nat.le_of_ble_eq_true rfl, Nat.le_of_ble_eq_true rfl⟩ rfl rfl rfl (c_X2_fed l D cI cZ cO hP aP0 aP1 aP2 aP3 aP4 uP 0 b2 true (by omega)) rfl rfl (Nat.le_of_ble_eq_true rfl) (Nat.le_of_ble_eq_true rfl) (Nat.le_of_ble_eq_true rfl) dX2_movePressures_33 ?_
    refine x_cVvW (q0 := 0) (As := [.int 0, .int (b2i (f_X2_fed uP 0 b2 true))]) C mw_188 mw_189 mw_190 mw_171 mw_181 hd_X2_changePressure rfl rfl ⟨Nat.le_of_ble_eq_true rfl, Nat.le_of_ble_eq_true rfl⟩ rfl rfl rfl (c_X2_changePressure l D cI cZ cO hP aP0 aP1 aP2 aP3 aP4 uP 0 (f_X2_fed uP 0 b2 true) (by omega)) rfl rfl (Nat.le_of_ble_eq_true rfl) (Nat.le_of_ble_eq_true rfl) (Nat.le_of_ble_eq_true rfl) dX2_movePressures_36 ?_
    unfold f_X2_movePressures_o36
    generalize f_X2_changePressure uP 0 (f_X2_fed uP 0 b2 true) = o3
    refine x_iconst C 1 dX2_movePressures_39 (by decide) ?_
    refine x_istore_n (L' := [(3, .int 1), (0, .ref hP), (1, .int xo), (2, .int (b2i (f_X2_full uP 0)))]) C dX2_movePressures_40 (by decide) rfl ?_
    refine x_lsub (L' := [(0, .ref hP), (1, .int xo), (2, .int (b2i (f_X2_full uP 0))), (3, .int 1)]) [1, 2, 3, 0] rfl ?_
    refine x_loop (f_X2_movePressures_t41 uP xo) (fun (a5 : St) => f_X2_movePressures_x41 a5) 5 41 (fun (i4 : Nat) (a5 : St) => [(0, .ref hP), (1, .int xo), (2, .int (b2i (f_X2_full uP 0))), (3, .int (nI i4))]) (fun (i4 : Nat) (a5 : St) => []) (fun (i4 : Nat) (a5 : St) => wX2 cI cZ cO hP aP0 aP1 aP2 aP3 aP4 a5) (fun a5 => ?_) (fun i4 a5 K8 hk6 ih7 => ?_) (5 - 1) 1 o3 (by omega)
    · unfold f_X2_movePressures_x41
      refine x_iload_n C dX2_movePressures_41 3 rfl ?_
      refine x_iconst C 5 dX2_movePressures_42 (by decide) ?_
      refine x_icmp_ge_t C 80 dX2_movePressures_43 (by decide) (by decide) ?_
      exact x_vret C rfl dX2_movePressures_80 rfl
    · unfold f_X2_movePressures_t41
      refine x_iload_n C dX2_movePressures_41 3 rfl ?_
      refine x_iconst C 5 dX2_movePressures_42 (by decide) ?_
      refine x_icmp_ge_f C 80 dX2_movePressures_43 (by decide) (nI_lt (b := 5) hk6 (by omega)) ?_
      refine x_aload_n C dX2_movePressures_46 0 rfl ?_
      refine x_iload_n C dX2_movePressures_47 3 rfl ?_
      refine x_aload_n C dX2_movePressures_48 0 rfl ?_
      refine x_iload_n C dX2_movePressures_49 3 rfl ?_
      refine x_iload_n C dX2_movePressures_50 1 rfl ?_
      refine x_iload_n C dX2_movePressures_51 3 rfl ?_
      refine x_cNi (As := [.int xo, .int (nI i4)]) (ws' := wX2 cI cZ cO hP aP0 aP1 aP2 aP3 aP4 a5) C C.2.2.2.1.2.1 mw_108 mw_37 mw_105 hd_X6_has rfl rfl ⟨Nat.le_of_ble_eq_true rfl, Nat.le_of_ble_eq_true rfl⟩ (c_X6_has l D cI cZ cO  xo (nI i4) ) [] [.inl 0, .inl 1, .inl 2, .inl 3, .inl 4, .inl 5] trivial rfl ⟨rfl, rfl, rfl, rfl, rfl, rfl, trivial⟩ rfl ⟨rfl, rfl, rfl, rfl, rfl, rfl, trivial⟩ rfl rfl (Nat.le_of_ble_eq_true rfl) (Nat.le_of_ble_eq_true rfl) (Nat.le_of_ble_eq_true rfl) dX2_movePressures_52 ?_
      refine x_join (fun (b10 : Bool) => f_X2_movePressures_k67 uP i4 a5 b10) 67 (fun (b10 : Bool) => [(0, .ref hP), (1, .int xo), (2, .int (b2i (f_X2_full uP 0))), (3, .int (nI i4))]) (fun (b10 : Bool) => [.int (b2i b10), .int (nI i4), .ref hP, .int (nI i4), .ref hP]) (fun (b10 : Bool) => wX2 cI cZ cO hP aP0 aP1 aP2 aP3 aP4 a5) (fun b10 => ?_) _ (fun J12 => ?_)
      · unfold f_X2_movePressures_k67
        refine x_iload_n C dX2_movePressures_67 2 rfl ?_
        refine x_cViW (q0 := 0) (As := [.int (nI i4), .int (b2i b10), .int (b2i (f_X2_full uP 0))]) C mw_185 mw_186 mw_187 mw_171 mw_180 hd_X2_fed rfl rfl ⟨Nat.le_of_ble_eq_true rfl, Nat.le_of_ble_eq_true rfl⟩ rfl rfl rfl (c_X2_fed l D cI cZ cO hP aP0 aP1 aP2 aP3 aP4 a5 i4 b10 (f_X2_full uP 0) (by omega)) rfl rfl (Nat.le_of_ble_eq_true rfl) (Nat.le_of_ble_eq_true rfl) (Nat.le_of_ble_eq_true rfl) dX2_movePressures_68 ?_
        refine x_cVvW (q0 := 0) (As := [.int (nI i4), .int (b2i (f_X2_fed a5 i4 b10 (f_X2_full uP 0)))]) C mw_188 mw_189 mw_190 mw_171 mw_181 hd_X2_changePressure rfl rfl ⟨Nat.le_of_ble_eq_true rfl, Nat.le_of_ble_eq_true rfl⟩ rfl rfl rfl (c_X2_changePressure l D cI cZ cO hP aP0 aP1 aP2 aP3 aP4 a5 i4 (f_X2_fed a5 i4 b10 (f_X2_full uP 0)) (by omega)) rfl rfl (Nat.le_of_ble_eq_true rfl) (Nat.le_of_ble_eq_true rfl) (Nat.le_of_ble_eq_true rfl) dX2_movePressures_71 ?_
        unfold f_X2_movePressures_o71
        generalize f_X2_changePressure a5 i4 (f_X2_fed a5 i4 b10 (f_X2_full uP 0)) = o11
        refine x_iinc (L' := [(3, .int (nI (i4 + 1))), (0, .ref hP), (1, .int xo), (2, .int (b2i (f_X2_full uP 0)))]) C (nI (i4 + 1)) dX2_movePressures_74 3 rfl (nI_add _ _) (by decide) rfl ?_
        refine x_goto C 41 dX2_movePressures_77 (by decide) ?_
        refine x_lsub (L' := [(0, .ref hP), (1, .int xo), (2, .int (b2i (f_X2_full uP 0))), (3, .int (nI (i4 + 1)))]) [1, 2, 3, 0] rfl ?_
        exact ih7 o11
      · refine x_if_eqZ C 66 dX2_movePressures_55 (by decide) (fun c9 => ?_) (fun c9 => ?_)
        · refine x_iload_n C dX2_movePressures_58 2 rfl ?_
          refine x_if_eqZ C 66 dX2_movePressures_59 (by decide) (fun c13 => ?_) (fun c13 => ?_)
          · refine x_iconst C 1 dX2_movePressures_62 (by decide) ?_
            refine x_goto C 67 dX2_movePressures_63 (by decide) ?_
            exact J12 true
          · refine x_iconst C 0 dX2_movePressures_66 (by decide) ?_
            exact J12 false
        · refine x_iconst C 0 dX2_movePressures_66 (by decide) ?_
          exact J12 false
  · refine x_if_eqZ C 31 dX2_movePressures_15 (by decide) (fun c1 => ?_) (fun c1 => ?_)
    · refine x_aload_n C dX2_movePressures_18 1 rfl ?_
      refine x_get (v := .int (uP 6 0)) C hwsX20 6 mw_164 0 rfl rfl (by decide) rfl rfl dX2_movePressures_19 ?_
      refine x_bipush C 24 dX2_movePressures_22 (by decide) ?_
      refine x_icmp_ne C 31 dX2_movePressures_24 (by decide) (fun c15 => ?_) (fun c15 => ?_)
      · refine x_iconst C 1 dX2_movePressures_27 (by decide) ?_
        refine x_goto C 32 dX2_movePressures_28 (by decide) ?_
        refine x_lsub (L' := [(0, .ref hP), (1, .int xo), (2, .int (b2i (f_X2_full uP 0)))]) [1, 2, 0] rfl ?_
        exact J14 true
      · refine x_iconst C 0 dX2_movePressures_31 (by decide) ?_
        refine x_lsub (L' := [(0, .ref hP), (1, .int xo), (2, .int (b2i (f_X2_full uP 0)))]) [1, 2, 0] rfl ?_
        exact J14 false
    · refine x_iconst C 0 dX2_movePressures_31 (by decide) ?_
      refine x_lsub (L' := [(0, .ref hP), (1, .int xo), (2, .int (b2i (f_X2_full uP 0)))]) [1, 2, 0] rfl ?_
      exact J14 false

def f_X2_move_k89 (b15 : St) : St := b15
def f_X2_move_o58 (o13 : Bool × St) : St := f_X2_move_k89 (if o13.1 = true then (if (o13.2 1 2) = (o13.2 0 2) then o13.2 else (put o13.2 10 0 ((o13.2 10 0) + 1))) else o13.2)
def f_X2_move_k89_2 (b12 : St) : St := f_X2_move_o58 (f_X2_shift b12 5 (f_X2_push b12 3 4))
def f_X2_move_o58_2 (o10 : Bool × St) : St := f_X2_move_k89_2 (if o10.1 = true then (if (o10.2 1 1) = (o10.2 0 1) then o10.2 else (put o10.2 10 0 ((o10.2 10 0) + 1))) else o10.2)
def f_X2_move_k89_3 (b9 : St) : St := f_X2_move_o58_2 (f_X2_shift b9 4 (f_X2_push b9 3 4))
def f_X2_move_o58_3 (o7 : Bool × St) : St := f_X2_move_k89_3 (if o7.1 = true then (if (o7.2 1 0) = (o7.2 0 0) then o7.2 else (put o7.2 10 0 ((o7.2 10 0) + 1))) else o7.2)
def f_X2_move_o31 (o6 : Bool × St) : St := f_X2_move_o58_3 (f_X2_shift o6.2 3 (f_X2_push o6.2 3 4))
def f_X2_move_o31_2 (o5 : Bool × St) : St := f_X2_move_o31 (f_X2_shift o5.2 2 (f_X2_push o5.2 1 2))
def f_X2_move_o31_3 (o4 : Bool × St) : St := f_X2_move_o31_2 (f_X2_shift o4.2 1 (f_X2_push o4.2 1 2))
def f_X2_move_o13 (o3 : St) : St := f_X2_move_o31_3 (f_X2_shift o3 0 (f_X2_push o3 1 2))
def f_X2_move_k11 (xo : Int32) (b2 : St) : St := f_X2_move_o13 (f_X2_movePressures b2 xo)
def f_X2_move (uP : St) (xo : Int32) : St := f_X2_move_k11 xo (if (uP 8 0) = 0 then (f_X2_moveSwitch uP) else uP)
theorem hd_X2_move : yX2_move.cls ≠ "java/lang/invoke/MethodHandle" ∧ yX2_move.cls ≠ "java/lang/invoke/VarHandle" ∧ (parseMethodDescriptor yX2_move.desc).map (fun d => d.parameters.length) = some 1 := by decide +kernel
set_option maxHeartbeats 4000000 in
set_option maxRecDepth 100000 in
theorem c_X2_move (l : Launch) (D : va_G) (cI cZ cO : ClassId) (hP aP0 aP1 aP2 aP3 aP4 : Nat) (uP : St) (xo : Int32)  : CTv l D (T3 cI cZ cO) yX2_move (Cond.code yX2_move cX2_move 3 none :: WA) ({ frames := 3, cells := 0, slots := 0, locals := 66 } : Room) [.ref hP, .int xo] (wX2 cI cZ cO hP aP0 aP1 aP2 aP3 aP4 uP) (wX2 cI cZ cO hP aP0 aP1 aP2 aP3 aP4 (f_X2_move uP xo)) := by
  refine ct_v (K := fun z => z) (t := f_X2_move uP xo) (wf := fun o => wX2 cI cZ cO hP aP0 aP1 aP2 aP3 aP4 o) (own := RX2) (nm := "move") (L0 := [(0, .ref hP), (1, .int xo)]) (plainFor_of_name (by decide +kernel)) rfl rfl (Nat.le_of_ble_eq_true rfl) rfl ?_
  intro p e s m args below meth c A C
  unfold f_X2_move
  refine x_aload_n C dX2_move_0 0 rfl ?_
  refine x_get (v := .int (uP 8 0)) C hwsX20 8 mw_166 0 rfl rfl (by decide) rfl rfl dX2_move_1 ?_
  refine x_join (fun (b2 : St) => f_X2_move_k11 xo b2) 11 (fun (b2 : St) => [(0, .ref hP), (1, .int xo)]) (fun (b2 : St) => []) (fun (b2 : St) => wX2 cI cZ cO hP aP0 aP1 aP2 aP3 aP4 b2) (fun b2 => ?_) _ (fun J22 => ?_)
  · unfold f_X2_move_k11
    refine x_aload_n C dX2_move_11 0 rfl ?_
    refine x_iload_n C dX2_move_12 1 rfl ?_
    refine x_cVvW (q0 := 0) (As := [.int xo]) C mw_197 mw_198 mw_199 mw_171 mw_191 hd_X2_movePressures rfl rfl ⟨Nat.le_of_ble_eq_true rfl, Nat.le_of_ble_eq_true rfl⟩ rfl rfl rfl (c_X2_movePressures l D cI cZ cO hP aP0 aP1 aP2 aP3 aP4 b2 xo ) rfl rfl (Nat.le_of_ble_eq_true rfl) (Nat.le_of_ble_eq_true rfl) (Nat.le_of_ble_eq_true rfl) dX2_move_13 ?_
    unfold f_X2_move_o13
    generalize f_X2_movePressures b2 xo = o3
    refine x_iconst C 0 dX2_move_16 (by decide) ?_
    refine x_istore_n (L' := [(2, .int 0), (0, .ref hP), (1, .int xo)]) C dX2_move_17 (by decide) rfl ?_
    refine x_iload_n C dX2_move_18 0 rfl ?_
    refine x_iconst C 3 dX2_move_19 (by decide) ?_
    refine x_icmp_ge_f C 41 dX2_move_20 (by decide) (by decide) ?_
    refine x_aload_n C dX2_move_23 1 rfl ?_
    refine x_iload_n C dX2_move_24 0 rfl ?_
    refine x_aload_n C dX2_move_25 1 rfl ?_
    refine x_iconst C 1 dX2_move_26 (by decide) ?_
    refine x_iconst C 2 dX2_move_27 (by decide) ?_
    refine x_cViW (q0 := 0) (As := [.int 1, .int 2]) C mw_200 mw_201 mw_202 mw_171 mw_192 hd_X2_push rfl rfl ⟨Nat.le_of_ble_eq_true rfl, Nat.le_of_ble_eq_true rfl⟩ rfl rfl rfl (c_X2_push l D cI cZ cO hP aP0 aP1 aP2 aP3 aP4 o3 1 2 (by omega) (by omega)) rfl rfl (Nat.le_of_ble_eq_true rfl) (Nat.le_of_ble_eq_true rfl) (Nat.le_of_ble_eq_true rfl) dX2_move_28 ?_
    refine x_cViW (q0 := 0) (As := [.int 0, .int (f_X2_push o3 1 2)]) C mw_203 mw_204 mw_205 mw_171 mw_193 hd_X2_shift rfl rfl ⟨Nat.le_of_ble_eq_true rfl, Nat.le_of_ble_eq_true rfl⟩ rfl rfl rfl (c_X2_shift l D cI cZ cO hP aP0 aP1 aP2 aP3 aP4 o3 0 (f_X2_push o3 1 2) (by omega)) rfl rfl (Nat.le_of_ble_eq_true rfl) (Nat.le_of_ble_eq_true rfl) (Nat.le_of_ble_eq_true rfl) dX2_move_31 ?_
    unfold f_X2_move_o31_3
    generalize f_X2_shift o3 0 (f_X2_push o3 1 2) = o4
    refine x_lsub (L' := [(0, .ref hP), (1, .int xo), (2, .int 0)]) [1, 2, 0] rfl ?_
    refine x_pop C dX2_move_34 rfl ?_
    refine x_iinc (L' := [(2, .int 1), (0, .ref hP), (1, .int xo)]) C 1 dX2_move_35 2 rfl (by decide) (by decide) rfl ?_
    refine x_goto C 18 dX2_move_38 (by decide) ?_
    refine x_iload_n C dX2_move_18 0 rfl ?_
    refine x_iconst C 3 dX2_move_19 (by decide) ?_
    refine x_icmp_ge_f C 41 dX2_move_20 (by decide) (by decide) ?_
    refine x_aload_n C dX2_move_23 1 rfl ?_
    refine x_iload_n C dX2_move_24 0 rfl ?_
    refine x_aload_n C dX2_move_25 1 rfl ?_
    refine x_iconst C 1 dX2_move_26 (by decide) ?_
    refine x_iconst C 2 dX2_move_27 (by decide) ?_
    refine x_cViW (q0 := 0) (As := [.int 1, .int 2]) C mw_200 mw_201 mw_202 mw_171 mw_192 hd_X2_push rfl rfl ⟨Nat.le_of_ble_eq_true rfl, Nat.le_of_ble_eq_true rfl⟩ rfl rfl rfl (c_X2_push l D cI cZ cO hP aP0 aP1 aP2 aP3 aP4 o4.2 1 2 (by omega) (by omega)) rfl rfl (Nat.le_of_ble_eq_true rfl) (Nat.le_of_ble_eq_true rfl) (Nat.le_of_ble_eq_true rfl) dX2_move_28 ?_
    refine x_cViW (q0 := 0) (As := [.int 1, .int (f_X2_push o4.2 1 2)]) C mw_203 mw_204 mw_205 mw_171 mw_193 hd_X2_shift rfl rfl ⟨Nat.le_of_ble_eq_true rfl, Nat.le_of_ble_eq_true rfl⟩ rfl rfl rfl (c_X2_shift l D cI cZ cO hP aP0 aP1 aP2 aP3 aP4 o4.2 1 (f_X2_push o4.2 1 2) (by omega)) rfl rfl (Nat.le_of_ble_eq_true rfl) (Nat.le_of_ble_eq_true rfl) (Nat.le_of_ble_eq_true rfl) dX2_move_31 ?_
    unfold f_X2_move_o31_2
    generalize f_X2_shift o4.2 1 (f_X2_push o4.2 1 2) = o5
    refine x_lsub (L' := [(0, .ref hP), (1, .int xo), (2, .int 1)]) [1, 2, 0] rfl ?_
    refine x_pop C dX2_move_34 rfl ?_
    refine x_iinc (L' := [(2, .int 2), (0, .ref hP), (1, .int xo)]) C 2 dX2_move_35 2 rfl (by decide) (by decide) rfl ?_
    refine x_goto C 18 dX2_move_38 (by decide) ?_
    refine x_iload_n C dX2_move_18 0 rfl ?_
    refine x_iconst C 3 dX2_move_19 (by decide) ?_
    refine x_icmp_ge_f C 41 dX2_move_20 (by decide) (by decide) ?_
    refine x_aload_n C dX2_move_23 1 rfl ?_
    refine x_iload_n C dX2_move_24 0 rfl ?_
    refine x_aload_n C dX2_move_25 1 rfl ?_
    refine x_iconst C 1 dX2_move_26 (by decide) ?_
    refine x_iconst C 2 dX2_move_27 (by decide) ?_
    refine x_cViW (q0 := 0) (As := [.int 1, .int 2]) C mw_200 mw_201 mw_202 mw_171 mw_192 hd_X2_push rfl rfl ⟨Nat.le_of_ble_eq_true rfl, Nat.le_of_ble_eq_true rfl⟩ rfl rfl rfl (c_X2_push l D cI cZ cO hP aP0 aP1 aP2 aP3 aP4 o5.2 1 2 (by omega) (by omega)) rfl rfl (Nat.le_of_ble_eq_true rfl) (Nat.le_of_ble_eq_true rfl) (Nat.le_of_ble_eq_true rfl) dX2_move_28 ?_
    refine x_cViW (q0 := 0) (As := [.int 2, .int (f_X2_push o5.2 1 2)]) C mw_203 mw_204 mw_205 mw_171 mw_193 hd_X2_shift rfl rfl ⟨Nat.le_of_ble_eq_true rfl, Nat.le_of_ble_eq_true rfl⟩ rfl rfl rfl (c_X2_shift l D cI cZ cO hP aP0 aP1 aP2 aP3 aP4 o5.2 2 (f_X2_push o5.2 1 2) (by omega)) rfl rfl (Nat.le_of_ble_eq_true rfl) (Nat.le_of_ble_eq_true rfl) (Nat.le_of_ble_eq_true rfl) dX2_move_31 ?_
    unfold f_X2_move_o31
    generalize f_X2_shift o5.2 2 (f_X2_push o5.2 1 2) = o6
    refine x_lsub (L' := [(0, .ref hP), (1, .int xo), (2, .int 2)]) [1, 2, 0] rfl ?_
    refine x_pop C dX2_move_34 rfl ?_
    refine x_iinc (L' := [(2, .int 3), (0, .ref hP), (1, .int xo)]) C 3 dX2_move_35 2 rfl (by decide) (by decide) rfl ?_
    refine x_goto C 18 dX2_move_38 (by decide) ?_
    refine x_iload_n C dX2_move_18 0 rfl ?_
    refine x_iconst C 3 dX2_move_19 (by decide) ?_
    refine x_icmp_ge_t C 41 dX2_move_20 (by decide) (by decide) ?_
    refine x_iconst C 0 dX2_move_41 (by decide) ?_
    refine x_istore_n (L' := [(2, .int 0), (0, .ref hP), (1, .int xo)]) C dX2_move_42 (by decide) rfl ?_
    refine x_iload_n C dX2_move_43 0 rfl ?_
    refine x_iconst C 3 dX2_move_44 (by decide) ?_
    refine x_icmp_ge_f C 95 dX2_move_45 (by decide) (by decide) ?_
    refine x_aload_n C dX2_move_48 1 rfl ?_
    refine x_iconst C 3 dX2_move_49 (by decide) ?_
    refine x_iload_n C dX2_move_50 0 rfl ?_
    refine x_iadd C dX2_move_51 ?_
    refine x_top 3 (by decide) ?_
    refine x_aload_n C dX2_move_52 1 rfl ?_
    refine x_iconst C 3 dX2_move_53 (by decide) ?_
    refine x_iconst C 4 dX2_move_54 (by decide) ?_
    refine x_cViW (q0 := 0) (As := [.int 3, .int 4]) C mw_200 mw_201 mw_202 mw_171 mw_192 hd_X2_push rfl rfl ⟨Nat.le_of_ble_eq_true rfl, Nat.le_of_ble_eq_true rfl⟩ rfl rfl rfl (c_X2_push l D cI cZ cO hP aP0 aP1 aP2 aP3 aP4 o6.2 3 4 (by omega) (by omega)) rfl rfl (Nat.le_of_ble_eq_true rfl) (Nat.le_of_ble_eq_true rfl) (Nat.le_of_ble_eq_true rfl) dX2_move_55 ?_
    refine x_cViW (q0 := 0) (As := [.int 3, .int (f_X2_push o6.2 3 4)]) C mw_203 mw_204 mw_205 mw_171 mw_193 hd_X2_shift rfl rfl ⟨Nat.le_of_ble_eq_true rfl, Nat.le_of_ble_eq_true rfl⟩ rfl rfl rfl (c_X2_shift l D cI cZ cO hP aP0 aP1 aP2 aP3 aP4 o6.2 3 (f_X2_push o6.2 3 4) (by omega)) rfl rfl (Nat.le_of_ble_eq_true rfl) (Nat.le_of_ble_eq_true rfl) (Nat.le_of_ble_eq_true rfl) dX2_move_58 ?_
    unfold f_X2_move_o58_3
    generalize f_X2_shift o6.2 3 (f_X2_push o6.2 3 4) = o7
    refine x_lsub (L' := [(0, .ref hP), (1, .int xo), (2, .int 0)]) [1, 2, 0] rfl ?_
    refine x_join (fun (b9 : St) => f_X2_move_k89_3 b9) 89 (fun (b9 : St) => [(0, .ref hP), (1, .int xo), (2, .int 0)]) (fun (b9 : St) => []) (fun (b9 : St) => wX2 cI cZ cO hP aP0 aP1 aP2 aP3 aP4 b9) (fun b9 => ?_) _ (fun J20 => ?_)
    · unfold f_X2_move_k89_3
      refine x_iinc (L' := [(2, .int 1), (0, .ref hP), (1, .int xo)]) C 1 dX2_move_89 2 rfl (by decide) (by decide) rfl ?_
      refine x_goto C 43 dX2_move_92 (by decide) ?_
      refine x_iload_n C dX2_move_43 0 rfl ?_
      refine x_iconst C 3 dX2_move_44 (by decide) ?_
      refine x_icmp_ge_f C 95 dX2_move_45 (by decide) (by decide) ?_
      refine x_aload_n C dX2_move_48 1 rfl ?_
      refine x_iconst C 3 dX2_move_49 (by decide) ?_
      refine x_iload_n C dX2_move_50 0 rfl ?_
      refine x_iadd C dX2_move_51 ?_
      refine x_top 4 (by decide) ?_
      refine x_aload_n C dX2_move_52 1 rfl ?_
      refine x_iconst C 3 dX2_move_53 (by decide) ?_
      refine x_iconst C 4 dX2_move_54 (by decide) ?_
      refine x_cViW (q0 := 0) (As := [.int 3, .int 4]) C mw_200 mw_201 mw_202 mw_171 mw_192 hd_X2_push rfl rfl ⟨Nat.le_of_ble_eq_true rfl, Nat.le_of_ble_eq_true rfl⟩ rfl rfl rfl (c_X2_push l D cI cZ cO hP aP0 aP1 aP2 aP3 aP4 b9 3 4 (by omega) (by omega)) rfl rfl (Nat.le_of_ble_eq_true rfl) (Nat.le_of_ble_eq_true rfl) (Nat.le_of_ble_eq_true rfl) dX2_move_55 ?_
      refine x_cViW (q0 := 0) (As := [.int 4, .int (f_X2_push b9 3 4)]) C mw_203 mw_204 mw_205 mw_171 mw_193 hd_X2_shift rfl rfl ⟨Nat.le_of_ble_eq_true rfl, Nat.le_of_ble_eq_true rfl⟩ rfl rfl rfl (c_X2_shift l D cI cZ cO hP aP0 aP1 aP2 aP3 aP4 b9 4 (f_X2_push b9 3 4) (by omega)) rfl rfl (Nat.le_of_ble_eq_true rfl) (Nat.le_of_ble_eq_true rfl) (Nat.le_of_ble_eq_true rfl) dX2_move_58 ?_
      unfold f_X2_move_o58_2
      generalize f_X2_shift b9 4 (f_X2_push b9 3 4) = o10
      refine x_lsub (L' := [(0, .ref hP), (1, .int xo), (2, .int 1)]) [1, 2, 0] rfl ?_
      refine x_join (fun (b12 : St) => f_X2_move_k89_2 b12) 89 (fun (b12 : St) => [(0, .ref hP), (1, .int xo), (2, .int 1)]) (fun (b12 : St) => []) (fun (b12 : St) => wX2 cI cZ cO hP aP0 aP1 aP2 aP3 aP4 b12) (fun b12 => ?_) _ (fun J18 => ?_)
      · unfold f_X2_move_k89_2
        refine x_iinc (L' := [(2, .int 2), (0, .ref hP), (1, .int xo)]) C 2 dX2_move_89 2 rfl (by decide) (by decide) rfl ?_
        refine x_goto C 43 dX2_move_92 (by decide) ?_
        refine x_iload_n C dX2_move_43 0 rfl ?_
        refine x_iconst C 3 dX2_move_44 (by decide) ?_
        refine x_icmp_ge_f C 95 dX2_move_45 (by decide) (by decide) ?_
        refine x_aload_n C dX2_move_48 1 rfl ?_
        refine x_iconst C 3 dX2_move_49 (by decide) ?_
        refine x_iload_n C dX2_move_50 0 rfl ?_
        refine x_iadd C dX2_move_51 ?_
        refine x_top 5 (by decide) ?_
        refine x_aload_n C dX2_move_52 1 rfl ?_
        refine x_iconst C 3 dX2_move_53 (by decide) ?_
        refine x_iconst C 4 dX2_move_54 (by decide) ?_
        refine x_cViW (q0 := 0) (As := [.int 3, .int 4]) C mw_200 mw_201 mw_202 mw_171 mw_192 hd_X2_push rfl rfl ⟨Nat.le_of_ble_eq_true rfl, Nat.le_of_ble_eq_true rfl⟩ rfl rfl rfl (c_X2_push l D cI cZ cO hP aP0 aP1 aP2 aP3 aP4 b12 3 4 (by omega) (by omega)) rfl rfl (Nat.le_of_ble_eq_true rfl) (Nat.le_of_ble_eq_true rfl) (Nat.le_of_ble_eq_true rfl) dX2_move_55 ?_
        refine x_cViW (q0 := 0) (As := [.int 5, .int (f_X2_push b12 3 4)]) C mw_203 mw_204 mw_205 mw_171 mw_193 hd_X2_shift rfl rfl ⟨Nat.le_of_ble_eq_true rfl, Nat.le_of_ble_eq_true rfl⟩ rfl rfl rfl (c_X2_shift l D cI cZ cO hP aP0 aP1 aP2 aP3 aP4 b12 5 (f_X2_push b12 3 4) (by omega)) rfl rfl (Nat.le_of_ble_eq_true rfl) (Nat.le_of_ble_eq_true rfl) (Nat.le_of_ble_eq_true rfl) dX2_move_58 ?_
        unfold f_X2_move_o58
        generalize f_X2_shift b12 5 (f_X2_push b12 3 4) = o13
        refine x_lsub (L' := [(0, .ref hP), (1, .int xo), (2, .int 2)]) [1, 2, 0] rfl ?_
        refine x_join (fun (b15 : St) => f_X2_move_k89 b15) 89 (fun (b15 : St) => [(0, .ref hP), (1, .int xo), (2, .int 2)]) (fun (b15 : St) => []) (fun (b15 : St) => wX2 cI cZ cO hP aP0 aP1 aP2 aP3 aP4 b15) (fun b15 => ?_) _ (fun J16 => ?_)
        · unfold f_X2_move_k89
          refine x_iinc (L' := [(2, .int 3), (0, .ref hP), (1, .int xo)]) C 3 dX2_move_89 2 rfl (by decide) (by decide) rfl ?_
          refine x_goto C 43 dX2_move_92 (by decide) ?_
          refine x_iload_n C dX2_move_43 0 rfl ?_
          refine x_iconst C 3 dX2_move_44 (by decide) ?_
          refine x_icmp_ge_t C 95 dX2_move_45 (by decide) (by decide) ?_
          exact x_vret C rfl dX2_move_95 rfl
        · refine x_if_eqZ C 89 dX2_move_61 (by decide) (fun c14 => ?_) (fun c14 => ?_)
          · refine x_aload_n C dX2_move_64 0 rfl ?_
            refine x_get (v := .ref aP1) C hwsX20 1 mw_159 0 rfl rfl (by decide) rfl rfl dX2_move_65 ?_
            refine x_iload_n C dX2_move_68 2 rfl ?_
            refine x_iald C 2 0 rfl rfl 2 rfl (by omega) (by decide) (o13.2 1 2) rfl dX2_move_69 ?_
            refine x_aload_n C dX2_move_70 0 rfl ?_
            refine x_get (v := .ref aP0) C hwsX20 0 mw_158 0 rfl rfl (by decide) rfl rfl dX2_move_71 ?_
            refine x_iload_n C dX2_move_74 2 rfl ?_
            refine x_iald C 1 0 rfl rfl 2 rfl (by omega) (by decide) (o13.2 0 2) rfl dX2_move_75 ?_
            refine x_icmp_eq C 89 dX2_move_76 (by decide) (fun c17 => ?_) (fun c17 => ?_)
            · exact J16 o13.2
            · refine x_aload_n C dX2_move_79 0 rfl ?_
              refine x_dup C dX2_move_80 rfl ?_
              refine x_get (v := .int (o13.2 10 0)) C hwsX20 10 mw_168 0 rfl rfl (by decide) rfl rfl dX2_move_81 ?_
              refine x_iconst C 1 dX2_move_84 (by decide) ?_
              refine x_iadd C dX2_move_85 ?_
              refine x_put (ws' := wX2 cI cZ cO hP aP0 aP1 aP2 aP3 aP4 (put o13.2 10 0 ((o13.2 10 0) + 1))) C hwsX20 tyX2 tyX2_ok nmX2 10 mw_168 0 rfl rfl (by decide) rfl rfl rfl rfl (Nat.le_of_ble_eq_true rfl) dX2_move_86 rfl ?_
              exact J16 (put o13.2 10 0 ((o13.2 10 0) + 1))
          · exact J16 o13.2
      · refine x_if_eqZ C 89 dX2_move_61 (by decide) (fun c11 => ?_) (fun c11 => ?_)
        · refine x_aload_n C dX2_move_64 0 rfl ?_
          refine x_get (v := .ref aP1) C hwsX20 1 mw_159 0 rfl rfl (by decide) rfl rfl dX2_move_65 ?_
          refine x_iload_n C dX2_move_68 2 rfl ?_
          refine x_iald C 2 0 rfl rfl 1 rfl (by omega) (by decide) (o10.2 1 1) rfl dX2_move_69 ?_
          refine x_aload_n C dX2_move_70 0 rfl ?_
          refine x_get (v := .ref aP0) C hwsX20 0 mw_158 0 rfl rfl (by decide) rfl rfl dX2_move_71 ?_
          refine x_iload_n C dX2_move_74 2 rfl ?_
          refine x_iald C 1 0 rfl rfl 1 rfl (by omega) (by decide) (o10.2 0 1) rfl dX2_move_75 ?_
          refine x_icmp_eq C 89 dX2_move_76 (by decide) (fun c19 => ?_) (fun c19 => ?_)
          · exact J18 o10.2
          · refine x_aload_n C dX2_move_79 0 rfl ?_
            refine x_dup C dX2_move_80 rfl ?_
            refine x_get (v := .int (o10.2 10 0)) C hwsX20 10 mw_168 0 rfl rfl (by decide) rfl rfl dX2_move_81 ?_
            refine x_iconst C 1 dX2_move_84 (by decide) ?_
            refine x_iadd C dX2_move_85 ?_
            refine x_put (ws' := wX2 cI cZ cO hP aP0 aP1 aP2 aP3 aP4 (put o10.2 10 0 ((o10.2 10 0) + 1))) C hwsX20 tyX2 tyX2_ok nmX2 10 mw_168 0 rfl rfl (by decide) rfl rfl rfl rfl (Nat.le_of_ble_eq_true rfl) dX2_move_86 rfl ?_
            exact J18 (put o10.2 10 0 ((o10.2 10 0) + 1))
        · exact J18 o10.2
    · refine x_if_eqZ C 89 dX2_move_61 (by decide) (fun c8 => ?_) (fun c8 => ?_)
      · refine x_aload_n C dX2_move_64 0 rfl ?_
        refine x_get (v := .ref aP1) C hwsX20 1 mw_159 0 rfl rfl (by decide) rfl rfl dX2_move_65 ?_
        refine x_iload_n C dX2_move_68 2 rfl ?_
        refine x_iald C 2 0 rfl rfl 0 rfl (by omega) (by decide) (o7.2 1 0) rfl dX2_move_69 ?_
        refine x_aload_n C dX2_move_70 0 rfl ?_
        refine x_get (v := .ref aP0) C hwsX20 0 mw_158 0 rfl rfl (by decide) rfl rfl dX2_move_71 ?_
        refine x_iload_n C dX2_move_74 2 rfl ?_
        refine x_iald C 1 0 rfl rfl 0 rfl (by omega) (by decide) (o7.2 0 0) rfl dX2_move_75 ?_
        refine x_icmp_eq C 89 dX2_move_76 (by decide) (fun c21 => ?_) (fun c21 => ?_)
        · exact J20 o7.2
        · refine x_aload_n C dX2_move_79 0 rfl ?_
          refine x_dup C dX2_move_80 rfl ?_
          refine x_get (v := .int (o7.2 10 0)) C hwsX20 10 mw_168 0 rfl rfl (by decide) rfl rfl dX2_move_81 ?_
          refine x_iconst C 1 dX2_move_84 (by decide) ?_
          refine x_iadd C dX2_move_85 ?_
          refine x_put (ws' := wX2 cI cZ cO hP aP0 aP1 aP2 aP3 aP4 (put o7.2 10 0 ((o7.2 10 0) + 1))) C hwsX20 tyX2 tyX2_ok nmX2 10 mw_168 0 rfl rfl (by decide) rfl rfl rfl rfl (Nat.le_of_ble_eq_true rfl) dX2_move_86 rfl ?_
          exact J20 (put o7.2 10 0 ((o7.2 10 0) + 1))
      · exact J20 o7.2
  · refine x_if_ne C 11 dX2_move_4 (by decide) (fun c1 => ?_) (fun c1 => ?_)
    · refine x_aload_n C dX2_move_7 0 rfl ?_
      refine x_cVvW (q0 := 0) (As := []) C mw_194 mw_195 mw_196 mw_171 mw_177 hd_X2_moveSwitch rfl rfl ⟨Nat.le_of_ble_eq_true rfl, Nat.le_of_ble_eq_true rfl⟩ rfl rfl rfl (c_X2_moveSwitch l D cI cZ cO hP aP0 aP1 aP2 aP3 aP4 uP ) rfl rfl (Nat.le_of_ble_eq_true rfl) (Nat.le_of_ble_eq_true rfl) (Nat.le_of_ble_eq_true rfl) dX2_move_8 ?_
      exact J22 (f_X2_moveSwitch uP)
    · exact J22 uP

def f_X3_feel_k181 (uS : St) (uP : St) (b2 : Bool) (b4 : Bool) (b6 : Bool) (b8 : Bool) (b10 : Bool) (b12 : Bool) (b14 : Bool) (b16 : Bool) (b18 : Bool) (b20 : Bool) (b22 : Bool) (b24 : Bool) (b26 : Bool) (b28 : Bool) : St := put (put (put (put (put (put (put (put (put (put (put (put (put (put (put (put (put (put uS 0 0 (uP 5 0)) 0 1 (f_X6_bit b2)) 0 2 (f_X6_bit b4)) 0 3 (f_X6_bit b6)) 0 6 (f_X6_bit b8)) 0 9 (f_X6_bit b10)) 0 12 (f_X6_bit b12)) 0 15 (f_X6_bit (f_X6_has (uP 9 0) 0))) 0 4 (f_X6_bit b14)) 0 7 (f_X6_bit b16)) 0 10 (f_X6_bit b18)) 0 13 (f_X6_bit b20)) 0 16 (f_X6_bit (f_X6_has (uP 9 0) 1))) 0 5 (f_X6_bit b22)) 0 8 (f_X6_bit b24)) 0 11 (f_X6_bit b26)) 0 14 (f_X6_bit b28)) 0 17 (f_X6_bit (f_X6_has (uP 9 0) 2))
def f_X3_feel_k155 (uS : St) (uP : St) (b2 : Bool) (b4 : Bool) (b6 : Bool) (b8 : Bool) (b10 : Bool) (b12 : Bool) (b14 : Bool) (b16 : Bool) (b18 : Bool) (b20 : Bool) (b22 : Bool) (b24 : Bool) (b26 : Bool) : St := f_X3_feel_k181 uS uP b2 b4 b6 b8 b10 b12 b14 b16 b18 b20 b22 b24 b26 (if (uP 1 5) = 0 then true else false)
def f_X3_feel_k123 (uS : St) (uP : St) (b2 : Bool) (b4 : Bool) (b6 : Bool) (b8 : Bool) (b10 : Bool) (b12 : Bool) (b14 : Bool) (b16 : Bool) (b18 : Bool) (b20 : Bool) (b22 : Bool) (b24 : Bool) : St := f_X3_feel_k155 uS uP b2 b4 b6 b8 b10 b12 b14 b16 b18 b20 b22 b24 (if (uP 1 5) = (uP 0 5) then true else false)
def f_X3_feel_k91 (uS : St) (uP : St) (b2 : Bool) (b4 : Bool) (b6 : Bool) (b8 : Bool) (b10 : Bool) (b12 : Bool) (b14 : Bool) (b16 : Bool) (b18 : Bool) (b20 : Bool) (b22 : Bool) : St := f_X3_feel_k123 uS uP b2 b4 b6 b8 b10 b12 b14 b16 b18 b20 b22 (if (uP 1 2) = (uP 0 2) then true else false)
def f_X3_feel_k181_2 (uS : St) (uP : St) (b2 : Bool) (b4 : Bool) (b6 : Bool) (b8 : Bool) (b10 : Bool) (b12 : Bool) (b14 : Bool) (b16 : Bool) (b18 : Bool) (b20 : Bool) : St := f_X3_feel_k91 uS uP b2 b4 b6 b8 b10 b12 b14 b16 b18 b20 (if (uP 1 2) = 0 then true else false)
def f_X3_feel_k155_2 (uS : St) (uP : St) (b2 : Bool) (b4 : Bool) (b6 : Bool) (b8 : Bool) (b10 : Bool) (b12 : Bool) (b14 : Bool) (b16 : Bool) (b18 : Bool) : St := f_X3_feel_k181_2 uS uP b2 b4 b6 b8 b10 b12 b14 b16 b18 (if (uP 1 4) = 0 then true else false)
def f_X3_feel_k123_2 (uS : St) (uP : St) (b2 : Bool) (b4 : Bool) (b6 : Bool) (b8 : Bool) (b10 : Bool) (b12 : Bool) (b14 : Bool) (b16 : Bool) : St := f_X3_feel_k155_2 uS uP b2 b4 b6 b8 b10 b12 b14 b16 (if (uP 1 4) = (uP 0 4) then true else false)
def f_X3_feel_k91_2 (uS : St) (uP : St) (b2 : Bool) (b4 : Bool) (b6 : Bool) (b8 : Bool) (b10 : Bool) (b12 : Bool) (b14 : Bool) : St := f_X3_feel_k123_2 uS uP b2 b4 b6 b8 b10 b12 b14 (if (uP 1 1) = (uP 0 1) then true else false)
def f_X3_feel_k181_3 (uS : St) (uP : St) (b2 : Bool) (b4 : Bool) (b6 : Bool) (b8 : Bool) (b10 : Bool) (b12 : Bool) : St := f_X3_feel_k91_2 uS uP b2 b4 b6 b8 b10 b12 (if (uP 1 1) = 0 then true else false)
def f_X3_feel_k155_3 (uS : St) (uP : St) (b2 : Bool) (b4 : Bool) (b6 : Bool) (b8 : Bool) (b10 : Bool) : St := f_X3_feel_k181_3 uS uP b2 b4 b6 b8 b10 (if (uP 1 3) = 0 then true else false)
def f_X3_feel_k123_3 (uS : St) (uP : St) (b2 : Bool) (b4 : Bool) (b6 : Bool) (b8 : Bool) : St := f_X3_feel_k155_3 uS uP b2 b4 b6 b8 (if (uP 1 3) = (uP 0 3) then true else false)
def f_X3_feel_k91_3 (uS : St) (uP : St) (b2 : Bool) (b4 : Bool) (b6 : Bool) : St := f_X3_feel_k123_3 uS uP b2 b4 b6 (if (uP 1 0) = (uP 0 0) then true else false)
def f_X3_feel_k55 (uS : St) (uP : St) (b2 : Bool) (b4 : Bool) : St := f_X3_feel_k91_3 uS uP b2 b4 (if (uP 1 0) = 0 then true else false)
def f_X3_feel_k29 (uS : St) (uP : St) (b2 : Bool) : St := f_X3_feel_k55 uS uP b2 (if (uP 3 0) = 360 then true else false)
def f_X3_feel (uS : St) (uP : St) : St := f_X3_feel_k29 uS uP (if (uP 6 0) = 24 then true else false)
theorem hd_X3_feel : yX3_feel.cls ≠ "java/lang/invoke/MethodHandle" ∧ yX3_feel.cls ≠ "java/lang/invoke/VarHandle" ∧ (parseMethodDescriptor yX3_feel.desc).map (fun d => d.parameters.length) = some 1 := by decide +kernel
set_option maxHeartbeats 4000000 in
set_option maxRecDepth 100000 in
theorem c_X3_feel (l : Launch) (D : va_G) (cI cZ cO : ClassId) (hS aS0 aS1 hP aP0 aP1 aP2 aP3 aP4 : Nat) (uS : St) (uP : St)  : CTv l D (T3 cI cZ cO) yX3_feel (Cond.code yX3_feel cX3_feel 4 none :: WA) ({ frames := 1, cells := 0, slots := 0, locals := 21 } : Room) [.ref hS, .ref hP] (wX3 cI cZ cO hS aS0 aS1 uS ++ wX2 cI cZ cO hP aP0 aP1 aP2 aP3 aP4 uP) (wX3 cI cZ cO hS aS0 aS1 (f_X3_feel uS uP) ++ wX2 cI cZ cO hP aP0 aP1 aP2 aP3 aP4 uP) := by
  refine ct_v (K := fun z => z) (t := f_X3_feel uS uP) (wf := fun o => wX3 cI cZ cO hS aS0 aS1 o ++ wX2 cI cZ cO hP aP0 aP1 aP2 aP3 aP4 uP) (own := RX3) (nm := "feel") (L0 := [(0, .ref hS), (1, .ref hP)]) (plainFor_of_name (by decide +kernel)) rfl rfl (Nat.le_of_ble_eq_true rfl) rfl ?_
  intro p e s m args below meth c A C
  unfold f_X3_feel
  refine x_aload_n C dX3_feel_0 0 rfl ?_
  refine x_get (v := .ref aS0) C hwsX30 0 mw_60 0 rfl rfl (by decide) rfl rfl dX3_feel_1 ?_
  refine x_iconst C 0 dX3_feel_4 (by decide) ?_
  refine x_aload_n C dX3_feel_5 1 rfl ?_
  refine x_get (v := .int (uP 5 0)) C hwsX20 5 mw_210 3 rfl rfl (by decide) rfl rfl dX3_feel_6 ?_
  refine x_iast (ws' := wX3 cI cZ cO hS aS0 aS1 (put uS 0 0 (uP 5 0)) ++ wX2 cI cZ cO hP aP0 aP1 aP2 aP3 aP4 uP) C 1 0 rfl rfl 0 rfl (by omega) (by decide) dX3_feel_9 rfl ?_
  refine x_aload_n C dX3_feel_10 0 rfl ?_
  refine x_get (v := .ref aS0) C hwsX30 0 mw_60 0 rfl rfl (by decide) rfl rfl dX3_feel_11 ?_
  refine x_iconst C 1 dX3_feel_14 (by decide) ?_
  refine x_aload_n C dX3_feel_15 1 rfl ?_
  refine x_get (v := .int (uP 6 0)) C hwsX20 6 mw_211 3 rfl rfl (by decide) rfl rfl dX3_feel_16 ?_
  refine x_bipush C 24 dX3_feel_19 (by decide) ?_
  refine x_join (fun (b2 : Bool) => f_X3_feel_k29 uS uP b2) 29 (fun (b2 : Bool) => [(0, .ref hS), (1, .ref hP)]) (fun (b2 : Bool) => [.int (b2i b2), .int 1, .ref aS0]) (fun (b2 : Bool) => wX3 cI cZ cO hS aS0 aS1 (put uS 0 0 (uP 5 0)) ++ wX2 cI cZ cO hP aP0 aP1 aP2 aP3 aP4 uP) (fun b2 => ?_) _ (fun J42 => ?_)
  · unfold f_X3_feel_k29
    refine x_cNi (As := [.int (b2i b2)]) (ws' := wX3 cI cZ cO hS aS0 aS1 (put uS 0 0 (uP 5 0)) ++ wX2 cI cZ cO hP aP0 aP1 aP2 aP3 aP4 uP) C C.2.2.2.1.2.2.2.1 mw_72 mw_37 mw_66 hd_X6_bit rfl rfl ⟨Nat.le_of_ble_eq_true rfl, Nat.le_of_ble_eq_true rfl⟩ (c_X6_bit l D cI cZ cO  b2 ) [] [.inl 0, .inl 1, .inl 2, .inl 3, .inl 4, .inl 5, .inl 6, .inl 7, .inl 8] trivial rfl ⟨rfl, rfl, rfl, rfl, rfl, rfl, rfl, rfl, rfl, trivial⟩ rfl ⟨rfl, rfl, rfl, rfl, rfl, rfl, rfl, rfl, rfl, trivial⟩ rfl rfl (Nat.le_of_ble_eq_true rfl) (Nat.le_of_ble_eq_true rfl) (Nat.le_of_ble_eq_true rfl) dX3_feel_29 ?_
    refine x_iast (ws' := wX3 cI cZ cO hS aS0 aS1 (put (put uS 0 0 (uP 5 0)) 0 1 (f_X6_bit b2)) ++ wX2 cI cZ cO hP aP0 aP1 aP2 aP3 aP4 uP) C 1 0 rfl rfl 1 rfl (by omega) (by decide) dX3_feel_32 rfl ?_
    refine x_aload_n C dX3_feel_33 0 rfl ?_
    refine x_get (v := .ref aS0) C hwsX30 0 mw_60 0 rfl rfl (by decide) rfl rfl dX3_feel_34 ?_
    refine x_iconst C 2 dX3_feel_37 (by decide) ?_
    refine x_aload_n C dX3_feel_38 1 rfl ?_
    refine x_get (v := .ref aP3) C hwsX20 3 mw_212 3 rfl rfl (by decide) rfl rfl dX3_feel_39 ?_
    refine x_iconst C 0 dX3_feel_42 (by decide) ?_
    refine x_iald C 7 0 rfl rfl 0 rfl (by omega) (by decide) (uP 3 0) rfl dX3_feel_43 ?_
    refine x_sipush C 360 dX3_feel_44 (by decide) ?_
    refine x_join (fun (b4 : Bool) => f_X3_feel_k55 uS uP b2 b4) 55 (fun (b4 : Bool) => [(0, .ref hS), (1, .ref hP)]) (fun (b4 : Bool) => [.int (b2i b4), .int 2, .ref aS0]) (fun (b4 : Bool) => wX3 cI cZ cO hS aS0 aS1 (put (put uS 0 0 (uP 5 0)) 0 1 (f_X6_bit b2)) ++ wX2 cI cZ cO hP aP0 aP1 aP2 aP3 aP4 uP) (fun b4 => ?_) _ (fun J41 => ?_)
    · unfold f_X3_feel_k55
      refine x_cNi (As := [.int (b2i b4)]) (ws' := wX3 cI cZ cO hS aS0 aS1 (put (put uS 0 0 (uP 5 0)) 0 1 (f_X6_bit b2)) ++ wX2 cI cZ cO hP aP0 aP1 aP2 aP3 aP4 uP) C C.2.2.2.1.2.2.2.1 mw_72 mw_37 mw_66 hd_X6_bit rfl rfl ⟨Nat.le_of_ble_eq_true rfl, Nat.le_of_ble_eq_true rfl⟩ (c_X6_bit l D cI cZ cO  b4 ) [] [.inl 0, .inl 1, .inl 2, .inl 3, .inl 4, .inl 5, .inl 6, .inl 7, .inl 8] trivial rfl ⟨rfl, rfl, rfl, rfl, rfl, rfl, rfl, rfl, rfl, trivial⟩ rfl ⟨rfl, rfl, rfl, rfl, rfl, rfl, rfl, rfl, rfl, trivial⟩ rfl rfl (Nat.le_of_ble_eq_true rfl) (Nat.le_of_ble_eq_true rfl) (Nat.le_of_ble_eq_true rfl) dX3_feel_55 ?_
      refine x_iast (ws' := wX3 cI cZ cO hS aS0 aS1 (put (put (put uS 0 0 (uP 5 0)) 0 1 (f_X6_bit b2)) 0 2 (f_X6_bit b4)) ++ wX2 cI cZ cO hP aP0 aP1 aP2 aP3 aP4 uP) C 1 0 rfl rfl 2 rfl (by omega) (by decide) dX3_feel_58 rfl ?_
      refine x_iconst C 0 dX3_feel_59 (by decide) ?_
      refine x_istore_n (L' := [(2, .int 0), (0, .ref hS), (1, .ref hP)]) C dX3_feel_60 (by decide) rfl ?_
      refine x_iload_n C dX3_feel_61 0 rfl ?_
      refine x_iconst C 3 dX3_feel_62 (by decide) ?_
      refine x_icmp_ge_f C 211 dX3_feel_63 (by decide) (by decide) ?_
      refine x_iconst C 3 dX3_feel_66 (by decide) ?_
      refine x_iload_n C dX3_feel_67 0 rfl ?_
      refine x_iadd C dX3_feel_68 ?_
      refine x_top 3 (by decide) ?_
      refine x_istore_n (L' := [(3, .int 3), (2, .int 0), (0, .ref hS), (1, .ref hP)]) C dX3_feel_69 (by decide) rfl ?_
      refine x_aload_n C dX3_feel_70 2 rfl ?_
      refine x_get (v := .ref aS0) C hwsX30 0 mw_60 0 rfl rfl (by decide) rfl rfl dX3_feel_71 ?_
      refine x_iconst C 3 dX3_feel_74 (by decide) ?_
      refine x_iload_n C dX3_feel_75 1 rfl ?_
      refine x_iadd C dX3_feel_76 ?_
      refine x_top 3 (by decide) ?_
      refine x_aload_n C dX3_feel_77 3 rfl ?_
      refine x_get (v := .ref aP1) C hwsX20 1 mw_213 3 rfl rfl (by decide) rfl rfl dX3_feel_78 ?_
      refine x_iload_n C dX3_feel_81 1 rfl ?_
      refine x_iald C 5 0 rfl rfl 0 rfl (by omega) (by decide) (uP 1 0) rfl dX3_feel_82 ?_
      refine x_join (fun (b6 : Bool) => f_X3_feel_k91_3 uS uP b2 b4 b6) 91 (fun (b6 : Bool) => [(0, .ref hS), (1, .ref hP), (2, .int 0), (3, .int 3)]) (fun (b6 : Bool) => [.int (b2i b6), .int 3, .ref aS0]) (fun (b6 : Bool) => wX3 cI cZ cO hS aS0 aS1 (put (put (put uS 0 0 (uP 5 0)) 0 1 (f_X6_bit b2)) 0 2 (f_X6_bit b4)) ++ wX2 cI cZ cO hP aP0 aP1 aP2 aP3 aP4 uP) (fun b6 => ?_) _ (fun J40 => ?_)
      · unfold f_X3_feel_k91_3
        refine x_cNi (As := [.int (b2i b6)]) (ws' := wX3 cI cZ cO hS aS0 aS1 (put (put (put uS 0 0 (uP 5 0)) 0 1 (f_X6_bit b2)) 0 2 (f_X6_bit b4)) ++ wX2 cI cZ cO hP aP0 aP1 aP2 aP3 aP4 uP) C C.2.2.2.1.2.2.2.1 mw_72 mw_37 mw_66 hd_X6_bit rfl rfl ⟨Nat.le_of_ble_eq_true rfl, Nat.le_of_ble_eq_true rfl⟩ (c_X6_bit l D cI cZ cO  b6 ) [] [.inl 0, .inl 1, .inl 2, .inl 3, .inl 4, .inl 5, .inl 6, .inl 7, .inl 8] trivial rfl ⟨rfl, rfl, rfl, rfl, rfl, rfl, rfl, rfl, rfl, trivial⟩ rfl ⟨rfl, rfl, rfl, rfl, rfl, rfl, rfl, rfl, rfl, trivial⟩ rfl rfl (Nat.le_of_ble_eq_true rfl) (Nat.le_of_ble_eq_true rfl) (Nat.le_of_ble_eq_true rfl) dX3_feel_91 ?_
        refine x_iast (ws' := wX3 cI cZ cO hS aS0 aS1 (put (put (put (put uS 0 0 (uP 5 0)) 0 1 (f_X6_bit b2)) 0 2 (f_X6_bit b4)) 0 3 (f_X6_bit b6)) ++ wX2 cI cZ cO hP aP0 aP1 aP2 aP3 aP4 uP) C 1 0 rfl rfl 3 rfl (by omega) (by decide) dX3_feel_94 rfl ?_
        refine x_aload_n C dX3_feel_95 0 rfl ?_
        refine x_get (v := .ref aS0) C hwsX30 0 mw_60 0 rfl rfl (by decide) rfl rfl dX3_feel_96 ?_
        refine x_bipush C 6 dX3_feel_99 (by decide) ?_
        refine x_iload_n C dX3_feel_101 2 rfl ?_
        refine x_iadd C dX3_feel_102 ?_
        refine x_top 6 (by decide) ?_
        refine x_aload_n C dX3_feel_103 1 rfl ?_
        refine x_get (v := .ref aP1) C hwsX20 1 mw_213 3 rfl rfl (by decide) rfl rfl dX3_feel_104 ?_
        refine x_iload_n C dX3_feel_107 2 rfl ?_
        refine x_iald C 5 0 rfl rfl 0 rfl (by omega) (by decide) (uP 1 0) rfl dX3_feel_108 ?_
        refine x_aload_n C dX3_feel_109 1 rfl ?_
        refine x_get (v := .ref aP0) C hwsX20 0 mw_214 3 rfl rfl (by decide) rfl rfl dX3_feel_110 ?_
        refine x_iload_n C dX3_feel_113 2 rfl ?_
        refine x_iald C 4 0 rfl rfl 0 rfl (by omega) (by decide) (uP 0 0) rfl dX3_feel_114 ?_
        refine x_join (fun (b8 : Bool) => f_X3_feel_k123_3 uS uP b2 b4 b6 b8) 123 (fun (b8 : Bool) => [(0, .ref hS), (1, .ref hP), (2, .int 0), (3, .int 3)]) (fun (b8 : Bool) => [.int (b2i b8), .int 6, .ref aS0]) (fun (b8 : Bool) => wX3 cI cZ cO hS aS0 aS1 (put (put (put (put uS 0 0 (uP 5 0)) 0 1 (f_X6_bit b2)) 0 2 (f_X6_bit b4)) 0 3 (f_X6_bit b6)) ++ wX2 cI cZ cO hP aP0 aP1 aP2 aP3 aP4 uP) (fun b8 => ?_) _ (fun J39 => ?_)
        · unfold f_X3_feel_k123_3
          refine x_cNi (As := [.int (b2i b8)]) (ws' := wX3 cI cZ cO hS aS0 aS1 (put (put (put (put uS 0 0 (uP 5 0)) 0 1 (f_X6_bit b2)) 0 2 (f_X6_bit b4)) 0 3 (f_X6_bit b6)) ++ wX2 cI cZ cO hP aP0 aP1 aP2 aP3 aP4 uP) C C.2.2.2.1.2.2.2.1 mw_72 mw_37 mw_66 hd_X6_bit rfl rfl ⟨Nat.le_of_ble_eq_true rfl, Nat.le_of_ble_eq_true rfl⟩ (c_X6_bit l D cI cZ cO  b8 ) [] [.inl 0, .inl 1, .inl 2, .inl 3, .inl 4, .inl 5, .inl 6, .inl 7, .inl 8] trivial rfl ⟨rfl, rfl, rfl, rfl, rfl, rfl, rfl, rfl, rfl, trivial⟩ rfl ⟨rfl, rfl, rfl, rfl, rfl, rfl, rfl, rfl, rfl, trivial⟩ rfl rfl (Nat.le_of_ble_eq_true rfl) (Nat.le_of_ble_eq_true rfl) (Nat.le_of_ble_eq_true rfl) dX3_feel_123 ?_
          refine x_iast (ws' := wX3 cI cZ cO hS aS0 aS1 (put (put (put (put (put uS 0 0 (uP 5 0)) 0 1 (f_X6_bit b2)) 0 2 (f_X6_bit b4)) 0 3 (f_X6_bit b6)) 0 6 (f_X6_bit b8)) ++ wX2 cI cZ cO hP aP0 aP1 aP2 aP3 aP4 uP) C 1 0 rfl rfl 6 rfl (by omega) (by decide) dX3_feel_126 rfl ?_
          refine x_aload_n C dX3_feel_127 0 rfl ?_
          refine x_get (v := .ref aS0) C hwsX30 0 mw_60 0 rfl rfl (by decide) rfl rfl dX3_feel_128 ?_
          refine x_bipush C 9 dX3_feel_131 (by decide) ?_
          refine x_iload_n C dX3_feel_133 2 rfl ?_
          refine x_iadd C dX3_feel_134 ?_
          refine x_top 9 (by decide) ?_
          refine x_aload_n C dX3_feel_135 1 rfl ?_
          refine x_get (v := .ref aP1) C hwsX20 1 mw_213 3 rfl rfl (by decide) rfl rfl dX3_feel_136 ?_
          refine x_iload_n C dX3_feel_139 3 rfl ?_
          refine x_iald C 5 0 rfl rfl 3 rfl (by omega) (by decide) (uP 1 3) rfl dX3_feel_140 ?_
          refine x_aload_n C dX3_feel_141 1 rfl ?_
          refine x_get (v := .ref aP0) C hwsX20 0 mw_214 3 rfl rfl (by decide) rfl rfl dX3_feel_142 ?_
          refine x_iload_n C dX3_feel_145 3 rfl ?_
          refine x_iald C 4 0 rfl rfl 3 rfl (by omega) (by decide) (uP 0 3) rfl dX3_feel_146 ?_
          refine x_join (fun (b10 : Bool) => f_X3_feel_k155_3 uS uP b2 b4 b6 b8 b10) 155 (fun (b10 : Bool) => [(0, .ref hS), (1, .ref hP), (2, .int 0), (3, .int 3)]) (fun (b10 : Bool) => [.int (b2i b10), .int 9, .ref aS0]) (fun (b10 : Bool) => wX3 cI cZ cO hS aS0 aS1 (put (put (put (put (put uS 0 0 (uP 5 0)) 0 1 (f_X6_bit b2)) 0 2 (f_X6_bit b4)) 0 3 (f_X6_bit b6)) 0 6 (f_X6_bit b8)) ++ wX2 cI cZ cO hP aP0 aP1 aP2 aP3 aP4 uP) (fun b10 => ?_) _ (fun J38 => ?_)
          · unfold f_X3_feel_k155_3
            refine x_cNi (As := [.int (b2i b10)]) (ws' := wX3 cI cZ cO hS aS0 aS1 (put (put (put (put (put uS 0 0 (uP 5 0)) 0 1 (f_X6_bit b2)) 0 2 (f_X6_bit b4)) 0 3 (f_X6_bit b6)) 0 6 (f_X6_bit b8)) ++ wX2 cI cZ cO hP aP0 aP1 aP2 aP3 aP4 uP) C C.2.2.2.1.2.2.2.1 mw_72 mw_37 mw_66 hd_X6_bit rfl rfl ⟨Nat.le_of_ble_eq_true rfl, Nat.le_of_ble_eq_true rfl⟩ (c_X6_bit l D cI cZ cO  b10 ) [] [.inl 0, .inl 1, .inl 2, .inl 3, .inl 4, .inl 5, .inl 6, .inl 7, .inl 8] trivial rfl ⟨rfl, rfl, rfl, rfl, rfl, rfl, rfl, rfl, rfl, trivial⟩ rfl ⟨rfl, rfl, rfl, rfl, rfl, rfl, rfl, rfl, rfl, trivial⟩ rfl rfl (Nat.le_of_ble_eq_true rfl) (Nat.le_of_ble_eq_true rfl) (Nat.le_of_ble_eq_true rfl) dX3_feel_155 ?_
            refine x_iast (ws' := wX3 cI cZ cO hS aS0 aS1 (put (put (put (put (put (put uS 0 0 (uP 5 0)) 0 1 (f_X6_bit b2)) 0 2 (f_X6_bit b4)) 0 3 (f_X6_bit b6)) 0 6 (f_X6_bit b8)) 0 9 (f_X6_bit b10)) ++ wX2 cI cZ cO hP aP0 aP1 aP2 aP3 aP4 uP) C 1 0 rfl rfl 9 rfl (by omega) (by decide) dX3_feel_158 rfl ?_
            refine x_aload_n C dX3_feel_159 0 rfl ?_
            refine x_get (v := .ref aS0) C hwsX30 0 mw_60 0 rfl rfl (by decide) rfl rfl dX3_feel_160 ?_
            refine x_bipush C 12 dX3_feel_163 (by decide) ?_
            refine x_iload_n C dX3_feel_165 2 rfl ?_
            refine x_iadd C dX3_feel_166 ?_
            refine x_top 12 (by decide) ?_
            refine x_aload_n C dX3_feel_167 1 rfl ?_
            refine x_get (v := .ref aP1) C hwsX20 1 mw_213 3 rfl rfl (by decide) rfl rfl dX3_feel_168 ?_
            refine x_iload_n C dX3_feel_171 3 rfl ?_
            refine x_iald C 5 0 rfl rfl 3 rfl (by omega) (by decide) (uP 1 3) rfl dX3_feel_172 ?_
            refine x_join (fun (b12 : Bool) => f_X3_feel_k181_3 uS uP b2 b4 b6 b8 b10 b12) 181 (fun (b12 : Bool) => [(0, .ref hS), (1, .ref hP), (2, .int 0), (3, .int 3)]) (fun (b12 : Bool) => [.int (b2i b12), .int 12, .ref aS0]) (fun (b12 : Bool) => wX3 cI cZ cO hS aS0 aS1 (put (put (put (put (put (put uS 0 0 (uP 5 0)) 0 1 (f_X6_bit b2)) 0 2 (f_X6_bit b4)) 0 3 (f_X6_bit b6)) 0 6 (f_X6_bit b8)) 0 9 (f_X6_bit b10)) ++ wX2 cI cZ cO hP aP0 aP1 aP2 aP3 aP4 uP) (fun b12 => ?_) _ (fun J37 => ?_)
            · unfold f_X3_feel_k181_3
              refine x_cNi (As := [.int (b2i b12)]) (ws' := wX3 cI cZ cO hS aS0 aS1 (put (put (put (put (put (put uS 0 0 (uP 5 0)) 0 1 (f_X6_bit b2)) 0 2 (f_X6_bit b4)) 0 3 (f_X6_bit b6)) 0 6 (f_X6_bit b8)) 0 9 (f_X6_bit b10)) ++ wX2 cI cZ cO hP aP0 aP1 aP2 aP3 aP4 uP) C C.2.2.2.1.2.2.2.1 mw_72 mw_37 mw_66 hd_X6_bit rfl rfl ⟨Nat.le_of_ble_eq_true rfl, Nat.le_of_ble_eq_true rfl⟩ (c_X6_bit l D cI cZ cO  b12 ) [] [.inl 0, .inl 1, .inl 2, .inl 3, .inl 4, .inl 5, .inl 6, .inl 7, .inl 8] trivial rfl ⟨rfl, rfl, rfl, rfl, rfl, rfl, rfl, rfl, rfl, trivial⟩ rfl ⟨rfl, rfl, rfl, rfl, rfl, rfl, rfl, rfl, rfl, trivial⟩ rfl rfl (Nat.le_of_ble_eq_true rfl) (Nat.le_of_ble_eq_true rfl) (Nat.le_of_ble_eq_true rfl) dX3_feel_181 ?_
              refine x_iast (ws' := wX3 cI cZ cO hS aS0 aS1 (put (put (put (put (put (put (put uS 0 0 (uP 5 0)) 0 1 (f_X6_bit b2)) 0 2 (f_X6_bit b4)) 0 3 (f_X6_bit b6)) 0 6 (f_X6_bit b8)) 0 9 (f_X6_bit b10)) 0 12 (f_X6_bit b12)) ++ wX2 cI cZ cO hP aP0 aP1 aP2 aP3 aP4 uP) C 1 0 rfl rfl 12 rfl (by omega) (by decide) dX3_feel_184 rfl ?_
              refine x_aload_n C dX3_feel_185 0 rfl ?_
              refine x_get (v := .ref aS0) C hwsX30 0 mw_60 0 rfl rfl (by decide) rfl rfl dX3_feel_186 ?_
              refine x_bipush C 15 dX3_feel_189 (by decide) ?_
              refine x_iload_n C dX3_feel_191 2 rfl ?_
              refine x_iadd C dX3_feel_192 ?_
              refine x_top 15 (by decide) ?_
              refine x_aload_n C dX3_feel_193 1 rfl ?_
              refine x_get (v := .int (uP 9 0)) C hwsX20 9 mw_215 3 rfl rfl (by decide) rfl rfl dX3_feel_194 ?_
              refine x_iload_n C dX3_feel_197 2 rfl ?_
              refine x_cNi (As := [.int (uP 9 0), .int 0]) (ws' := wX3 cI cZ cO hS aS0 aS1 (put (put (put (put (put (put (put uS 0 0 (uP 5 0)) 0 1 (f_X6_bit b2)) 0 2 (f_X6_bit b4)) 0 3 (f_X6_bit b6)) 0 6 (f_X6_bit b8)) 0 9 (f_X6_bit b10)) 0 12 (f_X6_bit b12)) ++ wX2 cI cZ cO hP aP0 aP1 aP2 aP3 aP4 uP) C C.2.2.2.1.2.2.2.2.1 mw_108 mw_37 mw_105 hd_X6_has rfl rfl ⟨Nat.le_of_ble_eq_true rfl, Nat.le_of_ble_eq_true rfl⟩ (c_X6_has l D cI cZ cO  (uP 9 0) 0 ) [] [.inl 0, .inl 1, .inl 2, .inl 3, .inl 4, .inl 5, .inl 6, .inl 7, .inl 8] trivial rfl ⟨rfl, rfl, rfl, rfl, rfl, rfl, rfl, rfl, rfl, trivial⟩ rfl ⟨rfl, rfl, rfl, rfl, rfl, rfl, rfl, rfl, rfl, trivial⟩ rfl rfl (Nat.le_of_ble_eq_true rfl) (Nat.le_of_ble_eq_true rfl) (Nat.le_of_ble_eq_true rfl) dX3_feel_198 ?_
              refine x_cNi (As := [.int (b2i (f_X6_has (uP 9 0) 0))]) (ws' := wX3 cI cZ cO hS aS0 aS1 (put (put (put (put (put (put (put uS 0 0 (uP 5 0)) 0 1 (f_X6_bit b2)) 0 2 (f_X6_bit b4)) 0 3 (f_X6_bit b6)) 0 6 (f_X6_bit b8)) 0 9 (f_X6_bit b10)) 0 12 (f_X6_bit b12)) ++ wX2 cI cZ cO hP aP0 aP1 aP2 aP3 aP4 uP) C C.2.2.2.1.2.2.2.1 mw_72 mw_37 mw_66 hd_X6_bit rfl rfl ⟨Nat.le_of_ble_eq_true rfl, Nat.le_of_ble_eq_true rfl⟩ (c_X6_bit l D cI cZ cO  (f_X6_has (uP 9 0) 0) ) [] [.inl 0, .inl 1, .inl 2, .inl 3, .inl 4, .inl 5, .inl 6, .inl 7, .inl 8] trivial rfl ⟨rfl, rfl, rfl, rfl, rfl, rfl, rfl, rfl, rfl, trivial⟩ rfl ⟨rfl, rfl, rfl, rfl, rfl, rfl, rfl, rfl, rfl, trivial⟩ rfl rfl (Nat.le_of_ble_eq_true rfl) (Nat.le_of_ble_eq_true rfl) (Nat.le_of_ble_eq_true rfl) dX3_feel_201 ?_
              refine x_iast (ws' := wX3 cI cZ cO hS aS0 aS1 (put (put (put (put (put (put (put (put uS 0 0 (uP 5 0)) 0 1 (f_X6_bit b2)) 0 2 (f_X6_bit b4)) 0 3 (f_X6_bit b6)) 0 6 (f_X6_bit b8)) 0 9 (f_X6_bit b10)) 0 12 (f_X6_bit b12)) 0 15 (f_X6_bit (f_X6_has (uP 9 0) 0))) ++ wX2 cI cZ cO hP aP0 aP1 aP2 aP3 aP4 uP) C 1 0 rfl rfl 15 rfl (by omega) (by decide) dX3_feel_204 rfl ?_
              refine x_iinc (L' := [(2, .int 1), (0, .ref hS), (1, .ref hP), (3, .int 3)]) C 1 dX3_feel_205 2 rfl (by decide) (by decide) rfl ?_
              refine x_goto C 61 dX3_feel_208 (by decide) ?_
              refine x_iload_n C dX3_feel_61 0 rfl ?_
              refine x_iconst C 3 dX3_feel_62 (by decide) ?_
              refine x_icmp_ge_f C 211 dX3_feel_63 (by decide) (by decide) ?_
              refine x_iconst C 3 dX3_feel_66 (by decide) ?_
              refine x_iload_n C dX3_feel_67 0 rfl ?_
              refine x_iadd C dX3_feel_68 ?_
              refine x_top 4 (by decide) ?_
              refine x_istore_n (L' := [(3, .int 4), (2, .int 1), (0, .ref hS), (1, .ref hP)]) C dX3_feel_69 (by decide) rfl ?_
              refine x_aload_n C dX3_feel_70 2 rfl ?_
              refine x_get (v := .ref aS0) C hwsX30 0 mw_60 0 rfl rfl (by decide) rfl rfl dX3_feel_71 ?_
              refine x_iconst C 3 dX3_feel_74 (by decide) ?_
              refine x_iload_n C dX3_feel_75 1 rfl ?_
              refine x_iadd C dX3_feel_76 ?_
              refine x_top 4 (by decide) ?_
              refine x_aload_n C dX3_feel_77 3 rfl ?_
              refine x_get (v := .ref aP1) C hwsX20 1 mw_213 3 rfl rfl (by decide) rfl rfl dX3_feel_78 ?_
              refine x_iload_n C dX3_feel_81 1 rfl ?_
              refine x_iald C 5 0 rfl rfl 1 rfl (by omega) (by decide) (uP 1 1) rfl dX3_feel_82 ?_
              refine x_join (fun (b14 : Bool) => f_X3_feel_k91_2 uS uP b2 b4 b6 b8 b10 b12 b14) 91 (fun (b14 : Bool) => [(0, .ref hS), (1, .ref hP), (2, .int 1), (3, .int 4)]) (fun (b14 : Bool) => [.int (b2i b14), .int 4, .ref aS0]) (fun (b14 : Bool) => wX3 cI cZ cO hS aS0 aS1 (put (put (put (put (put (put (put (put uS 0 0 (uP 5 0)) 0 1 (f_X6_bit b2)) 0 2 (f_X6_bit b4)) 0 3 (f_X6_bit b6)) 0 6 (f_X6_bit b8)) 0 9 (f_X6_bit b10)) 0 12 (f_X6_bit b12)) 0 15 (f_X6_bit (f_X6_has (uP 9 0) 0))) ++ wX2 cI cZ cO hP aP0 aP1 aP2 aP3 aP4 uP) (fun b14 => ?_) _ (fun J36 => ?_)
              · unfold f_X3_feel_k91_2
                refine x_cNi (As := [.int (b2i b14)]) (ws' := wX3 cI cZ cO hS aS0 aS1 (put (put (put (put (put (put (put (put uS 0 0 (uP 5 0)) 0 1 (f_X6_bit b2)) 0 2 (f_X6_bit b4)) 0 3 (f_X6_bit b6)) 0 6 (f_X6_bit b8)) 0 9 (f_X6_bit b10)) 0 12 (f_X6_bit b12)) 0 15 (f_X6_bit (f_X6_has (uP 9 0) 0))) ++ wX2 cI cZ cO hP aP0 aP1 aP2 aP3 aP4 uP) C C.2.2.2.1.2.2.2.1 mw_72 mw_37 mw_66 hd_X6_bit rfl rfl ⟨Nat.le_of_ble_eq_true rfl, Nat.le_of_ble_eq_true rfl⟩ (c_X6_bit l D cI cZ cO  b14 ) [] [.inl 0, .inl 1, .inl 2, .inl 3, .inl 4, .inl 5, .inl 6, .inl 7, .inl 8] trivial rfl ⟨rfl, rfl, rfl, rfl, rfl, rfl, rfl, rfl, rfl, trivial⟩ rfl ⟨rfl, rfl, rfl, rfl, rfl, rfl, rfl, rfl, rfl, trivial⟩ rfl rfl (Nat.le_of_ble_eq_true rfl) (Nat.le_of_ble_eq_true rfl) (Nat.le_of_ble_eq_true rfl) dX3_feel_91 ?_
                refine x_iast (ws' := wX3 cI cZ cO hS aS0 aS1 (put (put (put (put (put (put (put (put (put uS 0 0 (uP 5 0)) 0 1 (f_X6_bit b2)) 0 2 (f_X6_bit b4)) 0 3 (f_X6_bit b6)) 0 6 (f_X6_bit b8)) 0 9 (f_X6_bit b10)) 0 12 (f_X6_bit b12)) 0 15 (f_X6_bit (f_X6_has (uP 9 0) 0))) 0 4 (f_X6_bit b14)) ++ wX2 cI cZ cO hP aP0 aP1 aP2 aP3 aP4 uP) C 1 0 rfl rfl 4 rfl (by omega) (by decide) dX3_feel_94 rfl ?_
                refine x_aload_n C dX3_feel_95 0 rfl ?_
                refine x_get (v := .ref aS0) C hwsX30 0 mw_60 0 rfl rfl (by decide) rfl rfl dX3_feel_96 ?_
                refine x_bipush C 6 dX3_feel_99 (by decide) ?_
                refine x_iload_n C dX3_feel_101 2 rfl ?_
                refine x_iadd C dX3_feel_102 ?_
                refine x_top 7 (by decide) ?_
                refine x_aload_n C dX3_feel_103 1 rfl ?_
                refine x_get (v := .ref aP1) C hwsX20 1 mw_213 3 rfl rfl (by decide) rfl rfl dX3_feel_104 ?_
                refine x_iload_n C dX3_feel_107 2 rfl ?_
                refine x_iald C 5 0 rfl rfl 1 rfl (by omega) (by decide) (uP 1 1) rfl dX3_feel_108 ?_
                refine x_aload_n C dX3_feel_109 1 rfl ?_
                refine x_get (v := .ref aP0) C hwsX20 0 mw_214 3 rfl rfl (by decide) rfl rfl dX3_feel_110 ?_
                refine x_iload_n C dX3_feel_113 2 rfl ?_
                refine x_iald C 4 0 rfl rfl 1 rfl (by omega) (by decide) (uP 0 1) rfl dX3_feel_114 ?_
                refine x_join (fun (b16 : Bool) => f_X3_feel_k123_2 uS uP b2 b4 b6 b8 b10 b12 b14 b16) 123 (fun (b16 : Bool) => [(0, .ref hS), (1, .ref hP), (2, .int 1), (3, .int 4)]) (fun (b16 : Bool) => [.int (b2i b16), .int 7, .ref aS0]) (fun (b16 : Bool) => wX3 cI cZ cO hS aS0 aS1 (put (put (put (put (put (put (put (put (put uS 0 0 (uP 5 0)) 0 1 (f_X6_bit b2)) 0 2 (f_X6_bit b4)) 0 3 (f_X6_bit b6)) 0 6 (f_X6_bit b8)) 0 9 (f_X6_bit b10)) 0 12 (f_X6_bit b12)) 0 15 (f_X6_bit (f_X6_has (uP 9 0) 0))) 0 4 (f_X6_bit b14)) ++ wX2 cI cZ cO hP aP0 aP1 aP2 aP3 aP4 uP) (fun b16 => ?_) _ (fun J35 => ?_)
                · unfold f_X3_feel_k123_2
                  refine x_cNi (As := [.int (b2i b16)]) (ws' := wX3 cI cZ cO hS aS0 aS1 (put (put (put (put (put (put (put (put (put uS 0 0 (uP 5 0)) 0 1 (f_X6_bit b2)) 0 2 (f_X6_bit b4)) 0 3 (f_X6_bit b6)) 0 6 (f_X6_bit b8)) 0 9 (f_X6_bit b10)) 0 12 (f_X6_bit b12)) 0 15 (f_X6_bit (f_X6_has (uP 9 0) 0))) 0 4 (f_X6_bit b14)) ++ wX2 cI cZ cO hP aP0 aP1 aP2 aP3 aP4 uP) C C.2.2.2.1.2.2.2.1 mw_72 mw_37 mw_66 hd_X6_bit rfl rfl ⟨Nat.le_of_ble_eq_true rfl, Nat.le_of_ble_eq_true rfl⟩ (c_X6_bit l D cI cZ cO  b16 ) [] [.inl 0, .inl 1, .inl 2, .inl 3, .inl 4, .inl 5, .inl 6, .inl 7, .inl 8] trivial rfl ⟨rfl, rfl, rfl, rfl, rfl, rfl, rfl, rfl, rfl, trivial⟩ rfl ⟨rfl, rfl, rfl, rfl, rfl, rfl, rfl, rfl, rfl, trivial⟩ rfl rfl (Nat.le_of_ble_eq_true rfl) (Nat.le_of_ble_eq_true rfl) (Nat.le_of_ble_eq_true rfl) dX3_feel_123 ?_
                  refine x_iast (ws' := wX3 cI cZ cO hS aS0 aS1 (put (put (put (put (put (put (put (put (put (put uS 0 0 (uP 5 0)) 0 1 (f_X6_bit b2)) 0 2 (f_X6_bit b4)) 0 3 (f_X6_bit b6)) 0 6 (f_X6_bit b8)) 0 9 (f_X6_bit b10)) 0 12 (f_X6_bit b12)) 0 15 (f_X6_bit (f_X6_has (uP 9 0) 0))) 0 4 (f_X6_bit b14)) 0 7 (f_X6_bit b16)) ++ wX2 cI cZ cO hP aP0 aP1 aP2 aP3 aP4 uP) C 1 0 rfl rfl 7 rfl (by omega) (by decide) dX3_feel_126 rfl ?_
                  refine x_aload_n C dX3_feel_127 0 rfl ?_
                  refine x_get (v := .ref aS0) C hwsX30 0 mw_60 0 rfl rfl (by decide) rfl rfl dX3_feel_128 ?_
                  refine x_bipush C 9 dX3_feel_131 (by decide) ?_
                  refine x_iload_n C dX3_feel_133 2 rfl ?_
                  refine x_iadd C dX3_feel_134 ?_
                  refine x_top 10 (by decide) ?_
                  refine x_aload_n C dX3_feel_135 1 rfl ?_
                  refine x_get (v := .ref aP1) C hwsX20 1 mw_213 3 rfl rfl (by decide) rfl rfl dX3_feel_136 ?_
                  refine x_iload_n C dX3_feel_139 3 rfl ?_
                  refine x_iald C 5 0 rfl rfl 4 rfl (by omega) (by decide) (uP 1 4) rfl dX3_feel_140 ?_
                  refine x_aload_n C dX3_feel_141 1 rfl ?_
                  refine x_get (v := .ref aP0) C hwsX20 0 mw_214 3 rfl rfl (by decide) rfl rfl dX3_feel_142 ?_
                  refine x_iload_n C dX3_feel_145 3 rfl ?_
                  refine x_iald C 4 0 rfl rfl 4 rfl (by omega) (by decide) (uP 0 4) rfl dX3_feel_146 ?_
                  refine x_join (fun (b18 : Bool) => f_X3_feel_k155_2 uS uP b2 b4 b6 b8 b10 b12 b14 b16 b18) 155 (fun (b18 : Bool) => [(0, .ref hS), (1, .ref hP), (2, .int 1), (3, .int 4)]) (fun (b18 : Bool) => [.int (b2i b18), .int 10, .ref aS0]) (fun (b18 : Bool) => wX3 cI cZ cO hS aS0 aS1 (put (put (put (put (put (put (put (put (put (put uS 0 0 (uP 5 0)) 0 1 (f_X6_bit b2)) 0 2 (f_X6_bit b4)) 0 3 (f_X6_bit b6)) 0 6 (f_X6_bit b8)) 0 9 (f_X6_bit b10)) 0 12 (f_X6_bit b12)) 0 15 (f_X6_bit (f_X6_has (uP 9 0) 0))) 0 4 (f_X6_bit b14)) 0 7 (f_X6_bit b16)) ++ wX2 cI cZ cO hP aP0 aP1 aP2 aP3 aP4 uP) (fun b18 => ?_) _ (fun J34 => ?_)
                  · unfold f_X3_feel_k155_2
                    refine x_cNi (As := [.int (b2i b18)]) (ws' := wX3 cI cZ cO hS aS0 aS1 (put (put (put (put (put (put (put (put (put (put uS 0 0 (uP 5 0)) 0 1 (f_X6_bit b2)) 0 2 (f_X6_bit b4)) 0 3 (f_X6_bit b6)) 0 6 (f_X6_bit b8)) 0 9 (f_X6_bit b10)) 0 12 (f_X6_bit b12)) 0 15 (f_X6_bit (f_X6_has (uP 9 0) 0))) 0 4 (f_X6_bit b14)) 0 7 (f_X6_bit b16)) ++ wX2 cI cZ cO hP aP0 aP1 aP2 aP3 aP4 uP) C C.2.2.2.1.2.2.2.1 mw_72 mw_37 mw_66 hd_X6_bit rfl rfl ⟨Nat.le_of_ble_eq_true rfl, Nat.le_of_ble_eq_true rfl⟩ (c_X6_bit l D cI cZ cO  b18 ) [] [.inl 0, .inl 1, .inl 2, .inl 3, .inl 4, .inl 5, .inl 6, .inl 7, .inl 8] trivial rfl ⟨rfl, rfl, rfl, rfl, rfl, rfl, rfl, rfl, rfl, trivial⟩ rfl ⟨rfl, rfl, rfl, rfl, rfl, rfl, rfl, rfl, rfl, trivial⟩ rfl rfl (Nat.le_of_ble_eq_true rfl) (Nat.le_of_ble_eq_true rfl) (Nat.le_of_ble_eq_true rfl) dX3_feel_155 ?_
                    refine x_iast (ws' := wX3 cI cZ cO hS aS0 aS1 (put (put (put (put (put (put (put (put (put (put (put uS 0 0 (uP 5 0)) 0 1 (f_X6_bit b2)) 0 2 (f_X6_bit b4)) 0 3 (f_X6_bit b6)) 0 6 (f_X6_bit b8)) 0 9 (f_X6_bit b10)) 0 12 (f_X6_bit b12)) 0 15 (f_X6_bit (f_X6_has (uP 9 0) 0))) 0 4 (f_X6_bit b14)) 0 7 (f_X6_bit b16)) 0 10 (f_X6_bit b18)) ++ wX2 cI cZ cO hP aP0 aP1 aP2 aP3 aP4 uP) C 1 0 rfl rfl 10 rfl (by omega) (by decide) dX3_feel_158 rfl ?_
                    refine x_aload_n C dX3_feel_159 0 rfl ?_
                    refine x_get (v := .ref aS0) C hwsX30 0 mw_60 0 rfl rfl (by decide) rfl rfl dX3_feel_160 ?_
                    refine x_bipush C 12 dX3_feel_163 (by decide) ?_
                    refine x_iload_n C dX3_feel_165 2 rfl ?_
                    refine x_iadd C dX3_feel_166 ?_
                    refine x_top 13 (by decide) ?_
                    refine x_aload_n C dX3_feel_167 1 rfl ?_
                    refine x_get (v := .ref aP1) C hwsX20 1 mw_213 3 rfl rfl (by decide) rfl rfl dX3_feel_168 ?_
                    refine x_iload_n C dX3_feel_171 3 rfl ?_
                    refine x_iald C 5 0 rfl rfl 4 rfl (by omega) (by decide) (uP 1 4) rfl dX3_feel_172 ?_
                    refine x_join (fun (b20 : Bool) => f_X3_feel_k181_2 uS uP b2 b4 b6 b8 b10 b12 b14 b16 b18 b20) 181 (fun (b20 : Bool) => [(0, .ref hS), (1, .ref hP), (2, .int 1), (3, .int 4)]) (fun (b20 : Bool) => [.int (b2i b20), .int 13, .ref aS0]) (fun (b20 : Bool) => wX3 cI cZ cO hS aS0 aS1 (put (put (put (put (put (put (put (put (put (put (put uS 0 0 (uP 5 0)) 0 1 (f_X6_bit b2)) 0 2 (f_X6_bit b4)) 0 3 (f_X6_bit b6)) 0 6 (f_X6_bit b8)) 0 9 (f_X6_bit b10)) 0 12 (f_X6_bit b12)) 0 15 (f_X6_bit (f_X6_has (uP 9 0) 0))) 0 4 (f_X6_bit b14)) 0 7 (f_X6_bit b16)) 0 10 (f_X6_bit b18)) ++ wX2 cI cZ cO hP aP0 aP1 aP2 aP3 aP4 uP) (fun b20 => ?_) _ (fun J33 => ?_)
                    · unfold f_X3_feel_k181_2
                      refine x_cNi (As := [.int (b2i b20)]) (ws' := wX3 cI cZ cO hS aS0 aS1 (put (put (put (put (put (put (put (put (put (put (put uS 0 0 (uP 5 0)) 0 1 (f_X6_bit b2)) 0 2 (f_X6_bit b4)) 0 3 (f_X6_bit b6)) 0 6 (f_X6_bit b8)) 0 9 (f_X6_bit b10)) 0 12 (f_X6_bit b12)) 0 15 (f_X6_bit (f_X6_has (uP 9 0) 0))) 0 4 (f_X6_bit b14)) 0 7 (f_X6_bit b16)) 0 10 (f_X6_bit b18)) ++ wX2 cI cZ cO hP aP0 aP1 aP2 aP3 aP4 uP) C C.2.2.2.1.2.2.2.1 mw_72 mw_37 mw_66 hd_X6_bit rfl rfl ⟨Nat.le_of_ble_eq_true rfl, Nat.le_of_ble_eq_true rfl⟩ (c_X6_bit l D cI cZ cO  b20 ) [] [.inl 0, .inl 1, .inl 2, .inl 3, .inl 4, .inl 5, .inl 6, .inl 7, .inl 8] trivial rfl ⟨rfl, rfl, rfl, rfl, rfl, rfl, rfl, rfl, rfl, trivial⟩ rfl ⟨rfl, rfl, rfl, rfl, rfl, rfl, rfl, rfl, rfl, trivial⟩ rfl rfl (Nat.le_of_ble_eq_true rfl) (Nat.le_of_ble_eq_true rfl) (Nat.le_of_ble_eq_true rfl) dX3_feel_181 ?_
                      refine x_iast (ws' := wX3 cI cZ cO hS aS0 aS1 (put (put (put (put (put (put (put (put (put (put (put (put uS 0 0 (uP 5 0)) 0 1 (f_X6_bit b2)) 0 2 (f_X6_bit b4)) 0 3 (f_X6_bit b6)) 0 6 (f_X6_bit b8)) 0 9 (f_X6_bit b10)) 0 12 (f_X6_bit b12)) 0 15 (f_X6_bit (f_X6_has (uP 9 0) 0))) 0 4 (f_X6_bit b14)) 0 7 (f_X6_bit b16)) 0 10 (f_X6_bit b18)) 0 13 (f_X6_bit b20)) ++ wX2 cI cZ cO hP aP0 aP1 aP2 aP3 aP4 uP) C 1 0 rfl rfl 13 rfl (by omega) (by decide) dX3_feel_184 rfl ?_
                      refine x_aload_n C dX3_feel_185 0 rfl ?_
                      refine x_get (v := .ref aS0) C hwsX30 0 mw_60 0 rfl rfl (by decide) rfl rfl dX3_feel_186 ?_
                      refine x_bipush C 15 dX3_feel_189 (by decide) ?_
                      refine x_iload_n C dX3_feel_191 2 rfl ?_
                      refine x_iadd C dX3_feel_192 ?_
                      refine x_top 16 (by decide) ?_
                      refine x_aload_n C dX3_feel_193 1 rfl ?_
                      refine x_get (v := .int (uP 9 0)) C hwsX20 9 mw_215 3 rfl rfl (by decide) rfl rfl dX3_feel_194 ?_
                      refine x_iload_n C dX3_feel_197 2 rfl ?_
                      refine x_cNi (As := [.int (uP 9 0), .int 1]) (ws' := wX3 cI cZ cO hS aS0 aS1 (put (put (put (put (put (put (put (put (put (put (put (put uS 0 0 (uP 5 0)) 0 1 (f_X6_bit b2)) 0 2 (f_X6_bit b4)) 0 3 (f_X6_bit b6)) 0 6 (f_X6_bit b8)) 0 9 (f_X6_bit b10)) 0 12 (f_X6_bit b12)) 0 15 (f_X6_bit (f_X6_has (uP 9 0) 0))) 0 4 (f_X6_bit b14)) 0 7 (f_X6_bit b16)) 0 10 (f_X6_bit b18)) 0 13 (f_X6_bit b20)) ++ wX2 cI cZ cO hP aP0 aP1 aP2 aP3 aP4 uP) C C.2.2.2.1.2.2.2.2.1 mw_108 mw_37 mw_105 hd_X6_has rfl rfl ⟨Nat.le_of_ble_eq_true rfl, Nat.le_of_ble_eq_true rfl⟩ (c_X6_has l D cI cZ cO  (uP 9 0) 1 ) [] [.inl 0, .inl 1, .inl 2, .inl 3, .inl 4, .inl 5, .inl 6, .inl 7, .inl 8] trivial rfl ⟨rfl, rfl, rfl, rfl, rfl, rfl, rfl, rfl, rfl, trivial⟩ rfl ⟨rfl, rfl, rfl, rfl, rfl, rfl, rfl, rfl, rfl, trivial⟩ rfl rfl (Nat.le_of_ble_eq_true rfl) (Nat.le_of_ble_eq_true rfl) (Nat.le_of_ble_eq_true rfl) dX3_feel_198 ?_
                      refine x_cNi (As := [.int (b2i (f_X6_has (uP 9 0) 1))]) (ws' := wX3 cI cZ cO hS aS0 aS1 (put (put (put (put (put (put (put (put (put (put (put (put uS 0 0 (uP 5 0)) 0 1 (f_X6_bit b2)) 0 2 (f_X6_bit b4)) 0 3 (f_X6_bit b6)) 0 6 (f_X6_bit b8)) 0 9 (f_X6_bit b10)) 0 12 (f_X6_bit b12)) 0 15 (f_X6_bit (f_X6_has (uP 9 0) 0))) 0 4 (f_X6_bit b14)) 0 7 (f_X6_bit b16)) 0 10 (f_X6_bit b18)) 0 13 (f_X6_bit b20)) ++ wX2 cI cZ cO hP aP0 aP1 aP2 aP3 aP4 uP) C C.2.2.2.1.2.2.2.1 mw_72 mw_37 mw_66 hd_X6_bit rfl rfl ⟨Nat.le_of_ble_eq_true rfl, Nat.le_of_ble_eq_true rfl⟩ (c_X6_bit l D cI cZ cO  (f_X6_has (uP 9 0) 1) ) [] [.inl 0, .inl 1, .inl 2, .inl 3, .inl 4, .inl 5, .inl 6, .inl 7, .inl 8] trivial rfl ⟨rfl, rfl, rfl, rfl, rfl, rfl, rfl, rfl, rfl, trivial⟩ rfl ⟨rfl, rfl, rfl, rfl, rfl, rfl, rfl, rfl, rfl, trivial⟩ rfl rfl (Nat.le_of_ble_eq_true rfl) (Nat.le_of_ble_eq_true rfl) (Nat.le_of_ble_eq_true rfl) dX3_feel_201 ?_
                      refine x_iast (ws' := wX3 cI cZ cO hS aS0 aS1 (put (put (put (put (put (put (put (put (put (put (put (put (put uS 0 0 (uP 5 0)) 0 1 (f_X6_bit b2)) 0 2 (f_X6_bit b4)) 0 3 (f_X6_bit b6)) 0 6 (f_X6_bit b8)) 0 9 (f_X6_bit b10)) 0 12 (f_X6_bit b12)) 0 15 (f_X6_bit (f_X6_has (uP 9 0) 0))) 0 4 (f_X6_bit b14)) 0 7 (f_X6_bit b16)) 0 10 (f_X6_bit b18)) 0 13 (f_X6_bit b20)) 0 16 (f_X6_bit (f_X6_has (uP 9 0) 1))) ++ wX2 cI cZ cO hP aP0 aP1 aP2 aP3 aP4 uP) C 1 0 rfl rfl 16 rfl (by omega) (by decide) dX3_feel_204 rfl ?_
                      refine x_iinc (L' := [(2, .int 2), (0, .ref hS), (1, .ref hP), (3, .int 4)]) C 2 dX3_feel_205 2 rfl (by decide) (by decide) rfl ?_
                      refine x_goto C 61 dX3_feel_208 (by decide) ?_
                      refine x_iload_n C dX3_feel_61 0 rfl ?_
                      refine x_iconst C 3 dX3_feel_62 (by decide) ?_
                      refine x_icmp_ge_f C 211 dX3_feel_63 (by decide) (by decide) ?_
                      refine x_iconst C 3 dX3_feel_66 (by decide) ?_
                      refine x_iload_n C dX3_feel_67 0 rfl ?_
                      refine x_iadd C dX3_feel_68 ?_
                      refine x_top 5 (by decide) ?_
                      refine x_istore_n (L' := [(3, .int 5), (2, .int 2), (0, .ref hS), (1, .ref hP)]) C dX3_feel_69 (by decide) rfl ?_
                      refine x_aload_n C dX3_feel_70 2 rfl ?_
                      refine x_get (v := .ref aS0) C hwsX30 0 mw_60 0 rfl rfl (by decide) rfl rfl dX3_feel_71 ?_
                      refine x_iconst C 3 dX3_feel_74 (by decide) ?_
                      refine x_iload_n C dX3_feel_75 1 rfl ?_
                      refine x_iadd C dX3_feel_76 ?_
                      refine x_top 5 (by decide) ?_
                      refine x_aload_n C dX3_feel_77 3 rfl ?_
                      refine x_get (v := .ref aP1) C hwsX20 1 mw_213 3 rfl rfl (by decide) rfl rfl dX3_feel_78 ?_
                      refine x_iload_n C dX3_feel_81 1 rfl ?_
                      refine x_iald C 5 0 rfl rfl 2 rfl (by omega) (by decide) (uP 1 2) rfl dX3_feel_82 ?_
                      refine x_join (fun (b22 : Bool) => f_X3_feel_k91 uS uP b2 b4 b6 b8 b10 b12 b14 b16 b18 b20 b22) 91 (fun (b22 : Bool) => [(0, .ref hS), (1, .ref hP), (2, .int 2), (3, .int 5)]) (fun (b22 : Bool) => [.int (b2i b22), .int 5, .ref aS0]) (fun (b22 : Bool) => wX3 cI cZ cO hS aS0 aS1 (put (put (put (put (put (put (put (put (put (put (put (put (put uS 0 0 (uP 5 0)) 0 1 (f_X6_bit b2)) 0 2 (f_X6_bit b4)) 0 3 (f_X6_bit b6)) 0 6 (f_X6_bit b8)) 0 9 (f_X6_bit b10)) 0 12 (f_X6_bit b12)) 0 15 (f_X6_bit (f_X6_has (uP 9 0) 0))) 0 4 (f_X6_bit b14)) 0 7 (f_X6_bit b16)) 0 10 (f_X6_bit b18)) 0 13 (f_X6_bit b20)) 0 16 (f_X6_bit (f_X6_has (uP 9 0) 1))) ++ wX2 cI cZ cO hP aP0 aP1 aP2 aP3 aP4 uP) (fun b22 => ?_) _ (fun J32 => ?_)
                      · unfold f_X3_feel_k91
                        refine x_cNi (As := [.int (b2i b22)]) (ws' := wX3 cI cZ cO hS aS0 aS1 (put (put (put (put (put (put (put (put (put (put (put (put (put uS 0 0 (uP 5 0)) 0 1 (f_X6_bit b2)) 0 2 (f_X6_bit b4)) 0 3 (f_X6_bit b6)) 0 6 (f_X6_bit b8)) 0 9 (f_X6_bit b10)) 0 12 (f_X6_bit b12)) 0 15 (f_X6_bit (f_X6_has (uP 9 0) 0))) 0 4 (f_X6_bit b14)) 0 7 (f_X6_bit b16)) 0 10 (f_X6_bit b18)) 0 13 (f_X6_bit b20)) 0 16 (f_X6_bit (f_X6_has (uP 9 0) 1))) ++ wX2 cI cZ cO hP aP0 aP1 aP2 aP3 aP4 uP) C C.2.2.2.1.2.2.2.1 mw_72 mw_37 mw_66 hd_X6_bit rfl rfl ⟨Nat.le_of_ble_eq_true rfl, Nat.le_of_ble_eq_true rfl⟩ (c_X6_bit l D cI cZ cO  b22 ) [] [.inl 0, .inl 1, .inl 2, .inl 3, .inl 4, .inl 5, .inl 6, .inl 7, .inl 8] trivial rfl ⟨rfl, rfl, rfl, rfl, rfl, rfl, rfl, rfl, rfl, trivial⟩ rfl ⟨rfl, rfl, rfl, rfl, rfl, rfl, rfl, rfl, rfl, trivial⟩ rfl rfl (Nat.le_of_ble_eq_true rfl) (Nat.le_of_ble_eq_true rfl) (Nat.le_of_ble_eq_true rfl) dX3_feel_91 ?_
                        refine x_iast (ws' := wX3 cI cZ cO hS aS0 aS1 (put (put (put (put (put (put (put (put (put (put (put (put (put (put uS 0 0 (uP 5 0)) 0 1 (f_X6_bit b2)) 0 2 (f_X6_bit b4)) 0 3 (f_X6_bit b6)) 0 6 (f_X6_bit b8)) 0 9 (f_X6_bit b10)) 0 12 (f_X6_bit b12)) 0 15 (f_X6_bit (f_X6_has (uP 9 0) 0))) 0 4 (f_X6_bit b14)) 0 7 (f_X6_bit b16)) 0 10 (f_X6_bit b18)) 0 13 (f_X6_bit b20)) 0 16 (f_X6_bit (f_X6_has (uP 9 0) 1))) 0 5 (f_X6_bit b22)) ++ wX2 cI cZ cO hP aP0 aP1 aP2 aP3 aP4 uP) C 1 0 rfl rfl 5 rfl (by omega) (by decide) dX3_feel_94 rfl ?_
                        refine x_aload_n C dX3_feel_95 0 rfl ?_
                        refine x_get (v := .ref aS0) C hwsX30 0 mw_60 0 rfl rfl (by decide) rfl rfl dX3_feel_96 ?_
                        refine x_bipush C 6 dX3_feel_99 (by decide) ?_
                        refine x_iload_n C dX3_feel_101 2 rfl ?_
                        refine x_iadd C dX3_feel_102 ?_
                        refine x_top 8 (by decide) ?_
                        refine x_aload_n C dX3_feel_103 1 rfl ?_
                        refine x_get (v := .ref aP1) C hwsX20 1 mw_213 3 rfl rfl (by decide) rfl rfl dX3_feel_104 ?_
                        refine x_iload_n C dX3_feel_107 2 rfl ?_
                        refine x_iald C 5 0 rfl rfl 2 rfl (by omega) (by decide) (uP 1 2) rfl dX3_feel_108 ?_
                        refine x_aload_n C dX3_feel_109 1 rfl ?_
                        refine x_get (v := .ref aP0) C hwsX20 0 mw_214 3 rfl rfl (by decide) rfl rfl dX3_feel_110 ?_
                        refine x_iload_n C dX3_feel_113 2 rfl ?_
                        refine x_iald C 4 0 rfl rfl 2 rfl (by omega) (by decide) (uP 0 2) rfl dX3_feel_114 ?_
                        refine x_join (fun (b24 : Bool) => f_X3_feel_k123 uS uP b2 b4 b6 b8 b10 b12 b14 b16 b18 b20 b22 b24) 123 (fun (b24 : Bool) => [(0, .ref hS), (1, .ref hP), (2, .int 2), (3, .int 5)]) (fun (b24 : Bool) => [.int (b2i b24), .int 8, .ref aS0]) (fun (b24 : Bool) => wX3 cI cZ cO hS aS0 aS1 (put (put (put (put (put (put (put (put (put (put (put (put (put (put uS 0 0 (uP 5 0)) 0 1 (f_X6_bit b2)) 0 2 (f_X6_bit b4)) 0 3 (f_X6_bit b6)) 0 6 (f_X6_bit b8)) 0 9 (f_X6_bit b10)) 0 12 (f_X6_bit b12)) 0 15 (f_X6_bit (f_X6_has (uP 9 0) 0))) 0 4 (f_X6_bit b14)) 0 7 (f_X6_bit b16)) 0 10 (f_X6_bit b18)) 0 13 (f_X6_bit b20)) 0 16 (f_X6_bit (f_X6_has (uP 9 0) 1))) 0 5 (f_X6_bit b22)) ++ wX2 cI cZ cO hP aP0 aP1 aP2 aP3 aP4 uP) (fun b24 => ?_) _ (fun J31 => ?_)
                        · unfold f_X3_feel_k123
                          refine x_cNi (As := [.int (b2i b24)]) (ws' := wX3 cI cZ cO hS aS0 aS1 (put (put (put (put (put (put (put (put (put (put (put (put (put (put uS 0 0 (uP 5 0)) 0 1 (f_X6_bit b2)) 0 2 (f_X6_bit b4)) 0 3 (f_X6_bit b6)) 0 6 (f_X6_bit b8)) 0 9 (f_X6_bit b10)) 0 12 (f_X6_bit b12)) 0 15 (f_X6_bit (f_X6_has (uP 9 0) 0))) 0 4 (f_X6_bit b14)) 0 7 (f_X6_bit b16)) 0 10 (f_X6_bit b18)) 0 13 (f_X6_bit b20)) 0 16 (f_X6_bit (f_X6_has (uP 9 0) 1))) 0 5 (f_X6_bit b22)) ++ wX2 cI cZ cO hP aP0 aP1 aP2 aP3 aP4 uP) C C.2.2.2.1.2.2.2.1 mw_72 mw_37 mw_66 hd_X6_bit rfl rfl ⟨Nat.le_of_ble_eq_true rfl, Nat.le_of_ble_eq_true rfl⟩ (c_X6_bit l D cI cZ cO  b24 ) [] [.inl 0, .inl 1, .inl 2, .inl 3, .inl 4, .inl 5, .inl 6, .inl 7, .inl 8] trivial rfl ⟨rfl, rfl, rfl, rfl, rfl, rfl, rfl, rfl, rfl, trivial⟩ rfl ⟨rfl, rfl, rfl, rfl, rfl, rfl, rfl, rfl, rfl, trivial⟩ rfl rfl (Nat.le_of_ble_eq_true rfl) (Nat.le_of_ble_eq_true rfl) (Nat.le_of_ble_eq_true rfl) dX3_feel_123 ?_
                          refine x_iast (ws' := wX3 cI cZ cO hS aS0 aS1 (put (put (put (put (put (put (put (put (put (put (put (put (put (put (put uS 0 0 (uP 5 0)) 0 1 (f_X6_bit b2)) 0 2 (f_X6_bit b4)) 0 3 (f_X6_bit b6)) 0 6 (f_X6_bit b8)) 0 9 (f_X6_bit b10)) 0 12 (f_X6_bit b12)) 0 15 (f_X6_bit (f_X6_has (uP 9 0) 0))) 0 4 (f_X6_bit b14)) 0 7 (f_X6_bit b16)) 0 10 (f_X6_bit b18)) 0 13 (f_X6_bit b20)) 0 16 (f_X6_bit (f_X6_has (uP 9 0) 1))) 0 5 (f_X6_bit b22)) 0 8 (f_X6_bit b24)) ++ wX2 cI cZ cO hP aP0 aP1 aP2 aP3 aP4 uP) C 1 0 rfl rfl 8 rfl (by omega) (by decide) dX3_feel_126 rfl ?_
                          refine x_aload_n C dX3_feel_127 0 rfl ?_
                          refine x_get (v := .ref aS0) C hwsX30 0 mw_60 0 rfl rfl (by decide) rfl rfl dX3_feel_128 ?_
                          refine x_bipush C 9 dX3_feel_131 (by decide) ?_
                          refine x_iload_n C dX3_feel_133 2 rfl ?_
                          refine x_iadd C dX3_feel_134 ?_
                          refine x_top 11 (by decide) ?_
                          refine x_aload_n C dX3_feel_135 1 rfl ?_
                          refine x_get (v := .ref aP1) C hwsX20 1 mw_213 3 rfl rfl (by decide) rfl rfl dX3_feel_136 ?_
                          refine x_iload_n C dX3_feel_139 3 rfl ?_
                          refine x_iald C 5 0 rfl rfl 5 rfl (by omega) (by decide) (uP 1 5) rfl dX3_feel_140 ?_
                          refine x_aload_n C dX3_feel_141 1 rfl ?_
                          refine x_get (v := .ref aP0) C hwsX20 0 mw_214 3 rfl rfl (by decide) rfl rfl dX3_feel_142 ?_
                          refine x_iload_n C dX3_feel_145 3 rfl ?_
                          refine x_iald C 4 0 rfl rfl 5 rfl (by omega) (by decide) (uP 0 5) rfl dX3_feel_146 ?_
                          refine x_join (fun (b26 : Bool) => f_X3_feel_k155 uS uP b2 b4 b6 b8 b10 b12 b14 b16 b18 b20 b22 b24 b26) 155 (fun (b26 : Bool) => [(0, .ref hS), (1, .ref hP), (2, .int 2), (3, .int 5)]) (fun (b26 : Bool) => [.int (b2i b26), .int 11, .ref aS0]) (fun (b26 : Bool) => wX3 cI cZ cO hS aS0 aS1 (put (put (put (put (put (put (put (put (put (put (put (put (put (put (put uS 0 0 (uP 5 0)) 0 1 (f_X6_bit b2)) 0 2 (f_X6_bit b4)) 0 3 (f_X6_bit b6)) 0 6 (f_X6_bit b8)) 0 9 (f_X6_bit b10)) 0 12 (f_X6_bit b12)) 0 15 (f_X6_bit (f_X6_has (uP 9 0) 0))) 0 4 (f_X6_bit b14)) 0 7 (f_X6_bit b16)) 0 10 (f_X6_bit b18)) 0 13 (f_X6_bit b20)) 0 16 (f_X6_bit (f_X6_has (uP 9 0) 1))) 0 5 (f_X6_bit b22)) 0 8 (f_X6_bit b24)) ++ wX2 cI cZ cO hP aP0 aP1 aP2 aP3 aP4 uP) (fun b26 => ?_) _ (fun J30 => ?_)
                          · unfold f_X3_feel_k155
                            refine x_cNi (As := [.int (b2i b26)]) (ws' := wX3 cI cZ cO hS aS0 aS1 (put (put (put (put (put (put (put (put (put (put (put (put (put (put (put uS 0 0 (uP 5 0)) 0 1 (f_X6_bit b2)) 0 2 (f_X6_bit b4)) 0 3 (f_X6_bit b6)) 0 6 (f_X6_bit b8)) 0 9 (f_X6_bit b10)) 0 12 (f_X6_bit b12)) 0 15 (f_X6_bit (f_X6_has (uP 9 0) 0))) 0 4 (f_X6_bit b14)) 0 7 (f_X6_bit b16)) 0 10 (f_X6_bit b18)) 0 13 (f_X6_bit b20)) 0 16 (f_X6_bit (f_X6_has (uP 9 0) 1))) 0 5 (f_X6_bit b22)) 0 8 (f_X6_bit b24)) ++ wX2 cI cZ cO hP aP0 aP1 aP2 aP3 aP4 uP) C C.2.2.2.1.2.2.2.1 mw_72 mw_37 mw_66 hd_X6_bit rfl rfl ⟨Nat.le_of_ble_eq_true rfl, Nat.le_of_ble_eq_true rfl⟩ (c_X6_bit l D cI cZ cO  b26 ) [] [.inl 0, .inl 1, .inl 2, .inl 3, .inl 4, .inl 5, .inl 6, .inl 7, .inl 8] trivial rfl ⟨rfl, rfl, rfl, rfl, rfl, rfl, rfl, rfl, rfl, trivial⟩ rfl ⟨rfl, rfl, rfl, rfl, rfl, rfl, rfl, rfl, rfl, trivial⟩ rfl rfl (Nat.le_of_ble_eq_true rfl) (Nat.le_of_ble_eq_true rfl) (Nat.le_of_ble_eq_true rfl) dX3_feel_155 ?_
                            refine x_iast (ws' := wX3 cI cZ cO hS aS0 aS1 (put (put (put (put (put (put (put (put (put (put (put (put (put (put (put (put uS 0 0 (uP 5 0)) 0 1 (f_X6_bit b2)) 0 2 (f_X6_bit b4)) 0 3 (f_X6_bit b6)) 0 6 (f_X6_bit b8)) 0 9 (f_X6_bit b10)) 0 12 (f_X6_bit b12)) 0 15 (f_X6_bit (f_X6_has (uP 9 0) 0))) 0 4 (f_X6_bit b14)) 0 7 (f_X6_bit b16)) 0 10 (f_X6_bit b18)) 0 13 (f_X6_bit b20)) 0 16 (f_X6_bit (f_X6_has (uP 9 0) 1))) 0 5 (f_X6_bit b22)) 0 8 (f_X6_bit b24)) 0 11 (f_X6_bit b26)) ++ wX2 cI cZ cO hP aP0 aP1 aP2 aP3 aP4 uP) C 1 0 rfl rfl 11 rfl (by omega) (by decide) dX3_feel_158 rfl ?_
                            refine x_aload_n C dX3_feel_159 0 rfl ?_
                            refine x_get (v := .ref aS0) C hwsX30 0 mw_60 0 rfl rfl (by decide) rfl rfl dX3_feel_160 ?_
                            refine x_bipush C 12 dX3_feel_163 (by decide) ?_
                            refine x_iload_n C dX3_feel_165 2 rfl ?_
                            refine x_iadd C dX3_feel_166 ?_
                            refine x_top 14 (by decide) ?_
                            refine x_aload_n C dX3_feel_167 1 rfl ?_
                            refine x_get (v := .ref aP1) C hwsX20 1 mw_213 3 rfl rfl (by decide) rfl rfl dX3_feel_168 ?_
                            refine x_iload_n C dX3_feel_171 3 rfl ?_
                            refine x_iald C 5 0 rfl rfl 5 rfl (by omega) (by decide) (uP 1 5) rfl dX3_feel_172 ?_
                            refine x_join (fun (b28 : Bool) => f_X3_feel_k181 uS uP b2 b4 b6 b8 b10 b12 b14 b16 b18 b20 b22 b24 b26 b28) 181 (fun (b28 : Bool) => [(0, .ref hS), (1, .ref hP), (2, .int 2), (3, .int 5)]) (fun (b28 : Bool) => [.int (b2i b28), .int 14, .ref aS0]) (fun (b28 : Bool) => wX3 cI cZ cO hS aS0 aS1 (put (put (put (put (put (put (put (put (put (put (put (put (put (put (put (put uS 0 0 (uP 5 0)) 0 1 (f_X6_bit b2)) 0 2 (f_X6_bit b4)) 0 3 (f_X6_bit b6)) 0 6 (f_X6_bit b8)) 0 9 (f_X6_bit b10)) 0 12 (f_X6_bit b12)) 0 15 (f_X6_bit (f_X6_has (uP 9 0) 0))) 0 4 (f_X6_bit b14)) 0 7 (f_X6_bit b16)) 0 10 (f_X6_bit b18)) 0 13 (f_X6_bit b20)) 0 16 (f_X6_bit (f_X6_has (uP 9 0) 1))) 0 5 (f_X6_bit b22)) 0 8 (f_X6_bit b24)) 0 11 (f_X6_bit b26)) ++ wX2 cI cZ cO hP aP0 aP1 aP2 aP3 aP4 uP) (fun b28 => ?_) _ (fun J29 => ?_)
                            · unfold f_X3_feel_k181
                              refine x_cNi (As := [.int (b2i b28)]) (ws' := wX3 cI cZ cO hS aS0 aS1 (put (put (put (put (put (put (put (put (put (put (put (put (put (put (put (put uS 0 0 (uP 5 0)) 0 1 (f_X6_bit b2)) 0 2 (f_X6_bit b4)) 0 3 (f_X6_bit b6)) 0 6 (f_X6_bit b8)) 0 9 (f_X6_bit b10)) 0 12 (f_X6_bit b12)) 0 15 (f_X6_bit (f_X6_has (uP 9 0) 0))) 0 4 (f_X6_bit b14)) 0 7 (f_X6_bit b16)) 0 10 (f_X6_bit b18)) 0 13 (f_X6_bit b20)) 0 16 (f_X6_bit (f_X6_has (uP 9 0) 1))) 0 5 (f_X6_bit b22)) 0 8 (f_X6_bit b24)) 0 11 (f_X6_bit b26)) ++ wX2 cI cZ cO hP aP0 aP1 aP2 aP3 aP4 uP) C C.2.2.2.1.2.2.2.1 mw_72 mw_37 mw_66 hd_X6_bit rfl rfl ⟨Nat.le_of_ble_eq_true rfl, Nat.le_of_ble_eq_true rfl⟩ (c_X6_bit l D cI cZ cO  b28 ) [] [.inl 0, .inl 1, .inl 2, .inl 3, .inl 4, .inl 5, .inl 6, .inl 7, .inl 8] trivial rfl ⟨rfl, rfl, rfl, rfl, rfl, rfl, rfl, rfl, rfl, trivial⟩ rfl ⟨rfl, rfl, rfl, rfl, rfl, rfl, rfl, rfl, rfl, trivial⟩ rfl rfl (Nat.le_of_ble_eq_true rfl) (Nat.le_of_ble_eq_true rfl) (Nat.le_of_ble_eq_true rfl) dX3_feel_181 ?_
                              refine x_iast (ws' := wX3 cI cZ cO hS aS0 aS1 (put (put (put (put (put (put (put (put (put (put (put (put (put (put (put (put (put uS 0 0 (uP 5 0)) 0 1 (f_X6_bit b2)) 0 2 (f_X6_bit b4)) 0 3 (f_X6_bit b6)) 0 6 (f_X6_bit b8)) 0 9 (f_X6_bit b10)) 0 12 (f_X6_bit b12)) 0 15 (f_X6_bit (f_X6_has (uP 9 0) 0))) 0 4 (f_X6_bit b14)) 0 7 (f_X6_bit b16)) 0 10 (f_X6_bit b18)) 0 13 (f_X6_bit b20)) 0 16 (f_X6_bit (f_X6_has (uP 9 0) 1))) 0 5 (f_X6_bit b22)) 0 8 (f_X6_bit b24)) 0 11 (f_X6_bit b26)) 0 14 (f_X6_bit b28)) ++ wX2 cI cZ cO hP aP0 aP1 aP2 aP3 aP4 uP) C 1 0 rfl rfl 14 rfl (by omega) (by decide) dX3_feel_184 rfl ?_
                              refine x_aload_n C dX3_feel_185 0 rfl ?_
                              refine x_get (v := .ref aS0) C hwsX30 0 mw_60 0 rfl rfl (by decide) rfl rfl dX3_feel_186 ?_
                              refine x_bipush C 15 dX3_feel_189 (by decide) ?_
                              refine x_iload_n C dX3_feel_191 2 rfl ?_
                              refine x_iadd C dX3_feel_192 ?_
                              refine x_top 17 (by decide) ?_
                              refine x_aload_n C dX3_feel_193 1 rfl ?_
                              refine x_get (v := .int (uP 9 0)) C hwsX20 9 mw_215 3 rfl rfl (by decide) rfl rfl dX3_feel_194 ?_
                              refine x_iload_n C dX3_feel_197 2 rfl ?_
                              refine x_cNi (As := [.int (uP 9 0), .int 2]) (ws' := wX3 cI cZ cO hS aS0 aS1 (put (put (put (put (put (put (put (put (put (put (put (put (put (put (put (put (put uS 0 0 (uP 5 0)) 0 1 (f_X6_bit b2)) 0 2 (f_X6_bit b4)) 0 3 (f_X6_bit b6)) 0 6 (f_X6_bit b8)) 0 9 (f_X6_bit b10)) 0 12 (f_X6_bit b12)) 0 15 (f_X6_bit (f_X6_has (uP 9 0) 0))) 0 4 (f_X6_bit b14)) 0 7 (f_X6_bit b16)) 0 10 (f_X6_bit b18)) 0 13 (f_X6_bit b20)) 0 16 (f_X6_bit (f_X6_has (uP 9 0) 1))) 0 5 (f_X6_bit b22)) 0 8 (f_X6_bit b24)) 0 11 (f_X6_bit b26)) 0 14 (f_X6_bit b28)) ++ wX2 cI cZ cO hP aP0 aP1 aP2 aP3 aP4 uP) C C.2.2.2.1.2.2.2.2.1 mw_108 mw_37 mw_105 hd_X6_has rfl rfl ⟨Nat.le_of_ble_eq_true rfl, Nat.le_of_ble_eq_true rfl⟩ (c_X6_has l D cI cZ cO  (uP 9 0) 2 ) [] [.inl 0, .inl 1, .inl 2, .inl 3, .inl 4, .inl 5, .inl 6, .inl 7, .inl 8] trivial rfl ⟨rfl, rfl, rfl, rfl, rfl, rfl, rfl, rfl, rfl, trivial⟩ rfl ⟨rfl, rfl, rfl, rfl, rfl, rfl, rfl, rfl, rfl, trivial⟩ rfl rfl (Nat.le_of_ble_eq_true rfl) (Nat.le_of_ble_eq_true rfl) (Nat.le_of_ble_eq_true rfl) dX3_feel_198 ?_
                              refine x_cNi (As := [.int (b2i (f_X6_has (uP 9 0) 2))]) (ws' := wX3 cI cZ cO hS aS0 aS1 (put (put (put (put (put (put (put (put (put (put (put (put (put (put (put (put (put uS 0 0 (uP 5 0)) 0 1 (f_X6_bit b2)) 0 2 (f_X6_bit b4)) 0 3 (f_X6_bit b6)) 0 6 (f_X6_bit b8)) 0 9 (f_X6_bit b10)) 0 12 (f_X6_bit b12)) 0 15 (f_X6_bit (f_X6_has (uP 9 0) 0))) 0 4 (f_X6_bit b14)) 0 7 (f_X6_bit b16)) 0 10 (f_X6_bit b18)) 0 13 (f_X6_bit b20)) 0 16 (f_X6_bit (f_X6_has (uP 9 0) 1))) 0 5 (f_X6_bit b22)) 0 8 (f_X6_bit b24)) 0 11 (f_X6_bit b26)) 0 14 (f_X6_bit b28)) ++ wX2 cI cZ cO hP aP0 aP1 aP2 aP3 aP4 uP) C C.2.2.2.1.2.2.2.1 mw_72 mw_37 mw_66 hd_X6_bit rfl rfl ⟨Nat.le_of_ble_eq_true rfl, Nat.le_of_ble_eq_true rfl⟩ (c_X6_bit l D cI cZ cO  (f_X6_has (uP 9 0) 2) ) [] [.inl 0, .inl 1, .inl 2, .inl 3, .inl 4, .inl 5, .inl 6, .inl 7, .inl 8] trivial rfl ⟨rfl, rfl, rfl, rfl, rfl, rfl, rfl, rfl, rfl, trivial⟩ rfl ⟨rfl, rfl, rfl, rfl, rfl, rfl, rfl, rfl, rfl, trivial⟩ rfl rfl (Nat.le_of_ble_eq_true rfl) (Nat.le_of_ble_eq_true rfl) (Nat.le_of_ble_eq_true rfl) dX3_feel_201 ?_
                              refine x_iast (ws' := wX3 cI cZ cO hS aS0 aS1 (put (put (put (put (put (put (put (put (put (put (put (put (put (put (put (put (put (put uS 0 0 (uP 5 0)) 0 1 (f_X6_bit b2)) 0 2 (f_X6_bit b4)) 0 3 (f_X6_bit b6)) 0 6 (f_X6_bit b8)) 0 9 (f_X6_bit b10)) 0 12 (f_X6_bit b12)) 0 15 (f_X6_bit (f_X6_has (uP 9 0) 0))) 0 4 (f_X6_bit b14)) 0 7 (f_X6_bit b16)) 0 10 (f_X6_bit b18)) 0 13 (f_X6_bit b20)) 0 16 (f_X6_bit (f_X6_has (uP 9 0) 1))) 0 5 (f_X6_bit b22)) 0 8 (f_X6_bit b24)) 0 11 (f_X6_bit b26)) 0 14 (f_X6_bit b28)) 0 17 (f_X6_bit (f_X6_has (uP 9 0) 2))) ++ wX2 cI cZ cO hP aP0 aP1 aP2 aP3 aP4 uP) C 1 0 rfl rfl 17 rfl (by omega) (by decide) dX3_feel_204 rfl ?_
                              refine x_iinc (L' := [(2, .int 3), (0, .ref hS), (1, .ref hP), (3, .int 5)]) C 3 dX3_feel_205 2 rfl (by decide) (by decide) rfl ?_
                              refine x_goto C 61 dX3_feel_208 (by decide) ?_
                              refine x_iload_n C dX3_feel_61 0 rfl ?_
                              refine x_iconst C 3 dX3_feel_62 (by decide) ?_
                              refine x_icmp_ge_t C 211 dX3_feel_63 (by decide) (by decide) ?_
                              exact x_vret C rfl dX3_feel_211 rfl
                            · refine x_if_ne C 180 dX3_feel_173 (by decide) (fun c27 => ?_) (fun c27 => ?_)
                              · refine x_iconst C 1 dX3_feel_176 (by decide) ?_
                                refine x_goto C 181 dX3_feel_177 (by decide) ?_
                                exact J29 true
                              · refine x_iconst C 0 dX3_feel_180 (by decide) ?_
                                exact J29 false
                          · refine x_icmp_ne C 154 dX3_feel_147 (by decide) (fun c25 => ?_) (fun c25 => ?_)
                            · refine x_iconst C 1 dX3_feel_150 (by decide) ?_
                              refine x_goto C 155 dX3_feel_151 (by decide) ?_
                              exact J30 true
                            · refine x_iconst C 0 dX3_feel_154 (by decide) ?_
                              exact J30 false
                        · refine x_icmp_ne C 122 dX3_feel_115 (by decide) (fun c23 => ?_) (fun c23 => ?_)
                          · refine x_iconst C 1 dX3_feel_118 (by decide) ?_
                            refine x_goto C 123 dX3_feel_119 (by decide) ?_
                            exact J31 true
                          · refine x_iconst C 0 dX3_feel_122 (by decide) ?_
                            exact J31 false
                      · refine x_if_ne C 90 dX3_feel_83 (by decide) (fun c21 => ?_) (fun c21 => ?_)
                        · refine x_iconst C 1 dX3_feel_86 (by decide) ?_
                          refine x_goto C 91 dX3_feel_87 (by decide) ?_
                          refine x_lsub (L' := [(0, .ref hS), (1, .ref hP), (2, .int 2), (3, .int 5)]) [2, 3, 1, 0] rfl ?_
                          exact J32 true
                        · refine x_iconst C 0 dX3_feel_90 (by decide) ?_
                          refine x_lsub (L' := [(0, .ref hS), (1, .ref hP), (2, .int 2), (3, .int 5)]) [2, 3, 1, 0] rfl ?_
                          exact J32 false
                    · refine x_if_ne C 180 dX3_feel_173 (by decide) (fun c19 => ?_) (fun c19 => ?_)
                      · refine x_iconst C 1 dX3_feel_176 (by decide) ?_
                        refine x_goto C 181 dX3_feel_177 (by decide) ?_
                        exact J33 true
                      · refine x_iconst C 0 dX3_feel_180 (by decide) ?_
                        exact J33 false
                  · refine x_icmp_ne C 154 dX3_feel_147 (by decide) (fun c17 => ?_) (fun c17 => ?_)
                    · refine x_iconst C 1 dX3_feel_150 (by decide) ?_
                      refine x_goto C 155 dX3_feel_151 (by decide) ?_
                      exact J34 true
                    · refine x_iconst C 0 dX3_feel_154 (by decide) ?_
                      exact J34 false
                · refine x_icmp_ne C 122 dX3_feel_115 (by decide) (fun c15 => ?_) (fun c15 => ?_)
                  · refine x_iconst C 1 dX3_feel_118 (by decide) ?_
                    refine x_goto C 123 dX3_feel_119 (by decide) ?_
                    exact J35 true
                  · refine x_iconst C 0 dX3_feel_122 (by decide) ?_
                    exact J35 false
              · refine x_if_ne C 90 dX3_feel_83 (by decide) (fun c13 => ?_) (fun c13 => ?_)
                · refine x_iconst C 1 dX3_feel_86 (by decide) ?_
                  refine x_goto C 91 dX3_feel_87 (by decide) ?_
                  refine x_lsub (L' := [(0, .ref hS), (1, .ref hP), (2, .int 1), (3, .int 4)]) [2, 3, 1, 0] rfl ?_
                  exact J36 true
                · refine x_iconst C 0 dX3_feel_90 (by decide) ?_
                  refine x_lsub (L' := [(0, .ref hS), (1, .ref hP), (2, .int 1), (3, .int 4)]) [2, 3, 1, 0] rfl ?_
                  exact J36 false
            · refine x_if_ne C 180 dX3_feel_173 (by decide) (fun c11 => ?_) (fun c11 => ?_)
              · refine x_iconst C 1 dX3_feel_176 (by decide) ?_
                refine x_goto C 181 dX3_feel_177 (by decide) ?_
                exact J37 true
              · refine x_iconst C 0 dX3_feel_180 (by decide) ?_
                exact J37 false
          · refine x_icmp_ne C 154 dX3_feel_147 (by decide) (fun c9 => ?_) (fun c9 => ?_)
            · refine x_iconst C 1 dX3_feel_150 (by decide) ?_
              refine x_goto C 155 dX3_feel_151 (by decide) ?_
              exact J38 true
            · refine x_iconst C 0 dX3_feel_154 (by decide) ?_
              exact J38 false
        · refine x_icmp_ne C 122 dX3_feel_115 (by decide) (fun c7 => ?_) (fun c7 => ?_)
          · refine x_iconst C 1 dX3_feel_118 (by decide) ?_
            refine x_goto C 123 dX3_feel_119 (by decide) ?_
            exact J39 true
          · refine x_iconst C 0 dX3_feel_122 (by decide) ?_
            exact J39 false
      · refine x_if_ne C 90 dX3_feel_83 (by decide) (fun c5 => ?_) (fun c5 => ?_)
        · refine x_iconst C 1 dX3_feel_86 (by decide) ?_
          refine x_goto C 91 dX3_feel_87 (by decide) ?_
          refine x_lsub (L' := [(0, .ref hS), (1, .ref hP), (2, .int 0), (3, .int 3)]) [2, 3, 1, 0] rfl ?_
          exact J40 true
        · refine x_iconst C 0 dX3_feel_90 (by decide) ?_
          refine x_lsub (L' := [(0, .ref hS), (1, .ref hP), (2, .int 0), (3, .int 3)]) [2, 3, 1, 0] rfl ?_
          exact J40 false
    · refine x_icmp_ne C 54 dX3_feel_47 (by decide) (fun c3 => ?_) (fun c3 => ?_)
      · refine x_iconst C 1 dX3_feel_50 (by decide) ?_
        refine x_goto C 55 dX3_feel_51 (by decide) ?_
        exact J41 true
      · refine x_iconst C 0 dX3_feel_54 (by decide) ?_
        exact J41 false
  · refine x_icmp_ne C 28 dX3_feel_21 (by decide) (fun c1 => ?_) (fun c1 => ?_)
    · refine x_iconst C 1 dX3_feel_24 (by decide) ?_
      refine x_goto C 29 dX3_feel_25 (by decide) ?_
      exact J42 true
    · refine x_iconst C 0 dX3_feel_28 (by decide) ?_
      exact J42 false

def f_X3_told (uS : St) (xk : Nat) (xc : Nat) : Int32 := if (uS 1 ((xk * 3) + xc)) = 1 then 0 else (if (uS 1 ((xk * 3) + xc)) = 2 then 1 else (if (uS 1 ((xk * 3) + xc)) = 3 then (1 - (uS 0 xk)) else (uS 0 xk)))
theorem hd_X3_told : yX3_told.cls ≠ "java/lang/invoke/MethodHandle" ∧ yX3_told.cls ≠ "java/lang/invoke/VarHandle" ∧ (parseMethodDescriptor yX3_told.desc).map (fun d => d.parameters.length) = some 2 := by decide +kernel
set_option maxHeartbeats 4000000 in
set_option maxRecDepth 100000 in
theorem c_X3_told (l : Launch) (D : va_G) (cI cZ cO : ClassId) (hS aS0 aS1 : Nat) (uS : St) (xk : Nat) (xc : Nat) (hy0 : xk < 18) (hy1 : xc < 3) : CTi l D (T3 cI cZ cO) yX3_told (Cond.code yX3_told cX3_told 3 (some .int) :: WA) ({ frames := 0, cells := 0, slots := 0, locals := 0 } : Room) [.ref hS, .int (nI xk), .int (nI xc)] (wX3 cI cZ cO hS aS0 aS1 uS) ((f_X3_told uS xk xc)) (wX3 cI cZ cO hS aS0 aS1 uS) := by
  refine ct_i (K := fun z => z) (t := f_X3_told uS xk xc) (rf := fun o => o) (wf := fun o => wX3 cI cZ cO hS aS0 aS1 uS) (own := RX3) (nm := "told") (L0 := [(0, .ref hS), (1, .int (nI xk)), (2, .int (nI xc))]) (plainFor_of_name (by decide +kernel)) rfl rfl (Nat.le_of_ble_eq_true rfl) rfl ?_
  intro p e s m args below meth c A C
  unfold f_X3_told
  refine x_aload_n C dX3_told_0 0 rfl ?_
  refine x_get (v := .ref aS1) C hwsX30 1 mw_59 0 rfl rfl (by decide) rfl rfl dX3_told_1 ?_
  refine x_iload_n C dX3_told_4 1 rfl ?_
  refine x_iconst C 3 dX3_told_5 (by decide) ?_
  refine x_imul C dX3_told_6 ?_
  refine x_top (nI (xk * 3)) (pk_mul _ _) ?_
  refine x_iload_n C dX3_told_7 2 rfl ?_
  refine x_iadd C dX3_told_8 ?_
  refine x_top (nI ((xk * 3) + xc)) (nI_add _ _) ?_
  refine x_iald C 2 0 rfl rfl ((xk * 3) + xc) rfl (by omega) (by decide) (uS 1 ((xk * 3) + xc)) rfl dX3_told_9 ?_
  refine x_split (fun c1 => ?_) (fun c1 => ?_)
  · refine x_tsI C 1 36 dX3_told_10 (i_eq c1 (by decide : (1 : Int32).toInt = 1)) (by decide) (by decide) rfl (by decide) ?_
    refine x_iconst C 0 dX3_told_36 (by decide) ?_
    exact x_iret C rfl dX3_told_37 rfl rfl
  · refine x_split (fun c2 => ?_) (fun c2 => ?_)
    · refine x_tsI C 2 38 dX3_told_10 (i_eq c2 (by decide : (2 : Int32).toInt = 2)) (by decide) (by decide) rfl (by decide) ?_
      refine x_iconst C 1 dX3_told_38 (by decide) ?_
      exact x_iret C rfl dX3_told_39 rfl rfl
    · refine x_split (fun c3 => ?_) (fun c3 => ?_)
      · refine x_tsI C 3 40 dX3_told_10 (i_eq c3 (by decide : (3 : Int32).toInt = 3)) (by decide) (by decide) rfl (by decide) ?_
        refine x_iconst C 1 dX3_told_40 (by decide) ?_
        refine x_aload_n C dX3_told_41 0 rfl ?_
        refine x_get (v := .ref aS0) C hwsX30 0 mw_60 0 rfl rfl (by decide) rfl rfl dX3_told_42 ?_
        refine x_iload_n C dX3_told_45 1 rfl ?_
        refine x_iald C 1 0 rfl rfl xk rfl (by omega) (by decide) (uS 0 xk) rfl dX3_told_46 ?_
        refine x_isub C dX3_told_47 ?_
        exact x_iret C rfl dX3_told_48 rfl rfl
      · refine x_tsO C 49 dX3_told_10 (by have g0 := i_ne c1 (by decide : (1 : Int32).toInt = 1); have g1 := i_ne c2 (by decide : (2 : Int32).toInt = 2); have g2 := i_ne c3 (by decide : (3 : Int32).toInt = 3); omega) (by decide) ?_
        refine x_aload_n C dX3_told_49 0 rfl ?_
        refine x_get (v := .ref aS0) C hwsX30 0 mw_60 0 rfl rfl (by decide) rfl rfl dX3_told_50 ?_
        refine x_iload_n C dX3_told_53 1 rfl ?_
        refine x_iald C 1 0 rfl rfl xk rfl (by omega) (by decide) (uS 0 xk) rfl dX3_told_54 ?_
        exact x_iret C rfl dX3_told_55 rfl rfl

def f_X3_toldBits (uS : St) (xk : Nat) : Int32 := ((f_X3_told uS xk 0) ||| ((f_X3_told uS xk 1) <<< (1 &&& 31))) ||| ((f_X3_told uS xk 2) <<< (2 &&& 31))
theorem hd_X3_toldBits : yX3_toldBits.cls ≠ "java/lang/invoke/MethodHandle" ∧ yX3_toldBits.cls ≠ "java/lang/invoke/VarHandle" ∧ (parseMethodDescriptor yX3_toldBits.desc).map (fun d => d.parameters.length) = some 1 := by decide +kernel
set_option maxHeartbeats 4000000 in
set_option maxRecDepth 100000 in
theorem c_X3_toldBits (l : Launch) (D : va_G) (cI cZ cO : ClassId) (hS aS0 aS1 : Nat) (uS : St) (xk : Nat) (hy0 : xk < 18) : CTi l D (T3 cI cZ cO) yX3_toldBits (Cond.code yX3_toldBits cX3_toldBits 2 (some .int) :: WA) ({ frames := 1, cells := 0, slots := 0, locals := 22 } : Room) [.ref hS, .int (nI xk)] (wX3 cI cZ cO hS aS0 aS1 uS) ((f_X3_toldBits uS xk)) (wX3 cI cZ cO hS aS0 aS1 uS) := by
  refine ct_i (K := fun z => z) (t := f_X3_toldBits uS xk) (rf := fun o => o) (wf := fun o => wX3 cI cZ cO hS aS0 aS1 uS) (own := RX3) (nm := "toldBits") (L0 := [(0, .ref hS), (1, .int (nI xk))]) (plainFor_of_name (by decide +kernel)) rfl rfl (Nat.le_of_ble_eq_true rfl) rfl ?_
  intro p e s m args below meth c A C
  unfold f_X3_toldBits
  refine x_aload_n C dX3_toldBits_0 0 rfl ?_
  refine x_iload_n C dX3_toldBits_1 1 rfl ?_
  refine x_iconst C 0 dX3_toldBits_2 (by decide) ?_
  refine x_cViW (q0 := 0) (As := [.int (nI xk), .int 0]) C mw_62 mw_63 mw_64 mw_65 mw_58 hd_X3_told rfl rfl ⟨Nat.le_of_ble_eq_true rfl, Nat.le_of_ble_eq_true rfl⟩ rfl rfl rfl (c_X3_told l D cI cZ cO hS aS0 aS1 uS xk 0 (by omega) (by omega)) rfl rfl (Nat.le_of_ble_eq_true rfl) (Nat.le_of_ble_eq_true rfl) (Nat.le_of_ble_eq_true rfl) dX3_toldBits_3 ?_
  refine x_aload_n C dX3_toldBits_6 0 rfl ?_
  refine x_iload_n C dX3_toldBits_7 1 rfl ?_
  refine x_iconst C 1 dX3_toldBits_8 (by decide) ?_
  refine x_cViW (q0 := 0) (As := [.int (nI xk), .int 1]) C mw_62 mw_63 mw_64 mw_65 mw_58 hd_X3_told rfl rfl ⟨Nat.le_of_ble_eq_true rfl, Nat.le_of_ble_eq_true rfl⟩ rfl rfl rfl (c_X3_told l D cI cZ cO hS aS0 aS1 uS xk 1 (by omega) (by omega)) rfl rfl (Nat.le_of_ble_eq_true rfl) (Nat.le_of_ble_eq_true rfl) (Nat.le_of_ble_eq_true rfl) dX3_toldBits_9 ?_
  refine x_iconst C 1 dX3_toldBits_12 (by decide) ?_
  refine x_ishl C dX3_toldBits_13 ?_
  refine x_ior C dX3_toldBits_14 ?_
  refine x_aload_n C dX3_toldBits_15 0 rfl ?_
  refine x_iload_n C dX3_toldBits_16 1 rfl ?_
  refine x_iconst C 2 dX3_toldBits_17 (by decide) ?_
  refine x_cViW (q0 := 0) (As := [.int (nI xk), .int 2]) C mw_62 mw_63 mw_64 mw_65 mw_58 hd_X3_told rfl rfl ⟨Nat.le_of_ble_eq_true rfl, Nat.le_of_ble_eq_true rfl⟩ rfl rfl rfl (c_X3_told l D cI cZ cO hS aS0 aS1 uS xk 2 (by omega) (by omega)) rfl rfl (Nat.le_of_ble_eq_true rfl) (Nat.le_of_ble_eq_true rfl) (Nat.le_of_ble_eq_true rfl) dX3_toldBits_18 ?_
  refine x_iconst C 2 dX3_toldBits_21 (by decide) ?_
  refine x_ishl C dX3_toldBits_22 ?_
  refine x_ior C dX3_toldBits_23 ?_
  exact x_iret C rfl dX3_toldBits_24 rfl rfl

def f_X4_takeOne_k28 (uV : St) (xk : Nat) (b4 : Bool) : St := put uV 0 xk (f_X6_bit b4)
def f_X4_takeOne_l14 (uV : St) (xk : Nat) (xy : Int32) (b2 : Unit) : St := f_X4_takeOne_k28 uV xk (if xy = 0 then false else true)
def f_X4_takeOne_k91 (uV : St) (xk : Nat) (b10 : Bool) (b12 : Int32) : St := put (put uV 0 xk (f_X6_bit b10)) 1 xk b12
def f_X4_takeOne_k64 (uV : St) (xk : Nat) (xy : Int32) (b10 : Bool) : St := f_X4_takeOne_k91 uV xk b10 (if (f_X6_bit b10) = 1 then xy else (7 - xy))
def f_X4_takeOne (uV : St) (xk : Nat) (xy : Int32) : St := if xy = (uV 1 xk) then (f_X4_takeOne_l14 uV xk xy ()) else (if xy = 0 then (f_X4_takeOne_l14 uV xk xy ()) else (if (uV 1 xk) = 7 then (f_X4_takeOne_k64 uV xk xy (if (f_J6_bitCount_0f7a4 xy) = 2 then true else false)) else (put uV 1 xk 0)))
theorem hd_X4_takeOne : yX4_takeOne.cls ≠ "java/lang/invoke/MethodHandle" ∧ yX4_takeOne.cls ≠ "java/lang/invoke/VarHandle" ∧ (parseMethodDescriptor yX4_takeOne.desc).map (fun d => d.parameters.length) = some 2 := by decide +kernel
set_option maxHeartbeats 4000000 in
set_option maxRecDepth 100000 in
theorem c_X4_takeOne (l : Launch) (D : va_G) (cI cZ cO : ClassId) (hV aV0 aV1 : Nat) (uV : St) (xk : Nat) (xy : Int32) (hy0 : xk < 18) : CTv l D (T3 cI cZ cO) yX4_takeOne (Cond.code yX4_takeOne cX4_takeOne 3 none :: WA) ({ frames := 1, cells := 0, slots := 0, locals := 20 } : Room) [.ref hV, .int (nI xk), .int xy] (wX4 cI cZ cO hV aV0 aV1 uV) (wX4 cI cZ cO hV aV0 aV1 (f_X4_takeOne uV xk xy)) := by
  refine ct_v (K := fun z => z) (t := f_X4_takeOne uV xk xy) (wf := fun o => wX4 cI cZ cO hV aV0 aV1 o) (own := RX4) (nm := "takeOne") (L0 := [(0, .ref hV), (1, .int (nI xk)), (2, .int xy)]) (plainFor_of_name (by decide +kernel)) rfl rfl (Nat.le_of_ble_eq_true rfl) rfl ?_
  intro p e s m args below meth c A C
  unfold f_X4_takeOne
  refine x_iload_n C dX4_takeOne_0 2 rfl ?_
  refine x_aload_n C dX4_takeOne_1 0 rfl ?_
  refine x_get (v := .ref aV1) C hwsX40 1 mw_6 0 rfl rfl (by decide) rfl rfl dX4_takeOne_2 ?_
  refine x_iload_n C dX4_takeOne_5 1 rfl ?_
  refine x_iald C 2 0 rfl rfl xk rfl (by omega) (by decide) (uV 1 xk) rfl dX4_takeOne_6 ?_
  refine x_lab (fun (b2 : Unit) => f_X4_takeOne_l14 uV xk xy b2) 14 (fun (b2 : Unit) => [(0, .ref hV), (1, .int (nI xk)), (2, .int xy)]) (fun (b2 : Unit) => []) (fun (b2 : Unit) => wX4 cI cZ cO hV aV0 aV1 uV) (fun b2 => ?_) (fun J6 => ?_)
  · unfold f_X4_takeOne_l14
    refine x_aload_n C dX4_takeOne_14 0 rfl ?_
    refine x_get (v := .ref aV0) C hwsX40 0 mw_5 0 rfl rfl (by decide) rfl rfl dX4_takeOne_15 ?_
    refine x_iload_n C dX4_takeOne_18 1 rfl ?_
    refine x_iload_n C dX4_takeOne_19 2 rfl ?_
    refine x_join (fun (b4 : Bool) => f_X4_takeOne_k28 uV xk b4) 28 (fun (b4 : Bool) => [(0, .ref hV), (1, .int (nI xk)), (2, .int xy)]) (fun (b4 : Bool) => [.int (b2i b4), .int (nI xk), .ref aV0]) (fun (b4 : Bool) => wX4 cI cZ cO hV aV0 aV1 uV) (fun b4 => ?_) _ (fun J5 => ?_)
    · unfold f_X4_takeOne_k28
      refine x_cNi (As := [.int (b2i b4)]) (ws' := wX4 cI cZ cO hV aV0 aV1 uV) C C.2.2.2.1.2.2.2.2.2.1 mw_72 mw_37 mw_66 hd_X6_bit rfl rfl ⟨Nat.le_of_ble_eq_true rfl, Nat.le_of_ble_eq_true rfl⟩ (c_X6_bit l D cI cZ cO  b4 ) [] [.inl 0, .inl 1, .inl 2] trivial rfl ⟨rfl, rfl, rfl, trivial⟩ rfl ⟨rfl, rfl, rfl, trivial⟩ rfl rfl (Nat.le_of_ble_eq_true rfl) (Nat.le_of_ble_eq_true rfl) (Nat.le_of_ble_eq_true rfl) dX4_takeOne_28 ?_
      refine x_iast (ws' := wX4 cI cZ cO hV aV0 aV1 (put uV 0 xk (f_X6_bit b4))) C 1 0 rfl rfl xk rfl (by omega) (by decide) dX4_takeOne_31 rfl ?_
      refine x_goto C 102 dX4_takeOne_32 (by decide) ?_
      exact x_vret C rfl dX4_takeOne_102 rfl
    · refine x_if_eq C 27 dX4_takeOne_20 (by decide) (fun c3 => ?_) (fun c3 => ?_)
      · refine x_iconst C 0 dX4_takeOne_27 (by decide) ?_
        exact J5 false
      · refine x_iconst C 1 dX4_takeOne_23 (by decide) ?_
        refine x_goto C 28 dX4_takeOne_24 (by decide) ?_
        exact J5 true
  refine x_icmp_eq C 14 dX4_takeOne_7 (by decide) (fun c1 => ?_) (fun c1 => ?_)
  · exact J6 ()
  · refine x_iload_n C dX4_takeOne_10 2 rfl ?_
    refine x_if_ne C 35 dX4_takeOne_11 (by decide) (fun c7 => ?_) (fun c7 => ?_)
    · exact J6 ()
    · refine x_aload_n C dX4_takeOne_35 0 rfl ?_
      refine x_get (v := .ref aV1) C hwsX40 1 mw_6 0 rfl rfl (by decide) rfl rfl dX4_takeOne_36 ?_
      refine x_iload_n C dX4_takeOne_39 1 rfl ?_
      refine x_iald C 2 0 rfl rfl xk rfl (by omega) (by decide) (uV 1 xk) rfl dX4_takeOne_40 ?_
      refine x_bipush C 7 dX4_takeOne_41 (by decide) ?_
      refine x_icmp_ne C 95 dX4_takeOne_43 (by decide) (fun c8 => ?_) (fun c8 => ?_)
      · refine x_aload_n C dX4_takeOne_46 0 rfl ?_
        refine x_get (v := .ref aV0) C hwsX40 0 mw_5 0 rfl rfl (by decide) rfl rfl dX4_takeOne_47 ?_
        refine x_iload_n C dX4_takeOne_50 1 rfl ?_
        refine x_iload_n C dX4_takeOne_51 2 rfl ?_
        refine x_cSi (As := [.int xy]) (ws' := wX4 cI cZ cO hV aV0 aV1 uV) C mw_73 mw_74 mw_75 mw_67 hd_J6_bitCount_0f7a4 rfl rfl ⟨Nat.le_of_ble_eq_true rfl, Nat.le_of_ble_eq_true rfl⟩ (c_J6_bitCount_0f7a4 l D cI cZ cO  xy ) [] [.inl 0, .inl 1, .inl 2] trivial rfl ⟨rfl, rfl, rfl, trivial⟩ rfl ⟨rfl, rfl, rfl, trivial⟩ rfl rfl (Nat.le_of_ble_eq_true rfl) (Nat.le_of_ble_eq_true rfl) (Nat.le_of_ble_eq_true rfl) dX4_takeOne_52 ?_
        refine x_iconst C 2 dX4_takeOne_55 (by decide) ?_
        refine x_join (fun (b10 : Bool) => f_X4_takeOne_k64 uV xk xy b10) 64 (fun (b10 : Bool) => [(0, .ref hV), (1, .int (nI xk)), (2, .int xy)]) (fun (b10 : Bool) => [.int (b2i b10), .int (nI xk), .ref aV0]) (fun (b10 : Bool) => wX4 cI cZ cO hV aV0 aV1 uV) (fun b10 => ?_) _ (fun J14 => ?_)
        · unfold f_X4_takeOne_k64
          refine x_cNi (As := [.int (b2i b10)]) (ws' := wX4 cI cZ cO hV aV0 aV1 uV) C C.2.2.2.1.2.2.2.2.2.1 mw_72 mw_37 mw_66 hd_X6_bit rfl rfl ⟨Nat.le_of_ble_eq_true rfl, Nat.le_of_ble_eq_true rfl⟩ (c_X6_bit l D cI cZ cO  b10 ) [] [.inl 0, .inl 1, .inl 2] trivial rfl ⟨rfl, rfl, rfl, trivial⟩ rfl ⟨rfl, rfl, rfl, trivial⟩ rfl rfl (Nat.le_of_ble_eq_true rfl) (Nat.le_of_ble_eq_true rfl) (Nat.le_of_ble_eq_true rfl) dX4_takeOne_64 ?_
          refine x_iast (ws' := wX4 cI cZ cO hV aV0 aV1 (put uV 0 xk (f_X6_bit b10))) C 1 0 rfl rfl xk rfl (by omega) (by decide) dX4_takeOne_67 rfl ?_
          refine x_aload_n C dX4_takeOne_68 0 rfl ?_
          refine x_get (v := .ref aV1) C hwsX40 1 mw_6 0 rfl rfl (by decide) rfl rfl dX4_takeOne_69 ?_
          refine x_iload_n C dX4_takeOne_72 1 rfl ?_
          refine x_aload_n C dX4_takeOne_73 0 rfl ?_
          refine x_get (v := .ref aV0) C hwsX40 0 mw_5 0 rfl rfl (by decide) rfl rfl dX4_takeOne_74 ?_
          refine x_iload_n C dX4_takeOne_77 1 rfl ?_
          refine x_iald C 1 0 rfl rfl xk rfl (by omega) (by decide) (f_X6_bit b10) (by simp [put, upd]) dX4_takeOne_78 ?_
          refine x_iconst C 1 dX4_takeOne_79 (by decide) ?_
          refine x_join (fun (b12 : Int32) => f_X4_takeOne_k91 uV xk b10 b12) 91 (fun (b12 : Int32) => [(0, .ref hV), (1, .int (nI xk)), (2, .int xy)]) (fun (b12 : Int32) => [.int b12, .int (nI xk), .ref aV1]) (fun (b12 : Int32) => wX4 cI cZ cO hV aV0 aV1 (put uV 0 xk (f_X6_bit b10))) (fun b12 => ?_) _ (fun J13 => ?_)
          · unfold f_X4_takeOne_k91
            refine x_iast (ws' := wX4 cI cZ cO hV aV0 aV1 (put (put uV 0 xk (f_X6_bit b10)) 1 xk b12)) C 2 0 rfl rfl xk rfl (by omega) (by decide) dX4_takeOne_91 rfl ?_
            refine x_goto C 102 dX4_takeOne_92 (by decide) ?_
            exact x_vret C rfl dX4_takeOne_102 rfl
          · refine x_icmp_ne C 87 dX4_takeOne_80 (by decide) (fun c11 => ?_) (fun c11 => ?_)
            · refine x_iload_n C dX4_takeOne_83 2 rfl ?_
              refine x_goto C 91 dX4_takeOne_84 (by decide) ?_
              exact J13 xy
            · refine x_bipush C 7 dX4_takeOne_87 (by decide) ?_
              refine x_iload_n C dX4_takeOne_89 2 rfl ?_
              refine x_isub C dX4_takeOne_90 ?_
              exact J13 (7 - xy)
        · refine x_icmp_ne C 63 dX4_takeOne_56 (by decide) (fun c9 => ?_) (fun c9 => ?_)
          · refine x_iconst C 1 dX4_takeOne_59 (by decide) ?_
            refine x_goto C 64 dX4_takeOne_60 (by decide) ?_
            exact J14 true
          · refine x_iconst C 0 dX4_takeOne_63 (by decide) ?_
            exact J14 false
      · refine x_aload_n C dX4_takeOne_95 0 rfl ?_
        refine x_get (v := .ref aV1) C hwsX40 1 mw_6 0 rfl rfl (by decide) rfl rfl dX4_takeOne_96 ?_
        refine x_iload_n C dX4_takeOne_99 1 rfl ?_
        refine x_iconst C 0 dX4_takeOne_100 (by decide) ?_
        refine x_iast (ws' := wX4 cI cZ cO hV aV0 aV1 (put uV 1 xk 0)) C 2 0 rfl rfl xk rfl (by omega) (by decide) dX4_takeOne_101 rfl ?_
        exact x_vret C rfl dX4_takeOne_102 rfl

def f_X4_take_x2 (a2 : St) : St := a2
def f_X4_take_k34 (b7 : St) : St := b7
def f_X4_take_t2 (uS : St) (i1 : Nat) (a2 : St) : St := f_X4_take_k34 (if (a2 1 i1) = 0 then a2 else (f_X4_takeOne a2 i1 ((f_X3_toldBits uS i1) &&& (a2 1 i1))))
def f_X4_take (uV : St) (uS : St) : St := f_X4_take_x2 (up (f_X4_take_t2 uS) 0 18 uV)
theorem hd_X4_take : yX4_take.cls ≠ "java/lang/invoke/MethodHandle" ∧ yX4_take.cls ≠ "java/lang/invoke/VarHandle" ∧ (parseMethodDescriptor yX4_take.desc).map (fun d => d.parameters.length) = some 1 := by decide +kernel
set_option maxHeartbeats 4000000 in
set_option maxRecDepth 100000 in
theorem c_X4_take (l : Launch) (D : va_G) (cI cZ cO : ClassId) (hV aV0 aV1 hS aS0 aS1 : Nat) (uV : St) (uS : St)  : CTv l D (T3 cI cZ cO) yX4_take (Cond.code yX4_take cX4_take 3 none :: WA) ({ frames := 2, cells := 0, slots := 0, locals := 43 } : Room) [.ref hV, .ref hS] (wX4 cI cZ cO hV aV0 aV1 uV ++ wX3 cI cZ cO hS aS0 aS1 uS) (wX4 cI cZ cO hV aV0 aV1 (f_X4_take uV uS) ++ wX3 cI cZ cO hS aS0 aS1 uS) := by
  refine ct_v (K := fun z => z) (t := f_X4_take uV uS) (wf := fun o => wX4 cI cZ cO hV aV0 aV1 o ++ wX3 cI cZ cO hS aS0 aS1 uS) (own := RX4) (nm := "take") (L0 := [(0, .ref hV), (1, .ref hS)]) (plainFor_of_name (by decide +kernel)) rfl rfl (Nat.le_of_ble_eq_true rfl) rfl ?_
  intro p e s m args below meth c A C
  unfold f_X4_take
  refine x_iconst C 0 dX4_take_0 (by decide) ?_
  refine x_istore_n (L' := [(2, .int 0), (0, .ref hV), (1, .ref hS)]) C dX4_take_1 (by decide) rfl ?_
  refine x_lsub (L' := [(0, .ref hV), (1, .ref hS), (2, .int 0)]) [1, 2, 0] rfl ?_
  refine x_loop (f_X4_take_t2 uS) (fun (a2 : St) => f_X4_take_x2 a2) 18 2 (fun (i1 : Nat) (a2 : St) => [(0, .ref hV), (1, .ref hS), (2, .int (nI i1))]) (fun (i1 : Nat) (a2 : St) => []) (fun (i1 : Nat) (a2 : St) => wX4 cI cZ cO hV aV0 aV1 a2 ++ wX3 cI cZ cO hS aS0 aS1 uS) (fun a2 => ?_) (fun i1 a2 K5 hk3 ih4 => ?_) 18 0 uV (by omega)
  · unfold f_X4_take_x2
    refine x_iload_n C dX4_take_2 2 rfl ?_
    refine x_bipush C 18 dX4_take_3 (by decide) ?_
    refine x_icmp_ge_t C 40 dX4_take_5 (by decide) (by decide) ?_
    exact x_vret C rfl dX4_take_40 rfl
  · unfold f_X4_take_t2
    refine x_iload_n C dX4_take_2 2 rfl ?_
    refine x_bipush C 18 dX4_take_3 (by decide) ?_
    refine x_icmp_ge_f C 40 dX4_take_5 (by decide) (nI_lt (b := 18) hk3 (by omega)) ?_
    refine x_aload_n C dX4_take_8 0 rfl ?_
    refine x_get (v := .ref aV1) C hwsX40 1 mw_6 0 rfl rfl (by decide) rfl rfl dX4_take_9 ?_
    refine x_iload_n C dX4_take_12 2 rfl ?_
    refine x_iald C 2 0 rfl rfl i1 rfl (by omega) (by decide) (a2 1 i1) rfl dX4_take_13 ?_
    refine x_join (fun (b7 : St) => f_X4_take_k34 b7) 34 (fun (b7 : St) => [(0, .ref hV), (1, .ref hS), (2, .int (nI i1))]) (fun (b7 : St) => []) (fun (b7 : St) => wX4 cI cZ cO hV aV0 aV1 b7 ++ wX3 cI cZ cO hS aS0 aS1 uS) (fun b7 => ?_) _ (fun J8 => ?_)
    · unfold f_X4_take_k34
      refine x_iinc (L' := [(2, .int (nI (i1 + 1))), (0, .ref hV), (1, .ref hS)]) C (nI (i1 + 1)) dX4_take_34 2 rfl (nI_add _ _) (by decide) rfl ?_
      refine x_goto C 2 dX4_take_37 (by decide) ?_
      refine x_lsub (L' := [(0, .ref hV), (1, .ref hS), (2, .int (nI (i1 + 1)))]) [1, 2, 0] rfl ?_
      exact ih4 b7
    · refine x_if_eq C 34 dX4_take_14 (by decide) (fun c6 => ?_) (fun c6 => ?_)
      · exact J8 a2
      · refine x_aload_n C dX4_take_17 0 rfl ?_
        refine x_iload_n C dX4_take_18 2 rfl ?_
        refine x_aload_n C dX4_take_19 1 rfl ?_
        refine x_iload_n C dX4_take_20 2 rfl ?_
        refine x_cVi (q0 := 3) (As := [.int (nI i1)]) (ws' := wX4 cI cZ cO hV aV0 aV1 a2 ++ wX3 cI cZ cO hS aS0 aS1 uS) C mw_76 mw_77 mw_78 mw_65 mw_61 hd_X3_toldBits rfl rfl ⟨Nat.le_of_ble_eq_true rfl, Nat.le_of_ble_eq_true rfl⟩ rfl rfl rfl (c_X3_toldBits l D cI cZ cO hS aS0 aS1 uS i1 (by omega)) [3, 4, 5] [.inl 0, .inl 1, .inl 2, .inr 0, .inr 1, .inr 2] ⟨rfl, rfl, rfl, trivial⟩ rfl ⟨rfl, rfl, rfl, rfl, rfl, rfl, trivial⟩ rfl ⟨rfl, rfl, rfl, rfl, rfl, rfl, trivial⟩ rfl rfl (Nat.le_of_ble_eq_true rfl) (Nat.le_of_ble_eq_true rfl) (Nat.le_of_ble_eq_true rfl) dX4_take_21 ?_
        refine x_aload_n C dX4_take_24 0 rfl ?_
        refine x_get (v := .ref aV1) C hwsX40 1 mw_6 0 rfl rfl (by decide) rfl rfl dX4_take_25 ?_
        refine x_iload_n C dX4_take_28 2 rfl ?_
        refine x_iald C 2 0 rfl rfl i1 rfl (by omega) (by decide) (a2 1 i1) rfl dX4_take_29 ?_
        refine x_iand C dX4_take_30 ?_
        refine x_cVv (q0 := 0) (As := [.int (nI i1), .int ((f_X3_toldBits uS i1) &&& (a2 1 i1))]) (ws' := wX4 cI cZ cO hV aV0 aV1 (f_X4_takeOne a2 i1 ((f_X3_toldBits uS i1) &&& (a2 1 i1))) ++ wX3 cI cZ cO hS aS0 aS1 uS) C mw_79 mw_80 mw_81 mw_17 mw_71 hd_X4_takeOne rfl rfl ⟨Nat.le_of_ble_eq_true rfl, Nat.le_of_ble_eq_true rfl⟩ rfl rfl rfl (c_X4_takeOne l D cI cZ cO hV aV0 aV1 a2 i1 ((f_X3_toldBits uS i1) &&& (a2 1 i1)) (by omega)) [0, 1, 2] [.inr 0, .inr 1, .inr 2, .inl 3, .inl 4, .inl 5] ⟨rfl, rfl, rfl, trivial⟩ rfl ⟨rfl, rfl, rfl, rfl, rfl, rfl, trivial⟩ rfl ⟨rfl, rfl, rfl, rfl, rfl, rfl, trivial⟩ rfl rfl (Nat.le_of_ble_eq_true rfl) (Nat.le_of_ble_eq_true rfl) (Nat.le_of_ble_eq_true rfl) dX4_take_31 ?_
        exact J8 (f_X4_takeOne a2 i1 ((f_X3_toldBits uS i1) &&& (a2 1 i1)))

def f_X4_isSeen (uV : St) (xk : Nat) : Bool := if (uV 0 xk) = 1 then true else false
theorem hd_X4_isSeen : yX4_isSeen.cls ≠ "java/lang/invoke/MethodHandle" ∧ yX4_isSeen.cls ≠ "java/lang/invoke/VarHandle" ∧ (parseMethodDescriptor yX4_isSeen.desc).map (fun d => d.parameters.length) = some 1 := by decide +kernel
set_option maxHeartbeats 4000000 in
set_option maxRecDepth 100000 in
theorem c_X4_isSeen (l : Launch) (D : va_G) (cI cZ cO : ClassId) (hV aV0 aV1 : Nat) (uV : St) (xk : Nat) (hy0 : xk < 18) : CTi l D (T3 cI cZ cO) yX4_isSeen (Cond.code yX4_isSeen cX4_isSeen 2 (some .boolean) :: WA) ({ frames := 0, cells := 0, slots := 0, locals := 0 } : Room) [.ref hV, .int (nI xk)] (wX4 cI cZ cO hV aV0 aV1 uV) (b2i (f_X4_isSeen uV xk)) (wX4 cI cZ cO hV aV0 aV1 uV) := by
  refine ct_i (K := fun z => z) (t := f_X4_isSeen uV xk) (rf := fun o => b2i o) (wf := fun o => wX4 cI cZ cO hV aV0 aV1 uV) (own := RX4) (nm := "isSeen") (L0 := [(0, .ref hV), (1, .int (nI xk))]) (plainFor_of_name (by decide +kernel)) rfl rfl (Nat.le_of_ble_eq_true rfl) rfl ?_
  intro p e s m args below meth c A C
  unfold f_X4_isSeen
  refine x_aload_n C dX4_isSeen_0 0 rfl ?_
  refine x_get (v := .ref aV0) C hwsX40 0 mw_5 0 rfl rfl (by decide) rfl rfl dX4_isSeen_1 ?_
  refine x_iload_n C dX4_isSeen_4 1 rfl ?_
  refine x_iald C 1 0 rfl rfl xk rfl (by omega) (by decide) (uV 0 xk) rfl dX4_isSeen_5 ?_
  refine x_iconst C 1 dX4_isSeen_6 (by decide) ?_
  refine x_icmp_ne C 14 dX4_isSeen_7 (by decide) (fun c1 => ?_) (fun c1 => ?_)
  · refine x_iconst C 1 dX4_isSeen_10 (by decide) ?_
    refine x_goto C 15 dX4_isSeen_11 (by decide) ?_
    exact x_zret C rfl (by decide) dX4_isSeen_15 rfl rfl
  · refine x_iconst C 0 dX4_isSeen_14 (by decide) ?_
    exact x_zret C rfl (by decide) dX4_isSeen_15 rfl rfl

def f_X4_allSeen (uV : St) (xf : Nat) : Bool := if (uV 0 xf) = 1 then (if (uV 0 (xf + 1)) = 1 then (if (uV 0 (xf + 2)) = 1 then true else false) else false) else false
theorem hd_X4_allSeen : yX4_allSeen.cls ≠ "java/lang/invoke/MethodHandle" ∧ yX4_allSeen.cls ≠ "java/lang/invoke/VarHandle" ∧ (parseMethodDescriptor yX4_allSeen.desc).map (fun d => d.parameters.length) = some 1 := by decide +kernel
set_option maxHeartbeats 4000000 in
set_option maxRecDepth 100000 in
theorem c_X4_allSeen (l : Launch) (D : va_G) (cI cZ cO : ClassId) (hV aV0 aV1 : Nat) (uV : St) (xf : Nat) (hy0 : xf + 2 < 18) : CTi l D (T3 cI cZ cO) yX4_allSeen (Cond.code yX4_allSeen cX4_allSeen 2 (some .boolean) :: WA) ({ frames := 0, cells := 0, slots := 0, locals := 0 } : Room) [.ref hV, .int (nI xf)] (wX4 cI cZ cO hV aV0 aV1 uV) (b2i (f_X4_allSeen uV xf)) (wX4 cI cZ cO hV aV0 aV1 uV) := by
  refine ct_i (K := fun z => z) (t := f_X4_allSeen uV xf) (rf := fun o => b2i o) (wf := fun o => wX4 cI cZ cO hV aV0 aV1 uV) (own := RX4) (nm := "allSeen") (L0 := [(0, .ref hV), (1, .int (nI xf))]) (plainFor_of_name (by decide +kernel)) rfl rfl (Nat.le_of_ble_eq_true rfl) rfl ?_
  intro p e s m args below meth c A C
  unfold f_X4_allSeen
  refine x_aload_n C dX4_allSeen_0 0 rfl ?_
  refine x_get (v := .ref aV0) C hwsX40 0 mw_5 0 rfl rfl (by decide) rfl rfl dX4_allSeen_1 ?_
  refine x_iload_n C dX4_allSeen_4 1 rfl ?_
  refine x_iald C 1 0 rfl rfl xf rfl (by omega) (by decide) (uV 0 xf) rfl dX4_allSeen_5 ?_
  refine x_iconst C 1 dX4_allSeen_6 (by decide) ?_
  refine x_icmp_ne C 38 dX4_allSeen_7 (by decide) (fun c1 => ?_) (fun c1 => ?_)
  · refine x_aload_n C dX4_allSeen_10 0 rfl ?_
    refine x_get (v := .ref aV0) C hwsX40 0 mw_5 0 rfl rfl (by decide) rfl rfl dX4_allSeen_11 ?_
    refine x_iload_n C dX4_allSeen_14 1 rfl ?_
    refine x_iconst C 1 dX4_allSeen_15 (by decide) ?_
    refine x_iadd C dX4_allSeen_16 ?_
    refine x_top (nI (xf + 1)) (nI_add _ _) ?_
    refine x_iald C 1 0 rfl rfl (xf + 1) rfl (by omega) (by decide) (uV 0 (xf + 1)) rfl dX4_allSeen_17 ?_
    refine x_iconst C 1 dX4_allSeen_18 (by decide) ?_
    refine x_icmp_ne C 38 dX4_allSeen_19 (by decide) (fun c2 => ?_) (fun c2 => ?_)
    · refine x_aload_n C dX4_allSeen_22 0 rfl ?_
      refine x_get (v := .ref aV0) C hwsX40 0 mw_5 0 rfl rfl (by decide) rfl rfl dX4_allSeen_23 ?_
      refine x_iload_n C dX4_allSeen_26 1 rfl ?_
      refine x_iconst C 2 dX4_allSeen_27 (by decide) ?_
      refine x_iadd C dX4_allSeen_28 ?_
      refine x_top (nI (xf + 2)) (nI_add _ _) ?_
      refine x_iald C 1 0 rfl rfl (xf + 2) rfl (by omega) (by decide) (uV 0 (xf + 2)) rfl dX4_allSeen_29 ?_
      refine x_iconst C 1 dX4_allSeen_30 (by decide) ?_
      refine x_icmp_ne C 38 dX4_allSeen_31 (by decide) (fun c3 => ?_) (fun c3 => ?_)
      · refine x_iconst C 1 dX4_allSeen_34 (by decide) ?_
        refine x_goto C 39 dX4_allSeen_35 (by decide) ?_
        exact x_zret C rfl (by decide) dX4_allSeen_39 rfl rfl
      · refine x_iconst C 0 dX4_allSeen_38 (by decide) ?_
        exact x_zret C rfl (by decide) dX4_allSeen_39 rfl rfl
    · refine x_iconst C 0 dX4_allSeen_38 (by decide) ?_
      exact x_zret C rfl (by decide) dX4_allSeen_39 rfl rfl
  · refine x_iconst C 0 dX4_allSeen_38 (by decide) ?_
    exact x_zret C rfl (by decide) dX4_allSeen_39 rfl rfl

def f_X4_someSeen (uV : St) (xf : Nat) : Bool := if (uV 0 xf) = 1 then true else (if (uV 0 (xf + 1)) = 1 then true else (if (uV 0 (xf + 2)) = 1 then true else false))
theorem hd_X4_someSeen : yX4_someSeen.cls ≠ "java/lang/invoke/MethodHandle" ∧ yX4_someSeen.cls ≠ "java/lang/invoke/VarHandle" ∧ (parseMethodDescriptor yX4_someSeen.desc).map (fun d => d.parameters.length) = some 1 := by decide +kernel
set_option maxHeartbeats 4000000 in
set_option maxRecDepth 100000 in
theorem c_X4_someSeen (l : Launch) (D : va_G) (cI cZ cO : ClassId) (hV aV0 aV1 : Nat) (uV : St) (xf : Nat) (hy0 : xf + 2 < 18) : CTi l D (T3 cI cZ cO) yX4_someSeen (Cond.code yX4_someSeen cX4_someSeen 2 (some .boolean) :: WA) ({ frames := 0, cells := 0, slots := 0, locals := 0 } : Room) [.ref hV, .int (nI xf)] (wX4 cI cZ cO hV aV0 aV1 uV) (b2i (f_X4_someSeen uV xf)) (wX4 cI cZ cO hV aV0 aV1 uV) := by
  refine ct_i (K := fun z => z) (t := f_X4_someSeen uV xf) (rf := fun o => b2i o) (wf := fun o => wX4 cI cZ cO hV aV0 aV1 uV) (own := RX4) (nm := "someSeen") (L0 := [(0, .ref hV), (1, .int (nI xf))]) (plainFor_of_name (by decide +kernel)) rfl rfl (Nat.le_of_ble_eq_true rfl) rfl ?_
  intro p e s m args below meth c A C
  unfold f_X4_someSeen
  refine x_aload_n C dX4_someSeen_0 0 rfl ?_
  refine x_get (v := .ref aV0) C hwsX40 0 mw_5 0 rfl rfl (by decide) rfl rfl dX4_someSeen_1 ?_
  refine x_iload_n C dX4_someSeen_4 1 rfl ?_
  refine x_iald C 1 0 rfl rfl xf rfl (by omega) (by decide) (uV 0 xf) rfl dX4_someSeen_5 ?_
  refine x_iconst C 1 dX4_someSeen_6 (by decide) ?_
  refine x_icmp_eq C 34 dX4_someSeen_7 (by decide) (fun c1 => ?_) (fun c1 => ?_)
  · refine x_iconst C 1 dX4_someSeen_34 (by decide) ?_
    refine x_goto C 39 dX4_someSeen_35 (by decide) ?_
    exact x_zret C rfl (by decide) dX4_someSeen_39 rfl rfl
  · refine x_aload_n C dX4_someSeen_10 0 rfl ?_
    refine x_get (v := .ref aV0) C hwsX40 0 mw_5 0 rfl rfl (by decide) rfl rfl dX4_someSeen_11 ?_
    refine x_iload_n C dX4_someSeen_14 1 rfl ?_
    refine x_iconst C 1 dX4_someSeen_15 (by decide) ?_
    refine x_iadd C dX4_someSeen_16 ?_
    refine x_top (nI (xf + 1)) (nI_add _ _) ?_
    refine x_iald C 1 0 rfl rfl (xf + 1) rfl (by omega) (by decide) (uV 0 (xf + 1)) rfl dX4_someSeen_17 ?_
    refine x_iconst C 1 dX4_someSeen_18 (by decide) ?_
    refine x_icmp_eq C 34 dX4_someSeen_19 (by decide) (fun c2 => ?_) (fun c2 => ?_)
    · refine x_iconst C 1 dX4_someSeen_34 (by decide) ?_
      refine x_goto C 39 dX4_someSeen_35 (by decide) ?_
      exact x_zret C rfl (by decide) dX4_someSeen_39 rfl rfl
    · refine x_aload_n C dX4_someSeen_22 0 rfl ?_
      refine x_get (v := .ref aV0) C hwsX40 0 mw_5 0 rfl rfl (by decide) rfl rfl dX4_someSeen_23 ?_
      refine x_iload_n C dX4_someSeen_26 1 rfl ?_
      refine x_iconst C 2 dX4_someSeen_27 (by decide) ?_
      refine x_iadd C dX4_someSeen_28 ?_
      refine x_top (nI (xf + 2)) (nI_add _ _) ?_
      refine x_iald C 1 0 rfl rfl (xf + 2) rfl (by omega) (by decide) (uV 0 (xf + 2)) rfl dX4_someSeen_29 ?_
      refine x_iconst C 1 dX4_someSeen_30 (by decide) ?_
      refine x_icmp_ne C 38 dX4_someSeen_31 (by decide) (fun c3 => ?_) (fun c3 => ?_)
      · refine x_iconst C 1 dX4_someSeen_34 (by decide) ?_
        refine x_goto C 39 dX4_someSeen_35 (by decide) ?_
        exact x_zret C rfl (by decide) dX4_someSeen_39 rfl rfl
      · refine x_iconst C 0 dX4_someSeen_38 (by decide) ?_
        exact x_zret C rfl (by decide) dX4_someSeen_39 rfl rfl

def f_X4_someInvalid_x2 (a2 : Unit) : Bool := false
def f_X4_someInvalid_t2 (uV : St) (i1 : Nat) (a2 : Unit) (g5 : (Unit) → Bool) : Bool := if (uV 1 i1) = 0 then true else (g5 ())
def f_X4_someInvalid (uV : St) : Bool := upr (f_X4_someInvalid_t2 uV) (fun (a2 : Unit) => f_X4_someInvalid_x2 a2) 0 18 ()
theorem hd_X4_someInvalid : yX4_someInvalid.cls ≠ "java/lang/invoke/MethodHandle" ∧ yX4_someInvalid.cls ≠ "java/lang/invoke/VarHandle" ∧ (parseMethodDescriptor yX4_someInvalid.desc).map (fun d => d.parameters.length) = some 0 := by decide +kernel
set_option maxHeartbeats 4000000 in
set_option maxRecDepth 100000 in
theorem c_X4_someInvalid (l : Launch) (D : va_G) (cI cZ cO : ClassId) (hV aV0 aV1 : Nat) (uV : St)  : CTi l D (T3 cI cZ cO) yX4_someInvalid (Cond.code yX4_someInvalid cX4_someInvalid 2 (some .boolean) :: WA) ({ frames := 0, cells := 0, slots := 0, locals := 0 } : Room) [.ref hV] (wX4 cI cZ cO hV aV0 aV1 uV) (b2i (f_X4_someInvalid uV)) (wX4 cI cZ cO hV aV0 aV1 uV) := by
  refine ct_i (K := fun z => z) (t := f_X4_someInvalid uV) (rf := fun o => b2i o) (wf := fun o => wX4 cI cZ cO hV aV0 aV1 uV) (own := RX4) (nm := "someInvalid") (L0 := [(0, .ref hV)]) (plainFor_of_name (by decide +kernel)) rfl rfl (Nat.le_of_ble_eq_true rfl) rfl ?_
  intro p e s m args below meth c A C
  unfold f_X4_someInvalid
  refine x_iconst C 0 dX4_someInvalid_0 (by decide) ?_
  refine x_istore_n (L' := [(1, .int 0), (0, .ref hV)]) C dX4_someInvalid_1 (by decide) rfl ?_
  refine x_lsub (L' := [(0, .ref hV), (1, .int 0)]) [1, 0] rfl ?_
  refine x_loopR (f_X4_someInvalid_t2 uV) (fun (a2 : Unit) => f_X4_someInvalid_x2 a2) 18 2 (fun (i1 : Nat) (a2 : Unit) => [(0, .ref hV), (1, .int (nI i1))]) (fun (i1 : Nat) (a2 : Unit) => []) (fun (i1 : Nat) (a2 : Unit) => wX4 cI cZ cO hV aV0 aV1 uV) (fun a2 => ?_) (fun i1 a2 g5 hk3 ih4 => ?_) 18 0 () (by omega)
  · unfold f_X4_someInvalid_x2
    refine x_iload_n C dX4_someInvalid_2 1 rfl ?_
    refine x_bipush C 18 dX4_someInvalid_3 (by decide) ?_
    refine x_icmp_ge_t C 25 dX4_someInvalid_5 (by decide) (by decide) ?_
    refine x_iconst C 0 dX4_someInvalid_25 (by decide) ?_
    exact x_zret C rfl (by decide) dX4_someInvalid_26 rfl rfl
  · unfold f_X4_someInvalid_t2
    refine x_iload_n C dX4_someInvalid_2 1 rfl ?_
    refine x_bipush C 18 dX4_someInvalid_3 (by decide) ?_
    refine x_icmp_ge_f C 25 dX4_someInvalid_5 (by decide) (nI_lt (b := 18) hk3 (by omega)) ?_
    refine x_aload_n C dX4_someInvalid_8 0 rfl ?_
    refine x_get (v := .ref aV1) C hwsX40 1 mw_6 0 rfl rfl (by decide) rfl rfl dX4_someInvalid_9 ?_
    refine x_iload_n C dX4_someInvalid_12 1 rfl ?_
    refine x_iald C 2 0 rfl rfl i1 rfl (by omega) (by decide) (uV 1 i1) rfl dX4_someInvalid_13 ?_
    refine x_if_ne C 19 dX4_someInvalid_14 (by decide) (fun c6 => ?_) (fun c6 => ?_)
    · refine x_iconst C 1 dX4_someInvalid_17 (by decide) ?_
      exact x_zret C rfl (by decide) dX4_someInvalid_18 rfl rfl
    · refine x_iinc (L' := [(1, .int (nI (i1 + 1))), (0, .ref hV)]) C (nI (i1 + 1)) dX4_someInvalid_19 1 rfl (nI_add _ _) (by decide) rfl ?_
      refine x_goto C 2 dX4_someInvalid_22 (by decide) ?_
      refine x_lsub (L' := [(0, .ref hV), (1, .int (nI (i1 + 1)))]) [1, 0] rfl ?_
      exact ih4 ()

def f_X5_count_k82 (a4 : St) (b6 : Int32) : St := put a4 1 0 b6
def f_X5_count_x26 (xo : Int32) (a4 : St) : St := f_X5_count_k82 a4 (if (f_X6_has xo 0) = true then 0 else ((a4 1 0) + 1))
def f_X5_count_k56 (i3 : Nat) (a4 : St) (b12 : Int32) : St := put a4 0 i3 b12
def f_X5_count_t26 (xo : Int32) (i3 : Nat) (a4 : St) : St := f_X5_count_k56 i3 a4 (if (f_X6_has xo (nI i3)) = true then ((a4 0 i3) + 1) else 0)
def f_X5_count_k21 (uW : St) (xo : Int32) (b2 : Int32) : St := f_X5_count_x26 xo (up (f_X5_count_t26 xo) 0 5 (put uW 2 0 b2))
def f_X5_count (uW : St) (xo : Int32) (xt : Bool) : St := f_X5_count_k21 uW xo (if xt = true then 0 else (imn ((uW 2 0) + 1) 216))
theorem hd_X5_count : yX5_count.cls ≠ "java/lang/invoke/MethodHandle" ∧ yX5_count.cls ≠ "java/lang/invoke/VarHandle" ∧ (parseMethodDescriptor yX5_count.desc).map (fun d => d.parameters.length) = some 2 := by decide +kernel
set_option maxHeartbeats 4000000 in
set_option maxRecDepth 100000 in
theorem c_X5_count (l : Launch) (D : va_G) (cI cZ cO : ClassId) (hW aW0 : Nat) (uW : St) (xo : Int32) (xt : Bool)  : CTv l D (T3 cI cZ cO) yX5_count (Cond.code yX5_count cX5_count 4 none :: WA) ({ frames := 1, cells := 0, slots := 0, locals := 21 } : Room) [.ref hW, .int xo, .int (b2i xt)] (wX5 cI cZ cO hW aW0 uW) (wX5 cI cZ cO hW aW0 (f_X5_count uW xo xt)) := by
  refine ct_v (K := fun z => z) (t := f_X5_count uW xo xt) (wf := fun o => wX5 cI cZ cO hW aW0 o) (own := RX5) (nm := "count") (L0 := [(0, .ref hW), (1, .int xo), (2, .int (b2i xt))]) (plainFor_of_name (by decide +kernel)) rfl rfl (Nat.le_of_ble_eq_true rfl) rfl ?_
  intro p e s m args below meth c A C
  unfold f_X5_count
  refine x_aload_n C dX5_count_0 0 rfl ?_
  refine x_iload_n C dX5_count_1 2 rfl ?_
  refine x_join (fun (b2 : Int32) => f_X5_count_k21 uW xo b2) 21 (fun (b2 : Int32) => [(0, .ref hW), (1, .int xo), (2, .int (b2i xt))]) (fun (b2 : Int32) => [.int b2, .ref hW]) (fun (b2 : Int32) => wX5 cI cZ cO hW aW0 uW) (fun b2 => ?_) _ (fun J14 => ?_)
  · unfold f_X5_count_k21
    refine x_put (ws' := wX5 cI cZ cO hW aW0 (put uW 2 0 b2)) C hwsX50 tyX5 tyX5_ok nmX5 2 mw_12 0 rfl rfl (by decide) rfl rfl rfl rfl (Nat.le_of_ble_eq_true rfl) dX5_count_21 rfl ?_
    refine x_iconst C 0 dX5_count_24 (by decide) ?_
    refine x_istore_n (L' := [(3, .int 0), (0, .ref hW), (1, .int xo), (2, .int (b2i xt))]) C dX5_count_25 (by decide) rfl ?_
    refine x_lsub (L' := [(0, .ref hW), (1, .int xo), (2, .int (b2i xt)), (3, .int 0)]) [1, 2, 3, 0] rfl ?_
    refine x_loop (f_X5_count_t26 xo) (fun (a4 : St) => f_X5_count_x26 xo a4) 5 26 (fun (i3 : Nat) (a4 : St) => [(0, .ref hW), (1, .int xo), (2, .int (b2i xt)), (3, .int (nI i3))]) (fun (i3 : Nat) (a4 : St) => []) (fun (i3 : Nat) (a4 : St) => wX5 cI cZ cO hW aW0 a4) (fun a4 => ?_) (fun i3 a4 K10 hk8 ih9 => ?_) 5 0 (put uW 2 0 b2) (by omega)
    · unfold f_X5_count_x26
      refine x_iload_n C dX5_count_26 3 rfl ?_
      refine x_iconst C 5 dX5_count_27 (by decide) ?_
      refine x_icmp_ge_t C 63 dX5_count_28 (by decide) (by decide) ?_
      refine x_aload_n C dX5_count_63 0 rfl ?_
      refine x_iload_n C dX5_count_64 1 rfl ?_
      refine x_iconst C 0 dX5_count_65 (by decide) ?_
      refine x_cNi (As := [.int xo, .int 0]) (ws' := wX5 cI cZ cO hW aW0 a4) C C.2.2.2.1.2.2.2.2.2.2.1 mw_108 mw_37 mw_105 hd_X6_has rfl rfl ⟨Nat.le_of_ble_eq_true rfl, Nat.le_of_ble_eq_true rfl⟩ (c_X6_has l D cI cZ cO  xo 0 ) [] [.inl 0, .inl 1] trivial rfl ⟨rfl, rfl, trivial⟩ rfl ⟨rfl, rfl, trivial⟩ rfl rfl (Nat.le_of_ble_eq_true rfl) (Nat.le_of_ble_eq_true rfl) (Nat.le_of_ble_eq_true rfl) dX5_count_66 ?_
      refine x_join (fun (b6 : Int32) => f_X5_count_k82 a4 b6) 82 (fun (b6 : Int32) => [(0, .ref hW), (1, .int xo), (2, .int (b2i xt)), (3, .int (nI 5))]) (fun (b6 : Int32) => [.int b6, .ref hW]) (fun (b6 : Int32) => wX5 cI cZ cO hW aW0 a4) (fun b6 => ?_) _ (fun J7 => ?_)
      · unfold f_X5_count_k82
        refine x_put (ws' := wX5 cI cZ cO hW aW0 (put a4 1 0 b6)) C hwsX50 tyX5 tyX5_ok nmX5 1 mw_11 0 rfl rfl (by decide) rfl rfl rfl rfl (Nat.le_of_ble_eq_true rfl) dX5_count_82 rfl ?_
        exact x_vret C rfl dX5_count_85 rfl
      · refine x_if_eqZ C 76 dX5_count_69 (by decide) (fun c5 => ?_) (fun c5 => ?_)
        · refine x_iconst C 0 dX5_count_72 (by decide) ?_
          refine x_goto C 82 dX5_count_73 (by decide) ?_
          exact J7 0
        · refine x_aload_n C dX5_count_76 0 rfl ?_
          refine x_get (v := .int (a4 1 0)) C hwsX50 1 mw_11 0 rfl rfl (by decide) rfl rfl dX5_count_77 ?_
          refine x_iconst C 1 dX5_count_80 (by decide) ?_
          refine x_iadd C dX5_count_81 ?_
          exact J7 ((a4 1 0) + 1)
    · unfold f_X5_count_t26
      refine x_iload_n C dX5_count_26 3 rfl ?_
      refine x_iconst C 5 dX5_count_27 (by decide) ?_
      refine x_icmp_ge_f C 63 dX5_count_28 (by decide) (nI_lt (b := 5) hk8 (by omega)) ?_
      refine x_aload_n C dX5_count_31 0 rfl ?_
      refine x_get (v := .ref aW0) C hwsX50 0 mw_10 0 rfl rfl (by decide) rfl rfl dX5_count_32 ?_
      refine x_iload_n C dX5_count_35 3 rfl ?_
      refine x_iload_n C dX5_count_36 1 rfl ?_
      refine x_iload_n C dX5_count_37 3 rfl ?_
      refine x_cNi (As := [.int xo, .int (nI i3)]) (ws' := wX5 cI cZ cO hW aW0 a4) C C.2.2.2.1.2.2.2.2.2.2.1 mw_108 mw_37 mw_105 hd_X6_has rfl rfl ⟨Nat.le_of_ble_eq_true rfl, Nat.le_of_ble_eq_true rfl⟩ (c_X6_has l D cI cZ cO  xo (nI i3) ) [] [.inl 0, .inl 1] trivial rfl ⟨rfl, rfl, trivial⟩ rfl ⟨rfl, rfl, trivial⟩ rfl rfl (Nat.le_of_ble_eq_true rfl) (Nat.le_of_ble_eq_true rfl) (Nat.le_of_ble_eq_true rfl) dX5_count_38 ?_
      refine x_join (fun (b12 : Int32) => f_X5_count_k56 i3 a4 b12) 56 (fun (b12 : Int32) => [(0, .ref hW), (1, .int xo), (2, .int (b2i xt)), (3, .int (nI i3))]) (fun (b12 : Int32) => [.int b12, .int (nI i3), .ref aW0]) (fun (b12 : Int32) => wX5 cI cZ cO hW aW0 a4) (fun b12 => ?_) _ (fun J13 => ?_)
      · unfold f_X5_count_k56
        refine x_iast (ws' := wX5 cI cZ cO hW aW0 (put a4 0 i3 b12)) C 1 0 rfl rfl i3 rfl (by omega) (by decide) dX5_count_56 rfl ?_
        refine x_iinc (L' := [(3, .int (nI (i3 + 1))), (0, .ref hW), (1, .int xo), (2, .int (b2i xt))]) C (nI (i3 + 1)) dX5_count_57 3 rfl (nI_add _ _) (by decide) rfl ?_
        refine x_goto C 26 dX5_count_60 (by decide) ?_
        refine x_lsub (L' := [(0, .ref hW), (1, .int xo), (2, .int (b2i xt)), (3, .int (nI (i3 + 1)))]) [1, 2, 3, 0] rfl ?_
        exact ih9 (put a4 0 i3 b12)
      · refine x_if_eqZ C 55 dX5_count_41 (by decide) (fun c11 => ?_) (fun c11 => ?_)
        · refine x_aload_n C dX5_count_44 0 rfl ?_
          refine x_get (v := .ref aW0) C hwsX50 0 mw_10 0 rfl rfl (by decide) rfl rfl dX5_count_45 ?_
          refine x_iload_n C dX5_count_48 3 rfl ?_
          refine x_iald C 1 0 rfl rfl i3 rfl (by omega) (by decide) (a4 0 i3) rfl dX5_count_49 ?_
          refine x_iconst C 1 dX5_count_50 (by decide) ?_
          refine x_iadd C dX5_count_51 ?_
          refine x_goto C 56 dX5_count_52 (by decide) ?_
          exact J13 ((a4 0 i3) + 1)
        · refine x_iconst C 0 dX5_count_55 (by decide) ?_
          exact J13 0
  · refine x_if_eqZ C 9 dX5_count_2 (by decide) (fun c1 => ?_) (fun c1 => ?_)
    · refine x_iconst C 0 dX5_count_5 (by decide) ?_
      refine x_goto C 21 dX5_count_6 (by decide) ?_
      exact J14 0
    · refine x_aload_n C dX5_count_9 0 rfl ?_
      refine x_get (v := .int (uW 2 0)) C hwsX50 2 mw_12 0 rfl rfl (by decide) rfl rfl dX5_count_10 ?_
      refine x_iconst C 1 dX5_count_13 (by decide) ?_
      refine x_iadd C dX5_count_14 ?_
      refine x_sipush C 216 dX5_count_15 (by decide) ?_
      refine x_mmin C mw_107 mw_40 mw_41 mw_42 (Nat.le_of_ble_eq_true rfl) (Nat.le_of_ble_eq_true rfl) (Nat.le_of_ble_eq_true rfl) (Nat.le_of_ble_eq_true rfl) dX5_count_18 ?_
      exact J14 (imn ((uW 2 0) + 1) 216)

def f_X5_causeOfPower_l60 (uW : St) (uV : St) (b6 : Unit) : Int32 := if (uW 1 0) < 100 then 0 else (if (f_X4_isSeen uV 2) = true then 5 else 0)
def f_X5_causeOfPower_l37 (uW : St) (uV : St) (b4 : Unit) : Int32 := if (uW 0 0) < 30 then (f_X5_causeOfPower_l60 uW uV ()) else (if (f_X4_isSeen uV 2) = true then (f_X5_causeOfPower_l60 uW uV ()) else 4)
def f_X5_causeOfPower_l21 (uW : St) (uV : St) (b2 : Unit) : Int32 := if (uW 2 0) < 216 then (f_X5_causeOfPower_l37 uW uV ()) else (if (f_X4_isSeen uV 1) = true then 3 else (f_X5_causeOfPower_l37 uW uV ()))
def f_X5_causeOfPower (uW : St) (uV : St) : Int32 := if (uW 2 0) = 10 then (if (f_X4_isSeen uV 1) = true then (f_X5_causeOfPower_l21 uW uV ()) else 2) else (f_X5_causeOfPower_l21 uW uV ())
theorem hd_X5_causeOfPower : yX5_causeOfPower.cls ≠ "java/lang/invoke/MethodHandle" ∧ yX5_causeOfPower.cls ≠ "java/lang/invoke/VarHandle" ∧ (parseMethodDescriptor yX5_causeOfPower.desc).map (fun d => d.parameters.length) = some 1 := by decide +kernel
set_option maxHeartbeats 4000000 in
set_option maxRecDepth 100000 in
theorem c_X5_causeOfPower (l : Launch) (D : va_G) (cI cZ cO : ClassId) (hW aW0 hV aV0 aV1 : Nat) (uW : St) (uV : St)  : CTi l D (T3 cI cZ cO) yX5_causeOfPower (Cond.code yX5_causeOfPower cX5_causeOfPower 4 (some .int) :: WA) ({ frames := 1, cells := 0, slots := 0, locals := 21 } : Room) [.ref hW, .ref hV] (wX5 cI cZ cO hW aW0 uW ++ wX4 cI cZ cO hV aV0 aV1 uV) ((f_X5_causeOfPower uW uV)) (wX5 cI cZ cO hW aW0 uW ++ wX4 cI cZ cO hV aV0 aV1 uV) := by
  refine ct_i (K := fun z => z) (t := f_X5_causeOfPower uW uV) (rf := fun o => o) (wf := fun o => wX5 cI cZ cO hW aW0 uW ++ wX4 cI cZ cO hV aV0 aV1 uV) (own := RX5) (nm := "causeOfPower") (L0 := [(0, .ref hW), (1, .ref hV)]) (plainFor_of_name (by decide +kernel)) rfl rfl (Nat.le_of_ble_eq_true rfl) rfl ?_
  intro p e s m args below meth c A C
  unfold f_X5_causeOfPower
  refine x_aload_n C dX5_causeOfPower_0 1 rfl ?_
  refine x_iconst C 1 dX5_causeOfPower_1 (by decide) ?_
  refine x_cVi (q0 := 2) (As := [.int 1]) (ws' := wX5 cI cZ cO hW aW0 uW ++ wX4 cI cZ cO hV aV0 aV1 uV) C mw_111 mw_53 mw_54 mw_17 mw_49 hd_X4_isSeen rfl rfl ⟨Nat.le_of_ble_eq_true rfl, Nat.le_of_ble_eq_true rfl⟩ rfl rfl rfl (c_X4_isSeen l D cI cZ cO hV aV0 aV1 uV 1 (by omega)) [2, 3, 4] [.inl 0, .inl 1, .inr 0, .inr 1, .inr 2] ⟨rfl, rfl, rfl, trivial⟩ rfl ⟨rfl, rfl, rfl, rfl, rfl, trivial⟩ rfl ⟨rfl, rfl, rfl, rfl, rfl, trivial⟩ rfl rfl (Nat.le_of_ble_eq_true rfl) (Nat.le_of_ble_eq_true rfl) (Nat.le_of_ble_eq_true rfl) dX5_causeOfPower_2 ?_
  refine x_istore_n (L' := [(2, .int (b2i (f_X4_isSeen uV 1))), (0, .ref hW), (1, .ref hV)]) C dX5_causeOfPower_5 (by decide) rfl ?_
  refine x_aload_n C dX5_causeOfPower_6 1 rfl ?_
  refine x_get (v := .int (uW 2 0)) C hwsX50 2 mw_12 0 rfl rfl (by decide) rfl rfl dX5_causeOfPower_7 ?_
  refine x_bipush C 10 dX5_causeOfPower_10 (by decide) ?_
  refine x_lab (fun (b2 : Unit) => f_X5_causeOfPower_l21 uW uV b2) 21 (fun (b2 : Unit) => [(0, .ref hW), (1, .ref hV), (2, .int (b2i (f_X4_isSeen uV 1)))]) (fun (b2 : Unit) => []) (fun (b2 : Unit) => wX5 cI cZ cO hW aW0 uW ++ wX4 cI cZ cO hV aV0 aV1 uV) (fun b2 => ?_) (fun J13 => ?_)
  · unfold f_X5_causeOfPower_l21
    refine x_aload_n C dX5_causeOfPower_21 0 rfl ?_
    refine x_get (v := .int (uW 2 0)) C hwsX50 2 mw_12 0 rfl rfl (by decide) rfl rfl dX5_causeOfPower_22 ?_
    refine x_sipush C 216 dX5_causeOfPower_25 (by decide) ?_
    refine x_lab (fun (b4 : Unit) => f_X5_causeOfPower_l37 uW uV b4) 37 (fun (b4 : Unit) => [(0, .ref hW), (1, .ref hV), (2, .int (b2i (f_X4_isSeen uV 1)))]) (fun (b4 : Unit) => []) (fun (b4 : Unit) => wX5 cI cZ cO hW aW0 uW ++ wX4 cI cZ cO hV aV0 aV1 uV) (fun b4 => ?_) (fun J11 => ?_)
    · unfold f_X5_causeOfPower_l37
      refine x_aload_n C dX5_causeOfPower_37 1 rfl ?_
      refine x_iconst C 2 dX5_causeOfPower_38 (by decide) ?_
      refine x_cVi (q0 := 2) (As := [.int 2]) (ws' := wX5 cI cZ cO hW aW0 uW ++ wX4 cI cZ cO hV aV0 aV1 uV) C mw_111 mw_53 mw_54 mw_17 mw_49 hd_X4_isSeen rfl rfl ⟨Nat.le_of_ble_eq_true rfl, Nat.le_of_ble_eq_true rfl⟩ rfl rfl rfl (c_X4_isSeen l D cI cZ cO hV aV0 aV1 uV 2 (by omega)) [2, 3, 4] [.inl 0, .inl 1, .inr 0, .inr 1, .inr 2] ⟨rfl, rfl, rfl, trivial⟩ rfl ⟨rfl, rfl, rfl, rfl, rfl, trivial⟩ rfl ⟨rfl, rfl, rfl, rfl, rfl, trivial⟩ rfl rfl (Nat.le_of_ble_eq_true rfl) (Nat.le_of_ble_eq_true rfl) (Nat.le_of_ble_eq_true rfl) dX5_causeOfPower_39 ?_
      refine x_istore_n (L' := [(3, .int (b2i (f_X4_isSeen uV 2))), (0, .ref hW), (1, .ref hV), (2, .int (b2i (f_X4_isSeen uV 1)))]) C dX5_causeOfPower_42 (by decide) rfl ?_
      refine x_aload_n C dX5_causeOfPower_43 1 rfl ?_
      refine x_get (v := .ref aW0) C hwsX50 0 mw_10 0 rfl rfl (by decide) rfl rfl dX5_causeOfPower_44 ?_
      refine x_iconst C 0 dX5_causeOfPower_47 (by decide) ?_
      refine x_iald C 1 0 rfl rfl 0 rfl (by omega) (by decide) (uW 0 0) rfl dX5_causeOfPower_48 ?_
      refine x_bipush C 30 dX5_causeOfPower_49 (by decide) ?_
      refine x_lab (fun (b6 : Unit) => f_X5_causeOfPower_l60 uW uV b6) 60 (fun (b6 : Unit) => [(0, .ref hW), (1, .ref hV), (2, .int (b2i (f_X4_isSeen uV 1))), (3, .int (b2i (f_X4_isSeen uV 2)))]) (fun (b6 : Unit) => []) (fun (b6 : Unit) => wX5 cI cZ cO hW aW0 uW ++ wX4 cI cZ cO hV aV0 aV1 uV) (fun b6 => ?_) (fun J9 => ?_)
      · unfold f_X5_causeOfPower_l60
        refine x_aload_n C dX5_causeOfPower_60 0 rfl ?_
        refine x_get (v := .int (uW 1 0)) C hwsX50 1 mw_11 0 rfl rfl (by decide) rfl rfl dX5_causeOfPower_61 ?_
        refine x_bipush C 100 dX5_causeOfPower_64 (by decide) ?_
        refine x_icmp_lt C 77 dX5_causeOfPower_66 (by decide) (fun c7 => ?_) (fun c7 => ?_)
        · refine x_iconst C 0 dX5_causeOfPower_77 (by decide) ?_
          exact x_iret C rfl dX5_causeOfPower_78 rfl rfl
        · refine x_iload_n C dX5_causeOfPower_69 3 rfl ?_
          refine x_if_eqZ C 77 dX5_causeOfPower_70 (by decide) (fun c8 => ?_) (fun c8 => ?_)
          · refine x_iconst C 5 dX5_causeOfPower_73 (by decide) ?_
            refine x_goto C 78 dX5_causeOfPower_74 (by decide) ?_
            exact x_iret C rfl dX5_causeOfPower_78 rfl rfl
          · refine x_iconst C 0 dX5_causeOfPower_77 (by decide) ?_
            exact x_iret C rfl dX5_causeOfPower_78 rfl rfl
      refine x_icmp_lt C 60 dX5_causeOfPower_51 (by decide) (fun c5 => ?_) (fun c5 => ?_)
      · refine x_lsub (L' := [(0, .ref hW), (1, .ref hV), (2, .int (b2i (f_X4_isSeen uV 1))), (3, .int (b2i (f_X4_isSeen uV 2)))]) [1, 2, 3, 0] rfl ?_
        exact J9 ()
      · refine x_iload_n C dX5_causeOfPower_54 0 rfl ?_
        refine x_if_neZ C 60 dX5_causeOfPower_55 (by decide) (fun c10 => ?_) (fun c10 => ?_)
        · refine x_lsub (L' := [(0, .ref hW), (1, .ref hV), (2, .int (b2i (f_X4_isSeen uV 1))), (3, .int (b2i (f_X4_isSeen uV 2)))]) [1, 2, 3, 0] rfl ?_
          exact J9 ()
        · refine x_iconst C 4 dX5_causeOfPower_58 (by decide) ?_
          exact x_iret C rfl dX5_causeOfPower_59 rfl rfl
    refine x_icmp_lt C 37 dX5_causeOfPower_28 (by decide) (fun c3 => ?_) (fun c3 => ?_)
    · exact J11 ()
    · refine x_iload_n C dX5_causeOfPower_31 2 rfl ?_
      refine x_if_eqZ C 37 dX5_causeOfPower_32 (by decide) (fun c12 => ?_) (fun c12 => ?_)
      · refine x_iconst C 3 dX5_causeOfPower_35 (by decide) ?_
        exact x_iret C rfl dX5_causeOfPower_36 rfl rfl
      · exact J11 ()
  refine x_icmp_ne C 21 dX5_causeOfPower_12 (by decide) (fun c1 => ?_) (fun c1 => ?_)
  · refine x_iload_n C dX5_causeOfPower_15 0 rfl ?_
    refine x_if_neZ C 21 dX5_causeOfPower_16 (by decide) (fun c14 => ?_) (fun c14 => ?_)
    · refine x_lsub (L' := [(0, .ref hW), (1, .ref hV), (2, .int (b2i (f_X4_isSeen uV 1)))]) [1, 2, 0] rfl ?_
      exact J13 ()
    · refine x_iconst C 2 dX5_causeOfPower_19 (by decide) ?_
      exact x_iret C rfl dX5_causeOfPower_20 rfl rfl
  · refine x_lsub (L' := [(0, .ref hW), (1, .ref hV), (2, .int (b2i (f_X4_isSeen uV 1)))]) [1, 2, 0] rfl ?_
    exact J13 ()

def f_X5_causeOfDoors_l23 (uW : St) (uV : St) (b2 : Unit) : Int32 := if (uW 0 2) < 70 then 0 else (if (f_X4_allSeen uV 3) = true then 0 else 7)
def f_X5_causeOfDoors (uW : St) (uV : St) : Int32 := if (uW 0 1) < 70 then (f_X5_causeOfDoors_l23 uW uV ()) else (if (f_X4_allSeen uV 6) = true then (f_X5_causeOfDoors_l23 uW uV ()) else 6)
theorem hd_X5_causeOfDoors : yX5_causeOfDoors.cls ≠ "java/lang/invoke/MethodHandle" ∧ yX5_causeOfDoors.cls ≠ "java/lang/invoke/VarHandle" ∧ (parseMethodDescriptor yX5_causeOfDoors.desc).map (fun d => d.parameters.length) = some 1 := by decide +kernel
set_option maxHeartbeats 4000000 in
set_option maxRecDepth 100000 in
theorem c_X5_causeOfDoors (l : Launch) (D : va_G) (cI cZ cO : ClassId) (hW aW0 hV aV0 aV1 : Nat) (uW : St) (uV : St)  : CTi l D (T3 cI cZ cO) yX5_causeOfDoors (Cond.code yX5_causeOfDoors cX5_causeOfDoors 2 (some .int) :: WA) ({ frames := 1, cells := 0, slots := 0, locals := 21 } : Room) [.ref hW, .ref hV] (wX5 cI cZ cO hW aW0 uW ++ wX4 cI cZ cO hV aV0 aV1 uV) ((f_X5_causeOfDoors uW uV)) (wX5 cI cZ cO hW aW0 uW ++ wX4 cI cZ cO hV aV0 aV1 uV) := by
  refine ct_i (K := fun z => z) (t := f_X5_causeOfDoors uW uV) (rf := fun o => o) (wf := fun o => wX5 cI cZ cO hW aW0 uW ++ wX4 cI cZ cO hV aV0 aV1 uV) (own := RX5) (nm := "causeOfDoors") (L0 := [(0, .ref hW), (1, .ref hV)]) (plainFor_of_name (by decide +kernel)) rfl rfl (Nat.le_of_ble_eq_true rfl) rfl ?_
  intro p e s m args below meth c A C
  unfold f_X5_causeOfDoors
  refine x_aload_n C dX5_causeOfDoors_0 0 rfl ?_
  refine x_get (v := .ref aW0) C hwsX50 0 mw_10 0 rfl rfl (by decide) rfl rfl dX5_causeOfDoors_1 ?_
  refine x_iconst C 1 dX5_causeOfDoors_4 (by decide) ?_
  refine x_iald C 1 0 rfl rfl 1 rfl (by omega) (by decide) (uW 0 1) rfl dX5_causeOfDoors_5 ?_
  refine x_bipush C 70 dX5_causeOfDoors_6 (by decide) ?_
  refine x_lab (fun (b2 : Unit) => f_X5_causeOfDoors_l23 uW uV b2) 23 (fun (b2 : Unit) => [(0, .ref hW), (1, .ref hV)]) (fun (b2 : Unit) => []) (fun (b2 : Unit) => wX5 cI cZ cO hW aW0 uW ++ wX4 cI cZ cO hV aV0 aV1 uV) (fun b2 => ?_) (fun J5 => ?_)
  · unfold f_X5_causeOfDoors_l23
    refine x_aload_n C dX5_causeOfDoors_23 0 rfl ?_
    refine x_get (v := .ref aW0) C hwsX50 0 mw_10 0 rfl rfl (by decide) rfl rfl dX5_causeOfDoors_24 ?_
    refine x_iconst C 2 dX5_causeOfDoors_27 (by decide) ?_
    refine x_iald C 1 0 rfl rfl 2 rfl (by omega) (by decide) (uW 0 2) rfl dX5_causeOfDoors_28 ?_
    refine x_bipush C 70 dX5_causeOfDoors_29 (by decide) ?_
    refine x_icmp_lt C 47 dX5_causeOfDoors_31 (by decide) (fun c3 => ?_) (fun c3 => ?_)
    · refine x_iconst C 0 dX5_causeOfDoors_47 (by decide) ?_
      exact x_iret C rfl dX5_causeOfDoors_48 rfl rfl
    · refine x_aload_n C dX5_causeOfDoors_34 1 rfl ?_
      refine x_iconst C 3 dX5_causeOfDoors_35 (by decide) ?_
      refine x_cVi (q0 := 2) (As := [.int 3]) (ws' := wX5 cI cZ cO hW aW0 uW ++ wX4 cI cZ cO hV aV0 aV1 uV) C mw_113 mw_56 mw_57 mw_17 mw_50 hd_X4_allSeen rfl rfl ⟨Nat.le_of_ble_eq_true rfl, Nat.le_of_ble_eq_true rfl⟩ rfl rfl rfl (c_X4_allSeen l D cI cZ cO hV aV0 aV1 uV 3 (by omega)) [2, 3, 4] [.inl 0, .inl 1, .inr 0, .inr 1, .inr 2] ⟨rfl, rfl, rfl, trivial⟩ rfl ⟨rfl, rfl, rfl, rfl, rfl, trivial⟩ rfl ⟨rfl, rfl, rfl, rfl, rfl, trivial⟩ rfl rfl (Nat.le_of_ble_eq_true rfl) (Nat.le_of_ble_eq_true rfl) (Nat.le_of_ble_eq_true rfl) dX5_causeOfDoors_36 ?_
      refine x_if_neZ C 47 dX5_causeOfDoors_39 (by decide) (fun c4 => ?_) (fun c4 => ?_)
      · refine x_iconst C 0 dX5_causeOfDoors_47 (by decide) ?_
        exact x_iret C rfl dX5_causeOfDoors_48 rfl rfl
      · refine x_bipush C 7 dX5_causeOfDoors_42 (by decide) ?_
        refine x_goto C 48 dX5_causeOfDoors_44 (by decide) ?_
        exact x_iret C rfl dX5_causeOfDoors_48 rfl rfl
  refine x_icmp_lt C 23 dX5_causeOfDoors_8 (by decide) (fun c1 => ?_) (fun c1 => ?_)
  · exact J5 ()
  · refine x_aload_n C dX5_causeOfDoors_11 1 rfl ?_
    refine x_bipush C 6 dX5_causeOfDoors_12 (by decide) ?_
    refine x_cVi (q0 := 2) (As := [.int 6]) (ws' := wX5 cI cZ cO hW aW0 uW ++ wX4 cI cZ cO hV aV0 aV1 uV) C mw_113 mw_56 mw_57 mw_17 mw_50 hd_X4_allSeen rfl rfl ⟨Nat.le_of_ble_eq_true rfl, Nat.le_of_ble_eq_true rfl⟩ rfl rfl rfl (c_X4_allSeen l D cI cZ cO hV aV0 aV1 uV 6 (by omega)) [2, 3, 4] [.inl 0, .inl 1, .inr 0, .inr 1, .inr 2] ⟨rfl, rfl, rfl, trivial⟩ rfl ⟨rfl, rfl, rfl, rfl, rfl, trivial⟩ rfl ⟨rfl, rfl, rfl, rfl, rfl, trivial⟩ rfl rfl (Nat.le_of_ble_eq_true rfl) (Nat.le_of_ble_eq_true rfl) (Nat.le_of_ble_eq_true rfl) dX5_causeOfDoors_14 ?_
    refine x_if_neZ C 23 dX5_causeOfDoors_17 (by decide) (fun c6 => ?_) (fun c6 => ?_)
    · exact J5 ()
    · refine x_bipush C 6 dX5_causeOfDoors_20 (by decide) ?_
      exact x_iret C rfl dX5_causeOfDoors_22 rfl rfl

def f_X5_causeOfGears_k88 (b6 : Bool) : Int32 := if b6 = true then 9 else 0
def f_X5_causeOfGears_l63 (uW : St) (uV : St) (b9 : Unit) : Bool := if (uW 0 4) < 100 then false else (if (f_X4_allSeen uV 12) = true then false else true)
def f_X5_causeOfGears_l43 (uW : St) (uV : St) (b4 : Unit) : Int32 := f_X5_causeOfGears_k88 (if (uW 0 3) < 100 then (f_X5_causeOfGears_l63 uW uV ()) else (if (f_X4_allSeen uV 9) = true then (f_X5_causeOfGears_l63 uW uV ()) else true))
def f_X5_causeOfGears_l20 (uW : St) (uV : St) (b2 : Unit) : Int32 := if (uW 0 4) < 70 then (f_X5_causeOfGears_l43 uW uV ()) else (if (f_X4_someSeen uV 9) = true then 8 else (f_X5_causeOfGears_l43 uW uV ()))
def f_X5_causeOfGears (uW : St) (uV : St) : Int32 := if (uW 0 3) < 70 then (f_X5_causeOfGears_l20 uW uV ()) else (if (f_X4_someSeen uV 12) = true then 8 else (f_X5_causeOfGears_l20 uW uV ()))
theorem hd_X5_causeOfGears : yX5_causeOfGears.cls ≠ "java/lang/invoke/MethodHandle" ∧ yX5_causeOfGears.cls ≠ "java/lang/invoke/VarHandle" ∧ (parseMethodDescriptor yX5_causeOfGears.desc).map (fun d => d.parameters.length) = some 1 := by decide +kernel
set_option maxHeartbeats 4000000 in
set_option maxRecDepth 100000 in
theorem c_X5_causeOfGears (l : Launch) (D : va_G) (cI cZ cO : ClassId) (hW aW0 hV aV0 aV1 : Nat) (uW : St) (uV : St)  : CTi l D (T3 cI cZ cO) yX5_causeOfGears (Cond.code yX5_causeOfGears cX5_causeOfGears 3 (some .int) :: WA) ({ frames := 1, cells := 0, slots := 0, locals := 21 } : Room) [.ref hW, .ref hV] (wX5 cI cZ cO hW aW0 uW ++ wX4 cI cZ cO hV aV0 aV1 uV) ((f_X5_causeOfGears uW uV)) (wX5 cI cZ cO hW aW0 uW ++ wX4 cI cZ cO hV aV0 aV1 uV) := by
  refine ct_i (K := fun z => z) (t := f_X5_causeOfGears uW uV) (rf := fun o => o) (wf := fun o => wX5 cI cZ cO hW aW0 uW ++ wX4 cI cZ cO hV aV0 aV1 uV) (own := RX5) (nm := "causeOfGears") (L0 := [(0, .ref hW), (1, .ref hV)]) (plainFor_of_name (by decide +kernel)) rfl rfl (Nat.le_of_ble_eq_true rfl) rfl ?_
  intro p e s m args below meth c A C
  unfold f_X5_causeOfGears
  refine x_aload_n C dX5_causeOfGears_0 0 rfl ?_
  refine x_get (v := .ref aW0) C hwsX50 0 mw_10 0 rfl rfl (by decide) rfl rfl dX5_causeOfGears_1 ?_
  refine x_iconst C 3 dX5_causeOfGears_4 (by decide) ?_
  refine x_iald C 1 0 rfl rfl 3 rfl (by omega) (by decide) (uW 0 3) rfl dX5_causeOfGears_5 ?_
  refine x_bipush C 70 dX5_causeOfGears_6 (by decide) ?_
  refine x_lab (fun (b2 : Unit) => f_X5_causeOfGears_l20 uW uV b2) 20 (fun (b2 : Unit) => [(0, .ref hW), (1, .ref hV)]) (fun (b2 : Unit) => []) (fun (b2 : Unit) => wX5 cI cZ cO hW aW0 uW ++ wX4 cI cZ cO hV aV0 aV1 uV) (fun b2 => ?_) (fun J16 => ?_)
  · unfold f_X5_causeOfGears_l20
    refine x_aload_n C dX5_causeOfGears_20 0 rfl ?_
    refine x_get (v := .ref aW0) C hwsX50 0 mw_10 0 rfl rfl (by decide) rfl rfl dX5_causeOfGears_21 ?_
    refine x_iconst C 4 dX5_causeOfGears_24 (by decide) ?_
    refine x_iald C 1 0 rfl rfl 4 rfl (by omega) (by decide) (uW 0 4) rfl dX5_causeOfGears_25 ?_
    refine x_bipush C 70 dX5_causeOfGears_26 (by decide) ?_
    refine x_lab (fun (b4 : Unit) => f_X5_causeOfGears_l43 uW uV b4) 43 (fun (b4 : Unit) => [(0, .ref hW), (1, .ref hV)]) (fun (b4 : Unit) => []) (fun (b4 : Unit) => wX5 cI cZ cO hW aW0 uW ++ wX4 cI cZ cO hV aV0 aV1 uV) (fun b4 => ?_) (fun J14 => ?_)
    · unfold f_X5_causeOfGears_l43
      refine x_aload_n C dX5_causeOfGears_43 0 rfl ?_
      refine x_get (v := .ref aW0) C hwsX50 0 mw_10 0 rfl rfl (by decide) rfl rfl dX5_causeOfGears_44 ?_
      refine x_iconst C 3 dX5_causeOfGears_47 (by decide) ?_
      refine x_iald C 1 0 rfl rfl 3 rfl (by omega) (by decide) (uW 0 3) rfl dX5_causeOfGears_48 ?_
      refine x_bipush C 100 dX5_causeOfGears_49 (by decide) ?_
      refine x_join (fun (b6 : Bool) => f_X5_causeOfGears_k88 b6) 88 (fun (b6 : Bool) => [(0, .ref hW), (1, .ref hV)]) (fun (b6 : Bool) => [.int (b2i b6)]) (fun (b6 : Bool) => wX5 cI cZ cO hW aW0 uW ++ wX4 cI cZ cO hV aV0 aV1 uV) (fun b6 => ?_) _ (fun J8 => ?_)
      · unfold f_X5_causeOfGears_k88
        refine x_istore_n (L' := [(2, .int (b2i b6)), (0, .ref hW), (1, .ref hV)]) C dX5_causeOfGears_88 (by decide) rfl ?_
        refine x_iload_n C dX5_causeOfGears_89 0 rfl ?_
        refine x_if_eqZ C 98 dX5_causeOfGears_90 (by decide) (fun c7 => ?_) (fun c7 => ?_)
        · refine x_bipush C 9 dX5_causeOfGears_93 (by decide) ?_
          refine x_goto C 99 dX5_causeOfGears_95 (by decide) ?_
          exact x_iret C rfl dX5_causeOfGears_99 rfl rfl
        · refine x_iconst C 0 dX5_causeOfGears_98 (by decide) ?_
          exact x_iret C rfl dX5_causeOfGears_99 rfl rfl
      · refine x_lab (fun (b9 : Unit) => f_X5_causeOfGears_l63 uW uV b9) 63 (fun (b9 : Unit) => [(0, .ref hW), (1, .ref hV)]) (fun (b9 : Unit) => []) (fun (b9 : Unit) => wX5 cI cZ cO hW aW0 uW ++ wX4 cI cZ cO hV aV0 aV1 uV) (fun b9 => ?_) (fun J12 => ?_)
        · unfold f_X5_causeOfGears_l63
          refine x_aload_n C dX5_causeOfGears_63 0 rfl ?_
          refine x_get (v := .ref aW0) C hwsX50 0 mw_10 0 rfl rfl (by decide) rfl rfl dX5_causeOfGears_64 ?_
          refine x_iconst C 4 dX5_causeOfGears_67 (by decide) ?_
          refine x_iald C 1 0 rfl rfl 4 rfl (by omega) (by decide) (uW 0 4) rfl dX5_causeOfGears_68 ?_
          refine x_bipush C 100 dX5_causeOfGears_69 (by decide) ?_
          refine x_icmp_lt C 87 dX5_causeOfGears_71 (by decide) (fun c10 => ?_) (fun c10 => ?_)
          · refine x_iconst C 0 dX5_causeOfGears_87 (by decide) ?_
            exact J8 false
          · refine x_aload_n C dX5_causeOfGears_74 1 rfl ?_
            refine x_bipush C 12 dX5_causeOfGears_75 (by decide) ?_
            refine x_cVi (q0 := 2) (As := [.int 12]) (ws' := wX5 cI cZ cO hW aW0 uW ++ wX4 cI cZ cO hV aV0 aV1 uV) C mw_113 mw_56 mw_57 mw_17 mw_50 hd_X4_allSeen rfl rfl ⟨Nat.le_of_ble_eq_true rfl, Nat.le_of_ble_eq_true rfl⟩ rfl rfl rfl (c_X4_allSeen l D cI cZ cO hV aV0 aV1 uV 12 (by omega)) [2, 3, 4] [.inl 0, .inl 1, .inr 0, .inr 1, .inr 2] ⟨rfl, rfl, rfl, trivial⟩ rfl ⟨rfl, rfl, rfl, rfl, rfl, trivial⟩ rfl ⟨rfl, rfl, rfl, rfl, rfl, trivial⟩ rfl rfl (Nat.le_of_ble_eq_true rfl) (Nat.le_of_ble_eq_true rfl) (Nat.le_of_ble_eq_true rfl) dX5_causeOfGears_77 ?_
            refine x_if_neZ C 87 dX5_causeOfGears_80 (by decide) (fun c11 => ?_) (fun c11 => ?_)
            · refine x_iconst C 0 dX5_causeOfGears_87 (by decide) ?_
              exact J8 false
            · refine x_iconst C 1 dX5_causeOfGears_83 (by decide) ?_
              refine x_goto C 88 dX5_causeOfGears_84 (by decide) ?_
              exact J8 true
        refine x_icmp_lt C 63 dX5_causeOfGears_51 (by decide) (fun c5 => ?_) (fun c5 => ?_)
        · exact J12 ()
        · refine x_aload_n C dX5_causeOfGears_54 1 rfl ?_
          refine x_bipush C 9 dX5_causeOfGears_55 (by decide) ?_
          refine x_cVi (q0 := 2) (As := [.int 9]) (ws' := wX5 cI cZ cO hW aW0 uW ++ wX4 cI cZ cO hV aV0 aV1 uV) C mw_113 mw_56 mw_57 mw_17 mw_50 hd_X4_allSeen rfl rfl ⟨Nat.le_of_ble_eq_true rfl, Nat.le_of_ble_eq_true rfl⟩ rfl rfl rfl (c_X4_allSeen l D cI cZ cO hV aV0 aV1 uV 9 (by omega)) [2, 3, 4] [.inl 0, .inl 1, .inr 0, .inr 1, .inr 2] ⟨rfl, rfl, rfl, trivial⟩ rfl ⟨rfl, rfl, rfl, rfl, rfl, trivial⟩ rfl ⟨rfl, rfl, rfl, rfl, rfl, trivial⟩ rfl rfl (Nat.le_of_ble_eq_true rfl) (Nat.le_of_ble_eq_true rfl) (Nat.le_of_ble_eq_true rfl) dX5_causeOfGears_57 ?_
          refine x_if_eqZ C 83 dX5_causeOfGears_60 (by decide) (fun c13 => ?_) (fun c13 => ?_)
          · exact J12 ()
          · refine x_iconst C 1 dX5_causeOfGears_83 (by decide) ?_
            refine x_goto C 88 dX5_causeOfGears_84 (by decide) ?_
            exact J8 true
    refine x_icmp_lt C 43 dX5_causeOfGears_28 (by decide) (fun c3 => ?_) (fun c3 => ?_)
    · exact J14 ()
    · refine x_aload_n C dX5_causeOfGears_31 1 rfl ?_
      refine x_bipush C 9 dX5_causeOfGears_32 (by decide) ?_
      refine x_cVi (q0 := 2) (As := [.int 9]) (ws' := wX5 cI cZ cO hW aW0 uW ++ wX4 cI cZ cO hV aV0 aV1 uV) C mw_115 mw_91 mw_92 mw_17 mw_85 hd_X4_someSeen rfl rfl ⟨Nat.le_of_ble_eq_true rfl, Nat.le_of_ble_eq_true rfl⟩ rfl rfl rfl (c_X4_someSeen l D cI cZ cO hV aV0 aV1 uV 9 (by omega)) [2, 3, 4] [.inl 0, .inl 1, .inr 0, .inr 1, .inr 2] ⟨rfl, rfl, rfl, trivial⟩ rfl ⟨rfl, rfl, rfl, rfl, rfl, trivial⟩ rfl ⟨rfl, rfl, rfl, rfl, rfl, trivial⟩ rfl rfl (Nat.le_of_ble_eq_true rfl) (Nat.le_of_ble_eq_true rfl) (Nat.le_of_ble_eq_true rfl) dX5_causeOfGears_34 ?_
      refine x_if_eqZ C 43 dX5_causeOfGears_37 (by decide) (fun c15 => ?_) (fun c15 => ?_)
      · refine x_bipush C 8 dX5_causeOfGears_40 (by decide) ?_
        exact x_iret C rfl dX5_causeOfGears_42 rfl rfl
      · exact J14 ()
  refine x_icmp_lt C 20 dX5_causeOfGears_8 (by decide) (fun c1 => ?_) (fun c1 => ?_)
  · exact J16 ()
  · refine x_aload_n C dX5_causeOfGears_11 1 rfl ?_
    refine x_bipush C 12 dX5_causeOfGears_12 (by decide) ?_
    refine x_cVi (q0 := 2) (As := [.int 12]) (ws' := wX5 cI cZ cO hW aW0 uW ++ wX4 cI cZ cO hV aV0 aV1 uV) C mw_115 mw_91 mw_92 mw_17 mw_85 hd_X4_someSeen rfl rfl ⟨Nat.le_of_ble_eq_true rfl, Nat.le_of_ble_eq_true rfl⟩ rfl rfl rfl (c_X4_someSeen l D cI cZ cO hV aV0 aV1 uV 12 (by omega)) [2, 3, 4] [.inl 0, .inl 1, .inr 0, .inr 1, .inr 2] ⟨rfl, rfl, rfl, trivial⟩ rfl ⟨rfl, rfl, rfl, rfl, rfl, trivial⟩ rfl ⟨rfl, rfl, rfl, rfl, rfl, trivial⟩ rfl rfl (Nat.le_of_ble_eq_true rfl) (Nat.le_of_ble_eq_true rfl) (Nat.le_of_ble_eq_true rfl) dX5_causeOfGears_14 ?_
    refine x_if_neZ C 40 dX5_causeOfGears_17 (by decide) (fun c17 => ?_) (fun c17 => ?_)
    · refine x_bipush C 8 dX5_causeOfGears_40 (by decide) ?_
      exact x_iret C rfl dX5_causeOfGears_42 rfl rfl
    · exact J16 ()

def f_X5_firstCause_k25 (uW : St) (uV : St) (b3 : Int32) : Int32 := if b3 = 0 then (f_X5_causeOfGears uW uV) else b3
def f_X5_firstCause (uW : St) (uV : St) : Int32 := if (f_X4_someInvalid uV) = true then 1 else (f_X5_firstCause_k25 uW uV (if (f_X5_causeOfPower uW uV) = 0 then (f_X5_causeOfDoors uW uV) else (f_X5_causeOfPower uW uV)))
theorem hd_X5_firstCause : yX5_firstCause.cls ≠ "java/lang/invoke/MethodHandle" ∧ yX5_firstCause.cls ≠ "java/lang/invoke/VarHandle" ∧ (parseMethodDescriptor yX5_firstCause.desc).map (fun d => d.parameters.length) = some 1 := by decide +kernel
set_option maxHeartbeats 4000000 in
set_option maxRecDepth 100000 in
theorem c_X5_firstCause (l : Launch) (D : va_G) (cI cZ cO : ClassId) (hW aW0 hV aV0 aV1 : Nat) (uW : St) (uV : St)  : CTi l D (T3 cI cZ cO) yX5_firstCause (Cond.code yX5_firstCause cX5_firstCause 3 (some .int) :: WA) ({ frames := 2, cells := 0, slots := 0, locals := 44 } : Room) [.ref hW, .ref hV] (wX5 cI cZ cO hW aW0 uW ++ wX4 cI cZ cO hV aV0 aV1 uV) ((f_X5_firstCause uW uV)) (wX5 cI cZ cO hW aW0 uW ++ wX4 cI cZ cO hV aV0 aV1 uV) := by
  refine ct_i (K := fun z => z) (t := f_X5_firstCause uW uV) (rf := fun o => o) (wf := fun o => wX5 cI cZ cO hW aW0 uW ++ wX4 cI cZ cO hV aV0 aV1 uV) (own := RX5) (nm := "firstCause") (L0 := [(0, .ref hW), (1, .ref hV)]) (plainFor_of_name (by decide +kernel)) rfl rfl (Nat.le_of_ble_eq_true rfl) rfl ?_
  intro p e s m args below meth c A C
  unfold f_X5_firstCause
  refine x_aload_n C dX5_firstCause_0 1 rfl ?_
  refine x_cVi (q0 := 2) (As := []) (ws' := wX5 cI cZ cO hW aW0 uW ++ wX4 cI cZ cO hV aV0 aV1 uV) C mw_116 mw_117 mw_118 mw_17 mw_109 hd_X4_someInvalid rfl rfl ⟨Nat.le_of_ble_eq_true rfl, Nat.le_of_ble_eq_true rfl⟩ rfl rfl rfl (c_X4_someInvalid l D cI cZ cO hV aV0 aV1 uV ) [2, 3, 4] [.inl 0, .inl 1, .inr 0, .inr 1, .inr 2] ⟨rfl, rfl, rfl, trivial⟩ rfl ⟨rfl, rfl, rfl, rfl, rfl, trivial⟩ rfl ⟨rfl, rfl, rfl, rfl, rfl, trivial⟩ rfl rfl (Nat.le_of_ble_eq_true rfl) (Nat.le_of_ble_eq_true rfl) (Nat.le_of_ble_eq_true rfl) dX5_firstCause_1 ?_
  refine x_if_eqZ C 9 dX5_firstCause_4 (by decide) (fun c1 => ?_) (fun c1 => ?_)
  · refine x_iconst C 1 dX5_firstCause_7 (by decide) ?_
    exact x_iret C rfl dX5_firstCause_8 rfl rfl
  · refine x_aload_n C dX5_firstCause_9 0 rfl ?_
    refine x_aload_n C dX5_firstCause_10 1 rfl ?_
    refine x_cViW (q0 := 0) (As := [.ref hV]) C mw_119 mw_120 mw_121 mw_21 mw_110 hd_X5_causeOfPower rfl rfl ⟨Nat.le_of_ble_eq_true rfl, Nat.le_of_ble_eq_true rfl⟩ rfl rfl rfl (c_X5_causeOfPower l D cI cZ cO hW aW0 hV aV0 aV1 uW uV ) rfl rfl (Nat.le_of_ble_eq_true rfl) (Nat.le_of_ble_eq_true rfl) (Nat.le_of_ble_eq_true rfl) dX5_firstCause_11 ?_
    refine x_istore_n (L' := [(2, .int (f_X5_causeOfPower uW uV)), (0, .ref hW), (1, .ref hV)]) C dX5_firstCause_14 (by decide) rfl ?_
    refine x_iload_n C dX5_firstCause_15 0 rfl ?_
    refine x_join (fun (b3 : Int32) => f_X5_firstCause_k25 uW uV b3) 25 (fun (b3 : Int32) => [(0, .ref hW), (1, .ref hV), (2, .int b3)]) (fun (b3 : Int32) => []) (fun (b3 : Int32) => wX5 cI cZ cO hW aW0 uW ++ wX4 cI cZ cO hV aV0 aV1 uV) (fun b3 => ?_) _ (fun J5 => ?_)
    · unfold f_X5_firstCause_k25
      refine x_iload_n C dX5_firstCause_25 2 rfl ?_
      refine x_if_ne C 37 dX5_firstCause_26 (by decide) (fun c4 => ?_) (fun c4 => ?_)
      · refine x_aload_n C dX5_firstCause_29 0 rfl ?_
        refine x_aload_n C dX5_firstCause_30 1 rfl ?_
        refine x_cViW (q0 := 0) (As := [.ref hV]) C mw_125 mw_126 mw_127 mw_21 mw_114 hd_X5_causeOfGears rfl rfl ⟨Nat.le_of_ble_eq_true rfl, Nat.le_of_ble_eq_true rfl⟩ rfl rfl rfl (c_X5_causeOfGears l D cI cZ cO hW aW0 hV aV0 aV1 uW uV ) rfl rfl (Nat.le_of_ble_eq_true rfl) (Nat.le_of_ble_eq_true rfl) (Nat.le_of_ble_eq_true rfl) dX5_firstCause_31 ?_
        refine x_goto C 38 dX5_firstCause_34 (by decide) ?_
        exact x_iret C rfl dX5_firstCause_38 rfl rfl
      · refine x_iload_n C dX5_firstCause_37 2 rfl ?_
        exact x_iret C rfl dX5_firstCause_38 rfl rfl
    · refine x_if_ne C 25 dX5_firstCause_16 (by decide) (fun c2 => ?_) (fun c2 => ?_)
      · refine x_aload_n C dX5_firstCause_19 1 rfl ?_
        refine x_aload_n C dX5_firstCause_20 2 rfl ?_
        refine x_cViW (q0 := 0) (As := [.ref hV]) C mw_122 mw_123 mw_124 mw_21 mw_112 hd_X5_causeOfDoors rfl rfl ⟨Nat.le_of_ble_eq_true rfl, Nat.le_of_ble_eq_true rfl⟩ rfl rfl rfl (c_X5_causeOfDoors l D cI cZ cO hW aW0 hV aV0 aV1 uW uV ) rfl rfl (Nat.le_of_ble_eq_true rfl) (Nat.le_of_ble_eq_true rfl) (Nat.le_of_ble_eq_true rfl) dX5_firstCause_21 ?_
        refine x_istore_n (L' := [(2, .int (f_X5_causeOfDoors uW uV)), (0, .ref hW), (1, .ref hV)]) C dX5_firstCause_24 (by decide) rfl ?_
        refine x_lsub (L' := [(0, .ref hW), (1, .ref hV), (2, .int (f_X5_causeOfDoors uW uV))]) [1, 2, 0] rfl ?_
        exact J5 (f_X5_causeOfDoors uW uV)
      · refine x_lsub (L' := [(0, .ref hW), (1, .ref hV), (2, .int (f_X5_causeOfPower uW uV))]) [1, 2, 0] rfl ?_
        exact J5 (f_X5_causeOfPower uW uV)
