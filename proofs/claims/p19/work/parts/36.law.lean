/-! THE CLAIM OUT OF ONE WALK OF THE LAW'S BODY. Your part is whole_start (and what it stands on); all else here is the same for every law, but numbers. -/
def R_law : String := "LandingGearsLaw"
def lw_P (b : Addr) (xs : List Int32) (args : Array Value) (s : State) : Prop := args = #[.ref b] ∧ s.IntsAt b xs ∧ xs.length ≤ 260 ∧ (Jvm.Cond.and given_1 narrow_1).before args s = true
def lw_Q (_ : Array Value) (s : State) (o : Outcome) (t : State) : Prop := o = .returned (some (.int 1)) ∧ Framed s o t [] 600000 7302250
def lw_Z (below : List Frame) (a : Array Value) (s : State) : State → Prop := fun t => ∃ o, t.status = .running ∧ Ended t below o ∧ lw_Q a s o t
/-- the law's own end, with 1 on the stack, nothing written that was there before, its room as the claim has it -/
theorem lw_ret {p : Program} {l : Launch} {e : Env} {s : State} {m : MethodId} {below : List Frame} {meth : Method} {c : Code} {b : Nat} (hx : p.tables.exec = Jvm.exec) (hb : c.code = code) (hr : meth.sig.returnType = ret) (hlocks : meth.locks = false) {pc : Nat} {H : Heap} {ls : Array Slot} (hdg : decode code pc = .ok (.ireturn, 1)) : W p l e room_1 s m #[Value.ref b] below meth c H [] 600000 7302250 (lw_Z below #[Value.ref b] s) (F0 m pc ls [.int 1]) := by
  intro T hT X
  obtain ⟨fs, hret, hrun, hended, hW, hframe⟩ := X.leave (v := some (.int 1)) (hlocks := hlocks) (fun h => by rw [hr] at h; cases h)
  have hmeth' : T.vm.method? m = some meth := X.method'
  refine ⟨T.setFrames fs, ?_, .returned (some (.int 1)), hrun, hended, rfl, ⟨_, rfl⟩, hW, hframe⟩
  jvm_step X.here [X.here.top, hx, hb, hdg, hmeth', hr, ret, narrow_b1]
  (try refine ⟨rfl, ?_⟩); (try refine ⟨rfl, ?_⟩)
  first | (intro acts; rw [hret _ acts rfl rfl rfl]) | rw [hret _ _ rfl rfl rfl]
  exact Steps.refl _
/-- what holds at the law's entry: the machine, the code, the tables' words (any of lw_tbl by 'hts w (by decide +kernel)'), the script of L ints xs at the cell b, what the Statement gives of the start (any of its parts by flat_of_before) -/
def lw_At (p : Program) (s : State) (m : MethodId) (meth : Method) (c : Code) (b L : Nat) (xs : Nat → Int32) : Prop :=
  p.tables.exec = Jvm.exec ∧ c.code = code ∧ meth.sig.returnType = ret ∧ c.maxLocals = 4 ∧ s.vm.findClass R_law = some m.cls ∧ (∀ w ∈ lw_tbl, w.before #[Value.ref b] s = true) ∧ va_X b L xs s s.heap ∧ b < s.heap.size ∧ meth.locks = false ∧ (Jvm.Cond.and given_1 narrow_1).before #[Value.ref b] s = true
/-- the array classes that the tables name -/
theorem lw_arr {s : State} {args : Array Value} {ty : FieldType} (h : (Cond.arrayClass ty).before args s = true) (hr : ∀ cA : ClassId, s.vm.findClass ("[" ++ ty.toString) = some cA → va_RA s cA ty) : ∃ cA : ClassId, ArrOfT s cA ty ∧ va_RA s cA ty := by
  obtain ⟨cA, kA, comp, h1, h2, h3⟩ := Cond.arrayClass_spec h
  exact ⟨cA, fun n z => ⟨fun k h => (by cases h), kA, h2, comp, h3⟩, hr cA h1⟩
theorem lw_arrO {s : State} {args : Array Value} {C : String} (h : (Cond.arrayOver (.object C)).before args s = true) : ∃ cA : ClassId, ArrOfT s cA (.object C) ∧ va_RA s cA (.object C) := by
  obtain ⟨comp, cA, kA, h1, h2, h3, h4, h5⟩ := Cond.arrayOver_spec h
  exact ⟨cA, fun n z => ⟨fun k h => (by cases h), kA, h3, comp, h4⟩, kA, comp, h3, h4, h1, h5⟩
theorem lw_stg {s : State} {args : Array Value} {A : Nat → Prop} (hls : (Cond.laysStatic "LandingGears" "STAGE_ORDERS" "[I").before args s = true) (hini : (Cond.initialized RX6).before args s = true) (hgv : (Jvm.Cond.and given_1 narrow_1).before args s = true) (hA : ∀ a : Nat, a < s.heap.size → ¬ A a) : ZT A s s.heap := by
  have hs := flat_of_before _ hgv
  obtain ⟨t, h1, h2⟩ := va_Tof (tm := Jvm.Term.static "LandingGears" "STAGE_ORDERS" "[I") (ty := .int) (N := 8) (f := fun j => .int (stg j)) (A := A) (by decide) (hs _ (by decide +kernel)) (va_eqt (hs _ (by decide +kernel))) (fun j hj => by
    have e : j = 0 ∨ j = 1 ∨ j = 2 ∨ j = 3 ∨ j = 4 ∨ j = 5 ∨ j = 6 ∨ j = 7 := by omega
    rcases e with e | e | e | e | e | e | e | e <;> subst e
    · exact va_eqt (t := Jvm.Term.elem (Jvm.Term.static "LandingGears" "STAGE_ORDERS" "[I") (Jvm.Term.int (0 : Int32))) (z := 0) (hs _ (by decide +kernel))
    · exact va_eqt (t := Jvm.Term.elem (Jvm.Term.static "LandingGears" "STAGE_ORDERS" "[I") (Jvm.Term.int (1 : Int32))) (z := 1) (hs _ (by decide +kernel))
    · exact va_eqt (t := Jvm.Term.elem (Jvm.Term.static "LandingGears" "STAGE_ORDERS" "[I") (Jvm.Term.int (2 : Int32))) (z := 3) (hs _ (by decide +kernel))
    · exact va_eqt (t := Jvm.Term.elem (Jvm.Term.static "LandingGears" "STAGE_ORDERS" "[I") (Jvm.Term.int (3 : Int32))) (z := 3) (hs _ (by decide +kernel))
    · exact va_eqt (t := Jvm.Term.elem (Jvm.Term.static "LandingGears" "STAGE_ORDERS" "[I") (Jvm.Term.int (4 : Int32))) (z := 3) (hs _ (by decide +kernel))
    · exact va_eqt (t := Jvm.Term.elem (Jvm.Term.static "LandingGears" "STAGE_ORDERS" "[I") (Jvm.Term.int (5 : Int32))) (z := 1) (hs _ (by decide +kernel))
    · exact va_eqt (t := Jvm.Term.elem (Jvm.Term.static "LandingGears" "STAGE_ORDERS" "[I") (Jvm.Term.int (6 : Int32))) (z := 5) (hs _ (by decide +kernel))
    · exact va_eqt (t := Jvm.Term.elem (Jvm.Term.static "LandingGears" "STAGE_ORDERS" "[I") (Jvm.Term.int (7 : Int32))) (z := 1) (hs _ (by decide +kernel))) hA
  exact ⟨t, va_Zof hls hini h1 hA, h2⟩
set_option maxHeartbeats 4000000 in
set_option maxRecDepth 100000 in
theorem whole_start {p : Program} {e : Env} {s : State} {m : MethodId} {below : List Frame} {meth : Method} {c : Code} (l : Launch) (hflags : l.flags = flags0) {b L : Nat} {xs : Nat → Int32} (hL : L ≤ 260) (C0 : lw_At p s m meth c b L xs) : W p l e room_1 s m #[Value.ref b] below meth c s.heap [] 0 0 (lw_Z below #[Value.ref b] s) (entryFrame m ([Value.ref b] : List Value).toArray 4) := by
  obtain ⟨hx, hbd, hr, hml, hown, hts0, hX, hb, hlocks, hgv⟩ := C0
  have hA : ∀ q : Nat, s.heap.size ≤ q → (fun q : Nat => s.heap.size ≤ q) q := fun _ h => h
  have hbA : ¬ (fun q : Nat => s.heap.size ≤ q) b := Nat.not_le.mpr hb
  have hts : ∀ w ∈ WA, w.before #[Value.ref b] s = true := fun w hw => hts0 w (WA_in w hw)
  obtain ⟨c0, i0, hKn0⟩ := u_known (C := RX0) (T := TX0) (N := 9) (n := 9) hts hwsX00 (hts (.instantiable RX0 9) mw_225)
  obtain ⟨c1, i1, hKn1⟩ := u_known (C := RX1) (T := TX1) (N := 2) (n := 2) hts hwsX10 (hts (.instantiable RX1 2) mw_227)
  obtain ⟨c2, i2, hKn2⟩ := u_known (C := RX2) (T := TX2) (N := 11) (n := 11) hts hwsX20 (hts (.instantiable RX2 11) mw_218)
  obtain ⟨c3, i3, hKn3⟩ := u_known (C := RX3) (T := TX3) (N := 2) (n := 2) hts hwsX30 (hts (.instantiable RX3 2) mw_221)
  obtain ⟨c4, i4, hKn4⟩ := u_known (C := RX4) (T := TX4) (N := 2) (n := 2) hts hwsX40 (hts (.instantiable RX4 2) mw_16)
  obtain ⟨c5, i5, hKn5⟩ := u_known (C := RX5) (T := TX5) (N := 3) (n := 3) hts hwsX50 (hts (.instantiable RX5 3) mw_20)
  obtain ⟨c6, i6, hKn6⟩ := u_known (C := RX6) (T := TX6) (N := 7) (n := 7) hts hwsX60 (hts (.instantiable RX6 7) mw_457)
  obtain ⟨c7, i7, hKn7⟩ := u_known (C := RX7) (T := TX7) (N := 31) (n := 31) hts hwsX70 (hts (.instantiable RX7 31) mw_458)
  obtain ⟨dC, dI, hKc⟩ : ∃ (dC : Nat → ClassId) (dI : Nat → Nat → Nat), ∀ (k : Nat) (q : vw_C), vwCl[k]? = some q → u_Kn s q.1 q.2.1 q.2.2 (dC k) (dI k) := by
    refine ⟨fun k => match k with | 0 => c0 | 1 => c1 | 2 => c2 | 3 => c3 | 4 => c4 | 5 => c5 | 6 => c6 | _ => c7, fun k => match k with | 0 => i0 | 1 => i1 | 2 => i2 | 3 => i3 | 4 => i4 | 5 => i5 | 6 => i6 | _ => i7, ?_⟩
    intro k q hq
    match k, hq with
    | 0, hq => cases hq; exact hKn0
    | 1, hq => cases hq; exact hKn1
    | 2, hq => cases hq; exact hKn2
    | 3, hq => cases hq; exact hKn3
    | 4, hq => cases hq; exact hKn4
    | 5, hq => cases hq; exact hKn5
    | 6, hq => cases hq; exact hKn6
    | 7, hq => cases hq; exact hKn7
    | k + 8, hq => simp [vwCl] at hq
  obtain ⟨cI, aI1, aI2⟩ := lw_arr (ty := .int) (hts (.arrayClass .int) mw_4) (fun cA h => h)
  obtain ⟨cZ, aZ1, aZ2⟩ := lw_arr (ty := .boolean) (hts (.arrayClass .boolean) mw_347) (fun cA h => h)
  obtain ⟨cO, aO1, aO2⟩ := lw_arrO (C := RX0) (hts0 _ ao_in)
  have hK : va_K (dC, dI) vwCl (T3 cI cZ cO) s := ⟨hKc, fun k q h => by
    match k, h with
    | 0, h => cases h; exact ⟨aI1, aI2⟩
    | 1, h => cases h; exact ⟨aZ1, aZ2⟩
    | 2, h => cases h; exact ⟨aO1, aO2⟩
    | k + 3, h => simp [T3] at h⟩
  have hNW : NW s := ⟨va_Nw.of rfl (hts0 _ nw_in_0), va_Nw.of rfl (hts0 _ nw_in_1), va_Nw.of rfl (hts0 _ nw_in_2), va_Nw.of rfl (hts0 _ nw_in_3), va_Nw.of rfl (hts0 _ nw_in_4), va_Nw.of rfl (hts0 _ nw_in_5), va_Nw.of rfl (hts0 _ nw_in_6), va_Nw.of rfl (hts0 _ nw_in_7), va_AO.of (hts0 _ ao_in)⟩
  have hZ : ZT (fun q : Nat => s.heap.size ≤ q) s s.heap := lw_stg (hts0 _ ls_in) (hts _ mw_37) hgv (fun a h => Nat.not_le.mpr h)
  have C : XC RL cL_law 4 ret meth.name (T3 cI cZ cO) (dC, dI) (fun q : Nat => s.heap.size ≤ q) p s m #[Value.ref b] meth c := ⟨⟨hx, hbd, hml, hown, hts⟩, hK, hA, hNW, hZ, hr, hlocks, rfl⟩
  have hP : va_P (dC, dI) vwCl [] s.heap := fun k q h => by simp at h
  have hD : va_D (fun q : Nat => s.heap.size ≤ q) [] := ⟨fun i j p q h => by simp at h, fun k q h => by simp at h⟩
  have hl := lv_entry ([.ref b]) (n := 4) (Nat.le_of_ble_eq_true rfl)
  rw [lg_entry_eq]
  generalize (lg_sl ([.ref b]) ++ List.replicate (4 - (lg_sl ([.ref b])).length) Slot.unset).toArray = ls at hl ⊢
  have hl : lv_has ls 4 [(0, .ref b)] := hl
  suffices go : XI p l e room_1 s m #[Value.ref b] below meth c (dC, dI) (fun q : Nat => s.heap.size ≤ q) 4 0 0 (fun (_ : Unit) => lw_Z below #[Value.ref b] s) (fun z => z) () 0 [(0, .ref b)] [] [] from go s.heap [] ls hP hD va_S.rf hl
  have fin : ∀ (L : List (Nat × Value)) (ws : va_W), XI p l e room_1 s m #[Value.ref b] below meth c (dC, dI) (fun q : Nat => s.heap.size ≤ q) 4 46 883 (fun (_ : Unit) => lw_Z below #[Value.ref b] s) (fun z => z) () 640 L [] ws := fun L ws => by
    refine x_iconst C 1 dL_law_640 (by decide) ?_
    exact fun H locs ls hP hD hS hL => va_forget (fun q hq => hS.2.2 q hq) (W.widen (k := 600000) (n := 7302250) (Nat.le_of_ble_eq_true rfl) (Nat.le_of_ble_eq_true rfl) (lw_ret hx hbd hr hlocks dL_law_641))
  refine x_new (ci := 6) (ws' := fun q1 => [(q1, .inr (6, [.null, .null, .null, .null, .int (z0 4 0), .int (z0 5 0), .int (z0 6 0)]))]) C hwsX60 tyX6 tyX6_ok mw_534 mw_457 mw_37 rfl rfl (Nat.le_of_ble_eq_true rfl) (Nat.le_of_ble_eq_true rfl) dL_law_0 (fun _ => rfl) (fun q1 => ?_)
  refine x_dup C dL_law_3 rfl ?_
  refine x_aload_n C dL_law_4 0 rfl ?_
  refine x_iconst C (nI 0) dL_law_5 (by decide) ?_
  refine x_cell C hX hb hbA (by decide) (by omega) mw_536 ⟨Nat.le_of_ble_eq_true rfl, Nat.le_of_ble_eq_true rfl⟩ (Nat.le_of_ble_eq_true rfl) (Nat.le_of_ble_eq_true rfl) (Nat.le_of_ble_eq_true rfl) dL_law_6 ?_
  refine x_aload_n C dL_law_9 0 rfl ?_
  refine x_iconst C (nI 1) dL_law_10 (by decide) ?_
  refine x_cell C hX hb hbA (by decide) (by omega) mw_536 ⟨Nat.le_of_ble_eq_true rfl, Nat.le_of_ble_eq_true rfl⟩ (Nat.le_of_ble_eq_true rfl) (Nat.le_of_ble_eq_true rfl) (Nat.le_of_ble_eq_true rfl) dL_law_11 ?_
  refine x_aload_n C dL_law_14 0 rfl ?_
  refine x_iconst C (nI 2) dL_law_15 (by decide) ?_
  refine x_cell C hX hb hbA (by decide) (by omega) mw_536 ⟨Nat.le_of_ble_eq_true rfl, Nat.le_of_ble_eq_true rfl⟩ (Nat.le_of_ble_eq_true rfl) (Nat.le_of_ble_eq_true rfl) (Nat.le_of_ble_eq_true rfl) dL_law_16 ?_
  refine x_aload_n C dL_law_19 0 rfl ?_
  refine x_iconst C (nI 3) dL_law_20 (by decide) ?_
  refine x_cell C hX hb hbA (by decide) (by omega) mw_536 ⟨Nat.le_of_ble_eq_true rfl, Nat.le_of_ble_eq_true rfl⟩ (Nat.le_of_ble_eq_true rfl) (Nat.le_of_ble_eq_true rfl) (Nat.le_of_ble_eq_true rfl) dL_law_21 ?_
  refine x_cI (As := [.int (clw xs L 0), .int (clw xs L 1), .int (clw xs L 2), .int (clw xs L 3)]) (ws' := fun q => wLG cI cZ cO q (f_X6_init (clw xs L 0) (clw xs L 1) (clw xs L 2) (clw xs L 3))) C mw_539 mw_459 mw_37 mw_243 rfl hd_X6_init rfl rfl ⟨Nat.le_of_ble_eq_true rfl, Nat.le_of_ble_eq_true rfl⟩ (c_X6_init l (dC, dI) cI cZ cO q1 (clw xs L 0) (clw xs L 1) (clw xs L 2) (clw xs L 3)) [0] [] ⟨rfl, trivial⟩ rfl rfl rfl rfl [0, 1, 2, 3, 4, 5, 6, 7, 8, 9, 10, 11, 12, 13, 14, 15, 16, 17, 18, 19, 20, 21, 22, 23, 24] (fun _ => ⟨rfl, rfl, rfl, rfl, rfl, rfl, rfl, rfl, rfl, rfl, rfl, rfl, rfl, rfl, rfl, rfl, rfl, rfl, rfl, rfl, rfl, rfl, rfl, rfl, rfl, trivial⟩) rfl rfl rfl (Nat.le_of_ble_eq_true rfl) ⟨Nat.le_of_ble_eq_true rfl, Nat.le_of_ble_eq_true rfl⟩ dL_law_24 (fun q hq => ?_)
  subst hq
  refine x_astore_n (L' := [(1, .ref (q 0)), (0, .ref b)]) C dL_law_27 (by decide) rfl ?_
  refine x_new (ci := 7) (ws' := fun q1 => wLG cI cZ cO q (f_X6_init (clw xs L 0) (clw xs L 1) (clw xs L 2) (clw xs L 3)) ++ [(q1, .inr (7, [.int (z0 0 0), .int (z0 1 0), .int (z0 2 0), .int (z0 3 0), .int (z0 4 0), .int (z0 5 0), .int (z0 6 0), .int (z0 7 0), .int (z0 8 0), .int (z0 9 0), .null, .null, .null, .null, .null, .null, .null, .null, .null, .null, .null, .null, .null, .null, .null, .null, .null, .null, .null, .int (z0 29 0), .null]))]) C hwsX70 tyX7 tyX7_ok mw_535 mw_458 mw_337 rfl rfl (Nat.le_of_ble_eq_true rfl) (Nat.le_of_ble_eq_true rfl) dL_law_28 (fun _ => rfl) (fun q1 => ?_)
  refine x_dup C dL_law_31 rfl ?_
  refine x_aload_n C dL_law_32 1 rfl ?_
  refine x_iconst C (nI 0) dL_law_33 (by decide) ?_
  refine x_cell C hX hb hbA (by decide) (by omega) mw_536 ⟨Nat.le_of_ble_eq_true rfl, Nat.le_of_ble_eq_true rfl⟩ (Nat.le_of_ble_eq_true rfl) (Nat.le_of_ble_eq_true rfl) (Nat.le_of_ble_eq_true rfl) dL_law_34 ?_
  refine x_aload_n C dL_law_37 1 rfl ?_
  refine x_iconst C (nI 1) dL_law_38 (by decide) ?_
  refine x_cell C hX hb hbA (by decide) (by omega) mw_536 ⟨Nat.le_of_ble_eq_true rfl, Nat.le_of_ble_eq_true rfl⟩ (Nat.le_of_ble_eq_true rfl) (Nat.le_of_ble_eq_true rfl) (Nat.le_of_ble_eq_true rfl) dL_law_39 ?_
  refine x_aload_n C dL_law_42 1 rfl ?_
  refine x_iconst C (nI 2) dL_law_43 (by decide) ?_
  refine x_cell C hX hb hbA (by decide) (by omega) mw_536 ⟨Nat.le_of_ble_eq_true rfl, Nat.le_of_ble_eq_true rfl⟩ (Nat.le_of_ble_eq_true rfl) (Nat.le_of_ble_eq_true rfl) (Nat.le_of_ble_eq_true rfl) dL_law_44 ?_
  refine x_aload_n C dL_law_47 1 rfl ?_
  refine x_iconst C (nI 3) dL_law_48 (by decide) ?_
  refine x_cell C hX hb hbA (by decide) (by omega) mw_536 ⟨Nat.le_of_ble_eq_true rfl, Nat.le_of_ble_eq_true rfl⟩ (Nat.le_of_ble_eq_true rfl) (Nat.le_of_ble_eq_true rfl) (Nat.le_of_ble_eq_true rfl) dL_law_49 ?_
  refine x_cI (As := [.int (clw xs L 0), .int (clw xs L 1), .int (clw xs L 2), .int (clw xs L 3)]) (ws' := fun g => wLG cI cZ cO q (f_X6_init (clw xs L 0) (clw xs L 1) (clw xs L 2) (clw xs L 3)) ++ wX7 cI cZ cO g (f_X7_init (clw xs L 0) (clw xs L 1) (clw xs L 2) (clw xs L 3))) C mw_540 mw_460 mw_337 mw_362 rfl hd_X7_init rfl rfl ⟨Nat.le_of_ble_eq_true rfl, Nat.le_of_ble_eq_true rfl⟩ (c_X7_init l (dC, dI) cI cZ cO q1 (clw xs L 0) (clw xs L 1) (clw xs L 2) (clw xs L 3)) [25] [0, 1, 2, 3, 4, 5, 6, 7, 8, 9, 10, 11, 12, 13, 14, 15, 16, 17, 18, 19, 20, 21, 22, 23, 24] ⟨rfl, trivial⟩ rfl rfl rfl rfl [0, 1, 2, 3, 4, 5, 6, 7, 8, 9, 10, 11, 12, 13, 14, 15, 16, 17, 18, 19, 20, 21, 22, 23, 24, 25, 26, 27, 28, 29, 30, 31, 32, 33, 34, 35, 36, 37, 38, 39, 40, 41, 42, 43, 44, 45] (fun _ => ⟨rfl, rfl, rfl, rfl, rfl, rfl, rfl, rfl, rfl, rfl, rfl, rfl, rfl, rfl, rfl, rfl, rfl, rfl, rfl, rfl, rfl, rfl, rfl, rfl, rfl, rfl, rfl, rfl, rfl, rfl, rfl, rfl, rfl, rfl, rfl, rfl, rfl, rfl, rfl, rfl, rfl, rfl, rfl, rfl, rfl, rfl, trivial⟩) rfl rfl rfl (Nat.le_of_ble_eq_true rfl) ⟨Nat.le_of_ble_eq_true rfl, Nat.le_of_ble_eq_true rfl⟩ dL_law_52 (fun g hg => ?_)
  subst hg
  refine x_astore_n (L' := [(2, .ref (g 0)), (1, .ref (q 0)), (0, .ref b)]) C dL_law_55 (by decide) rfl ?_
  refine x_iconst C (nI 4) dL_law_56 (by decide) ?_
  refine x_istore_n (L' := [(3, .int (nI 4)), (2, .ref (g 0)), (1, .ref (q 0)), (0, .ref b)]) C dL_law_57 (by decide) rfl ?_
  obtain ⟨i1, i2, i3, i4⟩ := RT_init (n := 1000 * 65) (r := 4000 * 65) (by decide) (by decide) (clw xs L 0) (clw xs L 1) (clw xs L 2) (clw xs L 3)
  exact lw_loop l C hX hb hbA (by omega) fin 65 4 _ _ (by decide) (by decide) (by omega) (by decide) i1 i2
set_option maxHeartbeats 4000000 in
theorem lw_walk (l : Launch) (hflags : l.flags = flags0) (b : Addr) (xs : List Int32) : MetFree l x (headSpec (Jvm.Cond.code x code maxLocals ret :: tables_1) room_1) (lw_P b xs) (fun _ _ _ _ _ => True) lw_Q := by
  refine MetFree.of_bodyS (code := code) (maxLocals := maxLocals) (ret := ret) (by decide) ?_ ?_
  · intro args s m h hn
    obtain ⟨meth, c, h1, h2, h3, h4, h5, h6, -, -⟩ := Cond.code_spec hn (atoms_spec (ws := Jvm.Cond.code x code maxLocals ret :: tables_1) h _ List.mem_cons_self)
    exact ⟨meth, c, h1, h2, h3, h4, h5, h6⟩
  · intro p e s m args below meth c s₁ B hml0 hP _
    obtain ⟨rfl, hx, hbd, hgv⟩ := hP
    obtain ⟨scr, harrAt, hlist, hof, hsmall⟩ := hx
    obtain ⟨hcb, hkn, -, -⟩ := State.arrayAt?_spec harrAt
    have hown : s.vm.findClass R_law = some m.cls := findClass_of_methodNamed B.named
    have hts0 : ∀ c ∈ (Jvm.Cond.code x code maxLocals ret :: tables_1), c.before #[Value.ref b] s = true := atoms_spec (ws := Jvm.Cond.code x code maxLocals ret :: tables_1) B.pre
    have hts : ∀ w ∈ lw_tbl, w.before #[Value.ref b] s = true := k2_hts_sels lw_privs (fun w hw => hts0 w (List.mem_cons_of_mem _ hw)) lw_privs_ok
    have hml : c.maxLocals = 4 := B.maxLocals_eq (hts0 _ List.mem_cons_self)
    have X₀ : Stand p l e room_1 s m #[Value.ref b] below meth c s₁ [] 0 0 := Stand.of_body B
    have hh0 : s₁.heap = s.heap := by rw [B.state]; rfl
    have hsz : scr.slots.size = xs.length := by rw [← Array.length_toList, hlist, List.length_map]
    have hval : ∀ j : Nat, j < xs.length → scr.slots[j]? = some (.int (xs.getD j 0)) := fun j hj => by
      rw [← Array.getElem?_toList, hlist]
      simp [hj]
    have hbl : b < s.heap.size := (Array.getElem?_eq_some_iff.mp hcb).1
    have hX : va_X b xs.length (fun j => xs.getD j 0) s s.heap := ⟨scr, hcb, hof, hkn, hsz, hval⟩
    have K : W p l e room_1 s m #[Value.ref b] below meth c s₁.heap [] 0 0 (lw_Z below #[Value.ref b] s) (entryFrame m ([Value.ref b] : List Value).toArray 4) := by
      rw [hh0]
      exact whole_start l hflags hbd ⟨B.exec, B.bytes, B.returns, hml, hown, hts, hX, hbl, B.notSynchronized, hgv⟩
    obtain ⟨t, a1, o, b1, b2, b3⟩ := K s₁ rfl X₀
    exact ⟨t, o, a1, b1, b2, b3⟩
theorem lw_pre_spec {args : Array Value} {s : State} (h : (Jvm.Cond.and given_1 narrow_1).before args s = true) (hr : rest_1_c.before args s = true) : ∃ (b : Addr) (xs : List Int32), lw_P b xs args s := by
  have hs := flat_of_before _ h
  have hq := flat_of_before _ hr
  have hc : (Cond.count 1).before args s = true := hs _ (by decide +kernel)
  have harr : (Cond.arrayOf (.arg 0) .int).before args s = true := hs _ (by decide +kernel)
  have hle : (Cond.le (.length (.arg 0)) (.int 260)).before args s = true := hs _ (by decide +kernel)
  have hlen : (Cond.isInt (.length (.arg 0))).before args s = true := hq _ (by decide +kernel)
  have hall : (Cond.all (.arg 0) (.isInt (.elem (.arg 0) (.index 0)))).before args s = true := hq _ (by decide +kernel)
  obtain ⟨b, xs, hb, hx⟩ := State.ints_of_pre rfl harr hlen hall
  have hsm : xs.length < 2 ^ 31 := hx.choose_spec.2.2.2
  have hev : (Term.length (.arg 0)).eval args s none [] s = some (.int xs.length.toInt32) := hx.length_eval hb
  have hv := Cond.le_ints hev (show (Term.int 260).eval args s none [] s = some (.int 260) from rfl)
  have hd : xs.length.toInt32 ≤ 260 := by
    simpa [Cond.before, Cond.holds, hv] using hle
  have hN : xs.length ≤ 260 := (Int32.ofNat_le_ofNat hsm (by decide)).mp (show Int32.ofNat xs.length ≤ Int32.ofNat 260 from hd)
  exact ⟨b, xs, Cond.one_arg hc (show args[0]? = some (.ref b) from hb), hx, hN, h⟩
theorem lw_comes (l : Launch) (hflags : l.flags = flags0) : Comes l x (Jvm.Cond.code x code maxLocals ret :: tables_1) room_1 (fun tb e args s => Calls_1 tb e args s ∧ rest_1 tb e args s ∧ Pre_1 tb e args s)
    (fun _ _ args s o t => lw_Q args s o t) := by
  intro p e ha hc hk s m args below hf hfit hheap happ hpre
  obtain ⟨b, xs, hP⟩ := lw_pre_spec hpre.2.2 hpre.2.1
  obtain ⟨k, o, h1, h2, h3, hQ⟩ := lw_walk l hflags b xs p e ha hc hk s m args below hf ((Spec.applies_iff_loose hf).mp happ).1 hP trivial
  exact ⟨k, o, h1, h2, h3, hQ⟩
theorem lw_frame {s t : State} {o : Outcome} {args : Array Value} (h : Framed s o t [] 600000 7302250) :
    Framed s o t (fieldLocs frame_1_writes args s ++ arrayLocs frame_1_arrays args s ++ staticLocs frame_1_statics s) 600000 7302250 := h
theorem lw_limb (L : Cond) (hL : ∀ (args : Array Value) (s t : State), L.after args s (.returned (some (.int 1))) t = true) :
    ArmFor flags0 classFile x code maxLocals ret World_1 tables_1 room_1 Calls_1 rest_1 Pre_1
      (fun tb e a s o t => postC L tb e a s o t ∧ Framed s o t (fieldLocs frame_1_writes a s ++ arrayLocs frame_1_arrays a s ++ staticLocs frame_1_statics s) 600000 7302250) := by
  intro l hflags _ _ p e ha hc hk s m args below hf hfit hheap happ hpre
  obtain ⟨k, o, h1, h2, h3, rfl, hF⟩ := lw_comes l hflags p e ha hc hk s m args below hf hfit hheap happ hpre
  exact ⟨k, _, h1, h2, h3, hL args s _, lw_frame hF⟩
theorem i_vc : Claimed_1_1 ∧ Claimed_1_2 := ⟨lw_limb limb_1_1 (fun args s t => by simp [limb_1_1, Cond.after, Cond.holds, Cond.value]), lw_limb limb_1_2 (fun args s t => Cond.after_iff.mpr (by
  first | (rw [show limb_1_2 = Cond.eq .result (.int 1) from rfl, Cond.eq_ints (x := 1) (y := 1) rfl rfl]; simp; done) | (simp [limb_1_2, Cond.value, Term.eval]; done)))⟩
