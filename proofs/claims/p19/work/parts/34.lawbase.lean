/-! THE LAW: rows of its frame -/
def clw (xs : Nat → Int32) (N j : Nat) : Int32 := if j < N then xs j else 0
theorem hd_cell : yL_cell.cls ≠ "java/lang/invoke/MethodHandle" ∧ yL_cell.cls ≠ "java/lang/invoke/VarHandle" ∧ (parseMethodDescriptor yL_cell.desc).map (fun d => d.parameters.length) = some 2 := by decide +kernel
theorem c_cell (l : Launch) (b N j : Nat) (xs : Nat → Int32) (hN : N < 2 ^ 31) (hj : j < 2 ^ 31) (sz : Nat) : Met l yL_cell (Cond.code yL_cell cL_cell 2 (some .int) :: []) ({ frames := 0, cells := 0, slots := 0, locals := 0 } : Room) (va_Pc [.ref b, .int (nI j)] (fun U => U.heap.size = sz ∧ va_X b N xs U U.heap ∧ b < sz)) (va_Qi (fun (r : Int32) (_ : Unit) => r = clw xs N j) (fun _ _ => True) (fun q => sz ≤ q)) 0 0 (fun q => sz ≤ q) := by
  refine x_ofW (cc := cL_cell) (maxL := 2) (ret := some .int) (plainFor_of_name (by decide +kernel)) rfl ?_
  intro p e s m args below meth c s₁ B hml hv
  obtain ⟨rfl, hsz, hX, hb⟩ := hv
  subst hsz
  have hA : ¬ (fun q : Nat => s.heap.size ≤ q) b := Nat.not_le.mpr hb
  have hS : va_S (fun q : Nat => s.heap.size ≤ q) s.heap s.heap [] := va_S.rf
  have hl := lv_entry ([.ref b, .int (nI j)]) (n := 2) (Nat.le_of_ble_eq_true rfl)
  rw [lg_entry_eq]
  generalize (lg_sl ([.ref b, .int (nI j)]) ++ List.replicate (2 - (lg_sl ([.ref b, .int (nI j)])).length) Slot.unset).toArray = ls at hl ⊢
  have hl : lv_has ls 2 [(0, .ref b), (1, .int (nI j))] := hl
  refine lv_iload_n B.exec B.bytes dL_cell_0 rfl (lv_at hl 1 rfl) ?_
  refine lv_aload_n B.exec B.bytes dL_cell_1 rfl (lv_at hl 0 rfl) ?_
  refine va_slen B.exec B.bytes hX hb hA hS dL_cell_2 ?_
  refine lv_icmp_ge (tgt := 12) B.exec B.bytes dL_cell_3 (by decide) (fun h => ?_) (fun h => ?_)
  · have h' : ¬ j < N := fun z => by
      have := (nI_leI hN hj).mp h
      omega
    refine lv_iconst (v := 0) B.exec B.bytes dL_cell_12 (by decide) ?_
    exact W.iret (hlocks := B.notSynchronized) B.exec B.bytes B.returns (fun t' ht hW => ⟨⟨0, (), rfl, (if_neg h').symm, trivial⟩, hS.F ht⟩) hS.2.2 dL_cell_13
  · have h' : j < N := Nat.lt_of_not_le (fun z => h ((nI_leI hN hj).mpr z))
    refine lv_aload_n B.exec B.bytes dL_cell_6 rfl (lv_at hl 0 rfl) ?_
    refine lv_iload_n B.exec B.bytes dL_cell_7 rfl (lv_at hl 1 rfl) ?_
    refine va_sld B.exec B.bytes hX hb hA hS (vp_in_nI h' hN) dL_cell_8 ?_
    refine lv_goto (tgt := 13) B.exec B.bytes dL_cell_9 (by decide) ?_
    rw [nI_clamp hj]
    exact W.iret (hlocks := B.notSynchronized) B.exec B.bytes B.returns (fun t' ht hW => ⟨⟨xs j, (), rfl, (if_pos h').symm, trivial⟩, hS.F ht⟩) hS.2.2 dL_cell_13
theorem at_app : ∀ (v pre post : va_W), at_ (pre ++ (v ++ post)) (List.range' pre.length v.length) v
  | [], _, _ => trivial
  | w :: v, pre, post => by
    refine ⟨by simp, ?_⟩
    have h := at_app v (pre ++ [w]) post
    rw [List.append_assoc, List.length_append] at h
    exact h
theorem at_end (v pre : va_W) : at_ (pre ++ v) (List.range' pre.length v.length) v := by
  have h := at_app v pre []
  rw [List.append_nil] at h
  exact h
theorem at2_ir {ws : va_W} {is : List (Nat ⊕ Nat)} {r : va_W} : ∀ (v pre post : va_W), at2 ws (pre ++ (v ++ post)) is r → at2 ws (pre ++ (v ++ post)) ((List.range' pre.length v.length).map .inr ++ is) (v ++ r)
  | [], _, _, h => h
  | w :: v, pre, post, h => by
    refine ⟨by simp, ?_⟩
    have k := at2_ir v (pre ++ [w]) post (by rw [List.append_assoc]; exact h)
    rw [List.append_assoc, List.length_append] at k
    exact k
theorem at2_il {w2 : va_W} {is : List (Nat ⊕ Nat)} {r : va_W} : ∀ (v pre post : va_W), at2 (pre ++ (v ++ post)) w2 is r → at2 (pre ++ (v ++ post)) w2 ((List.range' pre.length v.length).map .inl ++ is) (v ++ r)
  | [], _, _, h => h
  | w :: v, pre, post, h => by
    refine ⟨by simp, ?_⟩
    have k := at2_il v (pre ++ [w]) post (by rw [List.append_assoc]; exact h)
    rw [List.append_assoc, List.length_append] at k
    exact k
theorem at2_L (wa wa' wb : va_W) : at2 (wa ++ wb) wa' ((List.range' 0 wa'.length).map .inr ++ ((List.range' wa.length wb.length).map .inl ++ [])) (wa' ++ wb) := by
  have h1 : at2 (wa ++ wb) wa' ((List.range' wa.length wb.length).map .inl ++ []) (wb ++ []) := by
    have h := at2_il (w2 := wa') (is := []) (r := []) wb wa [] trivial
    rw [List.append_nil] at h
    rw [List.append_nil wb]
    exact h
  have h2 := at2_ir (ws := wa ++ wb) wa' [] [] (by rw [List.append_nil, List.nil_append]; exact h1)
  rw [List.append_nil wa', List.nil_append, List.append_nil wb] at h2
  exact h2
theorem at2_R (wa wb wb' : va_W) : at2 (wa ++ wb) wb' ((List.range' 0 wa.length).map .inl ++ ((List.range' 0 wb'.length).map .inr ++ [])) (wa ++ wb') := by
  have h1 : at2 (wa ++ wb) wb' ((List.range' 0 wb'.length).map .inr ++ []) (wb' ++ []) := by
    have h := at2_ir (ws := wa ++ wb) (is := []) (r := []) wb' [] [] trivial
    rw [List.nil_append, List.append_nil] at h
    rw [List.append_nil wb']
    exact h
  have h2 := at2_il (w2 := wb') wa [] wb (by rw [List.nil_append]; exact h1)
  rw [List.nil_append, List.append_nil wb'] at h2
  exact h2
theorem sameA_r : ∀ (a : va_W), sameA a a
  | [] => trivial
  | _ :: a => ⟨rfl, sameA_r a⟩
theorem sameA_app : ∀ {a b c d : va_W}, sameA a b → sameA c d → sameA (a ++ c) (b ++ d)
  | [], [], _, _, _, k => k
  | _ :: a, _ :: b, _, _, h, k => ⟨h.1, sameA_app h.2 k⟩
  | [], _ :: _, _, _, h, _ => h.elim
  | _ :: _, [], _, _, h, _ => h.elim
section XLW
variable {p : Program} {l : Launch} {e : Env} {R : Room} {s : State} {m : MethodId} {args : Array Value} {below : List Frame} {meth : Method} {c : Code} {D : va_G} {A : Nat → Prop} {nL cells slots : Nat} {Ω τ : Type} {Qr : Ω → State → Prop} {K : τ → Ω} {t : τ} {pc : Nat} {L L' : List (Nat × Value)} {st : List Value} {ws : va_W}
variable {own nm : String} {cc : ByteArray} {rt0 : Option FieldType} {tys : List (ClassId × FieldType)}
theorem x_sld (C : XC own cc nL rt0 nm tys D A p s m args meth c) {b N : Nat} {xs : Nat → Int32} (hX : va_X b N xs s s.heap) (hb : b < s.heap.size) (hA : ¬ A b) {i : Int32} (j : Nat) (hi : i = nI j) (hj : j < N) (hN : N < 2 ^ 31) (d : decode cc pc = .ok (.iaload, 1)) (k : XI p l e R s m args below meth c D A nL cells slots Qr K t (pc + 1) L (.int (xs j) :: st) ws) : XI p l e R s m args below meth c D A nL cells slots Qr K t pc L (.int i :: .ref b :: st) ws := fun H locs ls hP hD hS hL => va_sld C.1.1 C.1.2.1 hX hb hA hS (by rw [hi]; exact vp_in_nI hj hN) d (by rw [hi, nI_clamp (Nat.lt_trans hj hN)]; exact k H locs ls hP hD hS hL)
theorem x_slen (C : XC own cc nL rt0 nm tys D A p s m args meth c) {b N : Nat} {xs : Nat → Int32} (hX : va_X b N xs s s.heap) (hb : b < s.heap.size) (hA : ¬ A b) (d : decode cc pc = .ok (.arraylength, 1)) (k : XI p l e R s m args below meth c D A nL cells slots Qr K t (pc + 1) L (.int (nI N) :: st) ws) : XI p l e R s m args below meth c D A nL cells slots Qr K t pc L (.ref b :: st) ws := fun H locs ls hP hD hS hL => va_slen C.1.1 C.1.2.1 hX hb hA hS d (k H locs ls hP hD hS hL)
theorem x_cell (C : XC own cc nL rt0 nm tys D A p s m args meth c) {b N : Nat} {xs : Nat → Int32} (hX : va_X b N xs s s.heap) (hb : b < s.heap.size) (hA : ¬ A b) {index j : Nat} (hj : j < 2 ^ 31) (hN : N < 2 ^ 31) (h1 : Cond.methodLink own index yL_cell ∈ WA) (hRm : 0 + 1 ≤ R.frames ∧ 8 + (2 + 11) + 0 ≤ R.locals) (hlo : (st.map fun v => v.category).sum ≤ 8) (hcl0 : cells ≤ R.cells) (hsl0 : slots ≤ R.slots) (d : decode cc pc = .ok (.invokestatic index, 3)) (k : XI p l e R s m args below meth c D A nL cells slots Qr K t (pc + 3) L (.int (clw xs N j) :: st) ws) : XI p l e R s m args below meth c D A nL cells slots Qr K t pc L (.int (nI j) :: .ref b :: st) ws := by
  intro H locs ls hP hD hS hL
  refine va_calli (mc := 0) (ms := 0) (va_runS (As := [.ref b, .int (nI j)]) (rest := st) C.1 (c_cell l b N j xs hN hj H.size) (va_cwS 2 C.1.2.2.2.2 (ga_list (l := [.methodLink own index yL_cell, .static yL_cell, .initialized yL_cell.cls]) (fun w hw => by simp only [List.mem_cons, List.not_mem_nil, or_false] at hw; rcases hw with rfl | rfl | rfl; exact h1; exact mw_537; exact mw_538) (fun w hw => by rw [List.mem_singleton.mp hw]; exact ⟨mw_533, GA mw_533⟩)) rfl rfl rfl hd_cell hRm) ⟨fun a U g mk z => ⟨z.1, z.2.1, va_X.moved (u := U) (U := U.calling g mk a) (Vm.Alike.refl U.vm) z.2.2.1, z.2.2.2⟩, fun U hU hW => ⟨rfl, by rw [hU], by rw [hU]; exact (hX.kept (hS.2.1 b hb hA)).moved hW.alike, Nat.lt_of_lt_of_le hb hS.1⟩⟩ rfl rfl hL.1 rfl (lv_room hlo) d ⟨hcl0, hsl0⟩) hS (fun z h h2 => absurd h (Nat.not_lt.mpr h2)) (fun z h => C.2.2.1 z (Nat.le_trans hS.1 h)) (fun r1 u t1 H1 locs1 ht hvm hw hB hz1 hk1 hS => ?_)
  subst hw
  exact k H1 locs1 ls (hP.kept (fun i x hx => hk1 x.1 ((hP i x hx).lt) (Nat.not_le.mpr (hP i x hx).lt))) hD hS hL
theorem x_callC {cI cZ cO : ClassId} {q g : Nat → Nat} {x x' : Sy} {u : St} (C : XC own cc nL rt0 nm (T3 cI cZ cO) D A p s m args meth c) {y : MethodName} {rm : Room} {bytes : ByteArray} {maxL n index : Nat} {rt : Option FieldType} {As st0 : List Value} {r : Int32} (h1 : Cond.methodLink own index y ∈ WA) (h2 : Cond.instanceMethod y ∈ WA) (h3 : Cond.selects y.cls y y ∈ WA) (h4 : Cond.initialized y.cls ∈ WA) (h5 : Cond.code y bytes maxL rt ∈ WA) (hd : y.cls ≠ "java/lang/invoke/MethodHandle" ∧ y.cls ≠ "java/lang/invoke/VarHandle" ∧ (parseMethodDescriptor y.desc).map (fun d => d.parameters.length) = some n) (hrc : rm.cells = 0) (hrs : rm.slots = 0) (hRm : rm.frames + 1 ≤ R.frames ∧ 8 + (maxL + 11) + rm.locals ≤ R.locals) (hcn : RX6 = y.cls) (hc : CTi l D (T3 cI cZ cO) y (Cond.code y bytes maxL rt :: WA) rm (.ref (q 0) :: As) (wLG cI cZ cO q x) r (wLG cI cZ cO q x')) (hn' : As.length = n) (hst : st0 = As.reverse ++ .ref (q 0) :: st) (hlo : (st.map fun v => v.category).sum ≤ 8) (hcl0 : cells ≤ R.cells) (hsl0 : slots ≤ R.slots) (d : decode cc pc = .ok (.invokevirtual index, 3)) (k : XI p l e R s m args below meth c D A nL cells slots Qr K t (pc + 3) L (.int r :: st) (wLG cI cZ cO q x' ++ wX7 cI cZ cO g u)) : XI p l e R s m args below meth c D A nL cells slots Qr K t pc L st0 (wLG cI cZ cO q x ++ wX7 cI cZ cO g u) :=
  x_cVi (q0 := 0) (ci := 6) (w1 := wLG cI cZ cO q x) (w2 := wLG cI cZ cO q x') (ws' := wLG cI cZ cO q x' ++ wX7 cI cZ cO g u) C h1 h2 h3 h4 h5 hd hrc hrs hRm rfl rfl hcn hc (List.range' 0 25) ((List.range' 0 25).map .inr ++ ((List.range' 25 21).map .inl ++ [])) (at_app (wLG cI cZ cO q x) [] (wX7 cI cZ cO g u)) (by decide) (at2_L (wLG cI cZ cO q x) (wLG cI cZ cO q x') (wX7 cI cZ cO g u)) (by decide) (sameA_app (a := wLG cI cZ cO q x') (b := wLG cI cZ cO q x) ⟨rfl, rfl, rfl, rfl, rfl, rfl, rfl, rfl, rfl, rfl, rfl, rfl, rfl, rfl, rfl, rfl, rfl, rfl, rfl, rfl, rfl, rfl, rfl, rfl, rfl, trivial⟩ (sameA_r _)) hn' hst hlo hcl0 hsl0 d k
theorem x_callM {cI cZ cO : ClassId} {q g : Nat → Nat} {x : Sy} {u u' : St} (C : XC own cc nL rt0 nm (T3 cI cZ cO) D A p s m args meth c) {y : MethodName} {rm : Room} {bytes : ByteArray} {maxL n index : Nat} {rt : Option FieldType} {As st0 : List Value} {r : Int32} (h1 : Cond.methodLink own index y ∈ WA) (h2 : Cond.instanceMethod y ∈ WA) (h3 : Cond.selects y.cls y y ∈ WA) (h4 : Cond.initialized y.cls ∈ WA) (h5 : Cond.code y bytes maxL rt ∈ WA) (hd : y.cls ≠ "java/lang/invoke/MethodHandle" ∧ y.cls ≠ "java/lang/invoke/VarHandle" ∧ (parseMethodDescriptor y.desc).map (fun d => d.parameters.length) = some n) (hrc : rm.cells = 0) (hrs : rm.slots = 0) (hRm : rm.frames + 1 ≤ R.frames ∧ 8 + (maxL + 11) + rm.locals ≤ R.locals) (hcn : RX7 = y.cls) (hc : CTi l D (T3 cI cZ cO) y (Cond.code y bytes maxL rt :: WA) rm (.ref (g 0) :: As) (wX7 cI cZ cO g u) r (wX7 cI cZ cO g u')) (hn' : As.length = n) (hst : st0 = As.reverse ++ .ref (g 0) :: st) (hlo : (st.map fun v => v.category).sum ≤ 8) (hcl0 : cells ≤ R.cells) (hsl0 : slots ≤ R.slots) (d : decode cc pc = .ok (.invokevirtual index, 3)) (k : XI p l e R s m args below meth c D A nL cells slots Qr K t (pc + 3) L (.int r :: st) (wLG cI cZ cO q x ++ wX7 cI cZ cO g u')) : XI p l e R s m args below meth c D A nL cells slots Qr K t pc L st0 (wLG cI cZ cO q x ++ wX7 cI cZ cO g u) :=
  x_cVi (q0 := 25) (ci := 7) (w1 := wX7 cI cZ cO g u) (w2 := wX7 cI cZ cO g u') (ws' := wLG cI cZ cO q x ++ wX7 cI cZ cO g u') C h1 h2 h3 h4 h5 hd hrc hrs hRm rfl rfl hcn hc (List.range' 25 21) ((List.range' 0 25).map .inl ++ ((List.range' 0 21).map .inr ++ [])) (at_end (wX7 cI cZ cO g u) (wLG cI cZ cO q x)) (by decide) (at2_R (wLG cI cZ cO q x) (wX7 cI cZ cO g u) (wX7 cI cZ cO g u')) (by decide) (sameA_app (a := wLG cI cZ cO q x) (b := wLG cI cZ cO q x) (sameA_r _) (c := wX7 cI cZ cO g u') (d := wX7 cI cZ cO g u) ⟨rfl, rfl, rfl, rfl, rfl, rfl, rfl, rfl, rfl, rfl, rfl, rfl, rfl, rfl, rfl, rfl, rfl, rfl, rfl, rfl, rfl, trivial⟩) hn' hst hlo hcl0 hsl0 d k
end XLW
theorem lt_law {N i : Nat} (hN : N < 2 ^ 30) (hi : i < 2 ^ 30) : nI N - nI 4 < nI i ↔ N < i + 4 := by
  have e : (nI N - nI 4).toInt = (N : Int) - 4 := by
    rw [Int32.toInt_sub, nI_toInt (by omega), nI_toInt (by omega), Int.bmod_eq_of_le (by omega) (by omega)]; rfl
  rw [Int32.lt_iff_toInt_lt, e, nI_toInt (by omega)]
  omega
theorem i4_law (i : Nat) : nI i + Int32.ofInt 4 = nI (i + 4) := by
  rw [show Int32.ofInt 4 = nI 4 by decide]; exact nI_add i 4
