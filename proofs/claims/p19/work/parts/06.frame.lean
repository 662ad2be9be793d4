/-! THE FRAME: a walk over abstract frames. A part of a state: field k at place 0, an array in field k at its places. -/
abbrev St : Type := Nat → Nat → Int32
def put (u : St) (k i : Nat) (x : Int32) : St := fun a => if a = k then upd (u a) i x else u a
def b2i (b : Bool) : Int32 := if b = true then 1 else 0
def imn (x y : Int32) : Int32 := if y < x then y else x
def imx (x y : Int32) : Int32 := if x < y then y else x
/-- a loop: n more turns from k on -/
def up {α : Type} (f : Nat → α → α) : Nat → Nat → α → α
  | _, 0, a => a
  | k, n + 1, a => up f (k + 1) n (f k a)
/-- a loop that may leave the method: n more turns from k on -/
def upr {α τ : Type} (f : Nat → α → (α → τ) → τ) (ex : α → τ) : Nat → Nat → α → τ
  | _, 0, a => ex a
  | k, n + 1, a => f k a (fun a' => upr f ex (k + 1) n a')
theorem put_s (u : St) (k i : Nat) (x : Int32) : put u k i x k = upd (u k) i x := if_pos rfl
theorem put_n (u : St) {k a : Nat} (i : Nat) (x : Int32) (h : ¬ a = k) : put u k i x a = u a := if_neg h
theorem nz_b (b : Bool) : narrow .boolean (.int (b2i b)) = .int (b2i b) := by cases b <;> decide
theorem nf_b (b : Bool) : fits .boolean (.int (b2i b)) = true := by cases b <;> decide
theorem nv_b (b : Bool) : vp_nar .boolean (b2i b) = b2i b := by cases b <;> decide
theorem nv_1 : vp_nar .boolean 1 = 1 := by decide
theorem nv_0 : vp_nar .boolean 0 = 0 := by decide
def stg : Nat → Int32
  | 0 => 0 | 1 => 1 | 2 => 3 | 3 => 3 | 4 => 3 | 5 => 1 | 6 => 5 | _ => 1
def NW (U : State) : Prop :=
  va_Nw (.methodLinkNest RX0 59 yX6_outside RX6) U ∧ va_Nw (.methodLinkNest RX2 77 yX6_has RX6) U ∧ va_Nw (.methodLinkNest RX2 88 yX6_bit RX6) U ∧ va_Nw (.methodLinkNest RX3 27 yX6_bit RX6) U ∧ va_Nw (.methodLinkNest RX3 43 yX6_has RX6) U ∧ va_Nw (.methodLinkNest RX4 31 yX6_bit RX6) U ∧ va_Nw (.methodLinkNest RX5 28 yX6_has RX6) U ∧ va_Nw (.fieldLinkNest RX0 63 RX6 "STAGE_ORDERS" "[I" RX6) U ∧ va_AO RX0 U
theorem NW.warm {s U : State} (hW : s.WarmedH U.vm) (h : NW s) : NW U :=
  ⟨va_Nw.warmM hW h.1, va_Nw.warmM hW h.2.1, va_Nw.warmM hW h.2.2.1, va_Nw.warmM hW h.2.2.2.1, va_Nw.warmM hW h.2.2.2.2.1, va_Nw.warmM hW h.2.2.2.2.2.1, va_Nw.warmM hW h.2.2.2.2.2.2.1, va_Nw.warmF hW h.2.2.2.2.2.2.2.1, va_AO.moved hW.alike h.2.2.2.2.2.2.2.2⟩
theorem NW.same {s U : State} (e : s.vm = U.vm) (h : NW s) : NW U :=
  ⟨va_Nw.same rfl e h.1, va_Nw.same rfl e h.2.1, va_Nw.same rfl e h.2.2.1, va_Nw.same rfl e h.2.2.2.1, va_Nw.same rfl e h.2.2.2.2.1, va_Nw.same rfl e h.2.2.2.2.2.1, va_Nw.same rfl e h.2.2.2.2.2.2.1, va_Nw.same rfl e h.2.2.2.2.2.2.2.1, va_AO.moved (e ▸ Vm.Alike.refl s.vm) h.2.2.2.2.2.2.2.2⟩
/-- the static row of orders, nobody writes it -/
def ZT (A : Nat → Prop) (U : State) (H : Heap) : Prop := ∃ t : Nat, va_Z RX6 "STAGE_ORDERS" "[I" (.ref t) A U H ∧ va_T .int t 8 (fun j => .int (stg j)) A U H
theorem ZT.moved {A : Nat → Prop} {u U : State} {H : Heap} (hvm : u.vm.Alike U.vm) (h : ZT A u H) : ZT A U H := by
  obtain ⟨t, h1, h2⟩ := h
  exact ⟨t, h1.moved hvm, h2.moved hvm⟩
theorem ZT.kept {A : Nat → Prop} {U : State} {H H1 : Heap} (h : ZT A U H) (hq : ∀ a : Nat, a < H.size → ¬ A a → H1[a]? = H[a]?) : ZT A U H1 := by
  obtain ⟨t, h1, h2⟩ := h
  exact ⟨t, h1.kept hq, h2.kept hq⟩
theorem ZT.narrow {A B : Nat → Prop} {U : State} {H : Heap} (h : ZT A U H) (hAB : ∀ q, B q → A q) : ZT B U H := by
  obtain ⟨t, h1, h2⟩ := h
  exact ⟨t, h1.narrow hAB, h2.narrow hAB⟩
theorem fm_of {α β : Type} {f : α → Option β} : ∀ {is : List α} {ws : List β}, is.map f = ws.map some → is.filterMap f = ws
  | [], [], _ => rfl
  | [], _ :: _, h => by simp at h
  | _ :: _, [], h => by simp at h
  | i :: is, x :: ws, h => by
    simp only [List.map_cons, List.cons.injEq] at h
    rw [List.filterMap_cons, h.1, fm_of h.2]
theorem fm_all {β : Type} {ws : List β} : ∀ {is : List Nat}, is.all (fun i => decide (i < ws.length)) = true → is.map (fun i => ws[i]?) = (is.filterMap (fun i => ws[i]?)).map some
  | [], _ => rfl
  | i :: is, h => by
    simp only [List.all_cons, Bool.and_eq_true, decide_eq_true_eq] at h
    rw [List.map_cons, List.filterMap_cons, List.getElem?_eq_getElem h.1]
    simp only [List.map_cons]
    rw [← fm_all h.2]
/-- what a method's world is at its start -/
def PB (D : va_G) (tys : List (ClassId × FieldType)) (w1 : va_W) (sz : Nat) (U : State) : Prop := U.heap.size = sz ∧ va_P D vwCl w1 U.heap ∧ va_K D vwCl tys U ∧ va_D (fun _ => True) w1 ∧ NW U ∧ ZT (va_A w1 sz) U U.heap
theorem PB.call {D : va_G} {tys : List (ClassId × FieldType)} {w1 : va_W} {sz : Nat} {U : State} (g : JFrame) (mk : MethodId) (a : Array Value) (h : PB D tys w1 sz U) : PB D tys w1 sz (U.calling g mk a) := by
  obtain ⟨h1, h2, h3, h4, h5, h6⟩ := h
  exact ⟨h1, h2, va_K.moved (u := U) (U := U.calling g mk a) (Vm.Alike.refl U.vm) h3, h4, NW.same (s := U) (U := U.calling g mk a) rfl h5, ZT.moved (u := U) (U := U.calling g mk a) (Vm.Alike.refl U.vm) h6⟩
/-- a method's contract: with these arguments, from the world w1, it answers r (an int or a boolean; CTv: nothing), and the world is w2 -/
def CTi (l : Launch) (D : va_G) (tys : List (ClassId × FieldType)) (y : MethodName) (wsY : List Cond) (rm : Room) (As : List Value) (w1 : va_W) (r : Int32) (w2 : va_W) : Prop := ∀ sz : Nat, Met l y wsY rm (va_Pc As (PB D tys w1 sz)) (va_Qi (fun (r' : Int32) (_ : Unit) => r' = r) (fun _ t => va_P D vwCl w2 t.heap ∧ va_K D vwCl tys t ∧ va_D (va_A w1 sz) w2) (va_A w1 sz)) 0 0 (va_A w1 sz)
def CTv (l : Launch) (D : va_G) (tys : List (ClassId × FieldType)) (y : MethodName) (wsY : List Cond) (rm : Room) (As : List Value) (w1 : va_W) (w2 : va_W) : Prop := ∀ sz : Nat, Met l y wsY rm (va_Pc As (PB D tys w1 sz)) (va_Qv (fun (_ : Unit) => True) (fun _ t => va_P D vwCl w2 t.heap ∧ va_K D vwCl tys t ∧ va_D (va_A w1 sz) w2) (va_A w1 sz)) 0 0 (va_A w1 sz)
/-- the ends of a walk -/
def QI {Ω : Type} (rf : Ω → Int32) (wf : Ω → va_W) (below : List Frame) (args : Array Value) (s : State) (D : va_G) (A : Nat → Prop) (tys : List (ClassId × FieldType)) (o : Ω) : State → Prop := MQ below (va_Qi (fun (r : Int32) (_ : Unit) => r = rf o) (fun _ t => va_P D vwCl (wf o) t.heap ∧ va_K D vwCl tys t ∧ va_D A (wf o)) A) args s 0 0 A
def QV {Ω : Type} (wf : Ω → va_W) (below : List Frame) (args : Array Value) (s : State) (D : va_G) (A : Nat → Prop) (tys : List (ClassId × FieldType)) (o : Ω) : State → Prop := MQ below (va_Qv (fun (_ : Unit) => True) (fun _ t => va_P D vwCl (wf o) t.heap ∧ va_K D vwCl tys t ∧ va_D A (wf o)) A) args s 0 0 A
/-- what stays the same through a method's walk -/
def XC (own : String) (cc : ByteArray) (nL : Nat) (ret : Option FieldType) (nm : String) (tys : List (ClassId × FieldType)) (D : va_G) (A : Nat → Prop) (p : Program) (s : State) (m : MethodId) (args : Array Value) (meth : Method) (c : Code) : Prop :=
  CallFix p m c cc nL s args WA own ∧ va_K D vwCl tys s ∧ (∀ q, s.heap.size ≤ q → A q) ∧ NW s ∧ ZT A s s.heap ∧ meth.sig.returnType = ret ∧ meth.locks = false ∧ meth.name = nm
/-- THE JUDGEMENT: from the frame at pc with locals L, operands st, over every heap that holds ws, the machine comes to Qr (K t) -/
def XI {Ω τ : Type} (p : Program) (l : Launch) (e : Env) (R : Room) (s : State) (m : MethodId) (args : Array Value) (below : List Frame) (meth : Method) (c : Code) (D : va_G) (A : Nat → Prop) (nL cells slots : Nat) (Qr : Ω → State → Prop) (K : τ → Ω) (t : τ) (pc : Nat) (L : List (Nat × Value)) (st : List Value) (ws : va_W) : Prop :=
  ∀ (H : Heap) (locs : List Loc) (ls : Array Slot), va_P D vwCl ws H → va_D A ws → va_S A s.heap H locs → lv_has ls nL L → W p l e R s m args below meth c H locs cells slots (Qr (K t)) (F0 m pc ls st)
section XF
variable {p : Program} {l : Launch} {e : Env} {R : Room} {s : State} {m : MethodId} {args : Array Value} {below : List Frame} {meth : Method} {c : Code} {D : va_G} {A : Nat → Prop} {nL cells slots : Nat} {Ω τ : Type} {Qr : Ω → State → Prop} {K : τ → Ω} {t : τ} {pc : Nat} {L L' : List (Nat × Value)} {st : List Value} {ws : va_W}
variable {own nm : String} {cc : ByteArray} {ret : Option FieldType} {tys : List (ClassId × FieldType)}
theorem x_iconst (C : XC own cc nL ret nm tys D A p s m args meth c) {n : Int} (v : Int32) (d : decode cc pc = .ok (.iconst n, 1)) (hv : Int32.ofInt n = v) (k : XI p l e R s m args below meth c D A nL cells slots Qr K t (pc + 1) L (.int v :: st) ws) : XI p l e R s m args below meth c D A nL cells slots Qr K t pc L st ws := fun H locs ls hP hD hS hL => lv_iconst C.1.1 C.1.2.1 d hv (k H locs ls hP hD hS hL)
theorem x_bipush (C : XC own cc nL ret nm tys D A p s m args meth c) {n : Int} (v : Int32) (d : decode cc pc = .ok (.bipush n, 2)) (hv : (Int8.ofInt n).toInt32 = v) (k : XI p l e R s m args below meth c D A nL cells slots Qr K t (pc + 2) L (.int v :: st) ws) : XI p l e R s m args below meth c D A nL cells slots Qr K t pc L st ws := fun H locs ls hP hD hS hL => lv_bipush C.1.1 C.1.2.1 d hv (k H locs ls hP hD hS hL)
theorem x_sipush (C : XC own cc nL ret nm tys D A p s m args meth c) {n : Int} (v : Int32) (d : decode cc pc = .ok (.sipush n, 3)) (hv : (Int16.ofInt n).toInt32 = v) (k : XI p l e R s m args below meth c D A nL cells slots Qr K t (pc + 3) L (.int v :: st) ws) : XI p l e R s m args below meth c D A nL cells slots Qr K t pc L st ws := fun H locs ls hP hD hS hL => lv_sipush C.1.1 C.1.2.1 d hv (k H locs ls hP hD hS hL)
theorem x_iload_n (C : XC own cc nL ret nm tys D A p s m args meth c) {i : Fin 4} {x : Int32} (d : decode cc pc = .ok (.iload_n i, 1)) (j : Nat) (hj : L[j]? = some ((i : Nat), .int x)) (k : XI p l e R s m args below meth c D A nL cells slots Qr K t (pc + 1) L (.int x :: st) ws) : XI p l e R s m args below meth c D A nL cells slots Qr K t pc L st ws := fun H locs ls hP hD hS hL => lv_iload_n C.1.1 C.1.2.1 d rfl (lv_at hL j hj) (k H locs ls hP hD hS hL)
theorem x_iload (C : XC own cc nL ret nm tys D A p s m args meth c) {i : Nat} {x : Int32} (d : decode cc pc = .ok (.iload i, 2)) (j : Nat) (hj : L[j]? = some (i, .int x)) (k : XI p l e R s m args below meth c D A nL cells slots Qr K t (pc + 2) L (.int x :: st) ws) : XI p l e R s m args below meth c D A nL cells slots Qr K t pc L st ws := fun H locs ls hP hD hS hL => lv_iload C.1.1 C.1.2.1 d (lv_at hL j hj) (k H locs ls hP hD hS hL)
theorem x_aload_n (C : XC own cc nL ret nm tys D A p s m args meth c) {i : Fin 4} {x : Nat} (d : decode cc pc = .ok (.aload_n i, 1)) (j : Nat) (hj : L[j]? = some ((i : Nat), .ref x)) (k : XI p l e R s m args below meth c D A nL cells slots Qr K t (pc + 1) L (.ref x :: st) ws) : XI p l e R s m args below meth c D A nL cells slots Qr K t pc L st ws := fun H locs ls hP hD hS hL => lv_aload_n C.1.1 C.1.2.1 d rfl (lv_at hL j hj) (k H locs ls hP hD hS hL)
theorem x_aload (C : XC own cc nL ret nm tys D A p s m args meth c) {i : Nat} {x : Nat} (d : decode cc pc = .ok (.aload i, 2)) (j : Nat) (hj : L[j]? = some (i, .ref x)) (k : XI p l e R s m args below meth c D A nL cells slots Qr K t (pc + 2) L (.ref x :: st) ws) : XI p l e R s m args below meth c D A nL cells slots Qr K t pc L st ws := fun H locs ls hP hD hS hL => lv_aload C.1.1 C.1.2.1 d (lv_at hL j hj) (k H locs ls hP hD hS hL)
theorem x_istore_n (C : XC own cc nL ret nm tys D A p s m args meth c) {i : Fin 4} {x : Int32} (d : decode cc pc = .ok (.istore_n i, 1)) (hn : (i : Nat) < nL) (hl : ((i : Nat), Value.int x) :: L.filter (fun q => !(q.1 == (i : Nat)) && !(q.1 + 1 == (i : Nat) && q.2.category == 2)) = L') (k : XI p l e R s m args below meth c D A nL cells slots Qr K t (pc + 1) L' st ws) : XI p l e R s m args below meth c D A nL cells slots Qr K t pc L (.int x :: st) ws := fun H locs ls hP hD hS hL => lv_istore_n C.1.1 C.1.2.1 d rfl hL hn hl (fun ls hL => k H locs ls hP hD hS hL)
theorem x_istore (C : XC own cc nL ret nm tys D A p s m args meth c) {i : Nat} {x : Int32} (d : decode cc pc = .ok (.istore i, 2)) (hn : i < nL) (hl : (i, Value.int x) :: L.filter (fun q => !(q.1 == i) && !(q.1 + 1 == i && q.2.category == 2)) = L') (k : XI p l e R s m args below meth c D A nL cells slots Qr K t (pc + 2) L' st ws) : XI p l e R s m args below meth c D A nL cells slots Qr K t pc L (.int x :: st) ws := fun H locs ls hP hD hS hL => lv_istore C.1.1 C.1.2.1 d hL hn hl (fun ls hL => k H locs ls hP hD hS hL)
theorem x_astore_n (C : XC own cc nL ret nm tys D A p s m args meth c) {i : Fin 4} {x : Nat} (d : decode cc pc = .ok (.astore_n i, 1)) (hn : (i : Nat) < nL) (hl : ((i : Nat), Value.ref x) :: L.filter (fun q => !(q.1 == (i : Nat)) && !(q.1 + 1 == (i : Nat) && q.2.category == 2)) = L') (k : XI p l e R s m args below meth c D A nL cells slots Qr K t (pc + 1) L' st ws) : XI p l e R s m args below meth c D A nL cells slots Qr K t pc L (.ref x :: st) ws := fun H locs ls hP hD hS hL => lv_astore_n C.1.1 C.1.2.1 d rfl hL hn hl (fun ls hL => k H locs ls hP hD hS hL)
theorem x_astore (C : XC own cc nL ret nm tys D A p s m args meth c) {i : Nat} {x : Nat} (d : decode cc pc = .ok (.astore i, 2)) (hn : i < nL) (hl : (i, Value.ref x) :: L.filter (fun q => !(q.1 == i) && !(q.1 + 1 == i && q.2.category == 2)) = L') (k : XI p l e R s m args below meth c D A nL cells slots Qr K t (pc + 2) L' st ws) : XI p l e R s m args below meth c D A nL cells slots Qr K t pc L (.ref x :: st) ws := fun H locs ls hP hD hS hL => lv_astore C.1.1 C.1.2.1 d hL hn hl (fun ls hL => k H locs ls hP hD hS hL)
theorem x_iinc (C : XC own cc nL ret nm tys D A p s m args meth c) {i : Nat} {n : Int} {x : Int32} (v : Int32) (d : decode cc pc = .ok (.iinc i n, 3)) (j : Nat) (hj : L[j]? = some (i, .int x)) (hv : x + Int32.ofInt n = v) (hn : i < nL) (hl : (i, Value.int v) :: L.filter (fun q => !(q.1 == i) && !(q.1 + 1 == i && q.2.category == 2)) = L') (k : XI p l e R s m args below meth c D A nL cells slots Qr K t (pc + 3) L' st ws) : XI p l e R s m args below meth c D A nL cells slots Qr K t pc L st ws := fun H locs ls hP hD hS hL => lv_iinc C.1.1 C.1.2.1 d hL hj hv hn hl (fun ls hL => k H locs ls hP hD hS hL)
theorem x_lsub (js : List Nat) (h : lv_pick L js = L') (k : XI p l e R s m args below meth c D A nL cells slots Qr K t pc L' st ws) : XI p l e R s m args below meth c D A nL cells slots Qr K t pc L st ws := fun H locs ls hP hD hS hL => k H locs ls hP hD hS (lv_sub hL js h)
theorem x_iadd (C : XC own cc nL ret nm tys D A p s m args meth c) {x y : Int32} (d : decode cc pc = .ok (.iadd, 1)) (k : XI p l e R s m args below meth c D A nL cells slots Qr K t (pc + 1) L (.int (x + y) :: st) ws) : XI p l e R s m args below meth c D A nL cells slots Qr K t pc L (.int y :: .int x :: st) ws := fun H locs ls hP hD hS hL => lv_iadd C.1.1 C.1.2.1 d (k H locs ls hP hD hS hL)
theorem x_isub (C : XC own cc nL ret nm tys D A p s m args meth c) {x y : Int32} (d : decode cc pc = .ok (.isub, 1)) (k : XI p l e R s m args below meth c D A nL cells slots Qr K t (pc + 1) L (.int (x - y) :: st) ws) : XI p l e R s m args below meth c D A nL cells slots Qr K t pc L (.int y :: .int x :: st) ws := fun H locs ls hP hD hS hL => lv_isub C.1.1 C.1.2.1 d (k H locs ls hP hD hS hL)
theorem x_imul (C : XC own cc nL ret nm tys D A p s m args meth c) {x y : Int32} (d : decode cc pc = .ok (.imul, 1)) (k : XI p l e R s m args below meth c D A nL cells slots Qr K t (pc + 1) L (.int (x * y) :: st) ws) : XI p l e R s m args below meth c D A nL cells slots Qr K t pc L (.int y :: .int x :: st) ws := fun H locs ls hP hD hS hL => lv_imul C.1.1 C.1.2.1 d (k H locs ls hP hD hS hL)
theorem x_iand (C : XC own cc nL ret nm tys D A p s m args meth c) {x y : Int32} (d : decode cc pc = .ok (.iand, 1)) (k : XI p l e R s m args below meth c D A nL cells slots Qr K t (pc + 1) L (.int (x &&& y) :: st) ws) : XI p l e R s m args below meth c D A nL cells slots Qr K t pc L (.int y :: .int x :: st) ws := fun H locs ls hP hD hS hL => lv_iand C.1.1 C.1.2.1 d (k H locs ls hP hD hS hL)
theorem x_ior (C : XC own cc nL ret nm tys D A p s m args meth c) {x y : Int32} (d : decode cc pc = .ok (.ior, 1)) (k : XI p l e R s m args below meth c D A nL cells slots Qr K t (pc + 1) L (.int (x ||| y) :: st) ws) : XI p l e R s m args below meth c D A nL cells slots Qr K t pc L (.int y :: .int x :: st) ws := fun H locs ls hP hD hS hL => lv_ior C.1.1 C.1.2.1 d (k H locs ls hP hD hS hL)
theorem x_ixor (C : XC own cc nL ret nm tys D A p s m args meth c) {x y : Int32} (d : decode cc pc = .ok (.ixor, 1)) (k : XI p l e R s m args below meth c D A nL cells slots Qr K t (pc + 1) L (.int (x ^^^ y) :: st) ws) : XI p l e R s m args below meth c D A nL cells slots Qr K t pc L (.int y :: .int x :: st) ws := fun H locs ls hP hD hS hL => lv_ixor C.1.1 C.1.2.1 d (k H locs ls hP hD hS hL)
theorem x_ishl (C : XC own cc nL ret nm tys D A p s m args meth c) {x y : Int32} (d : decode cc pc = .ok (.ishl, 1)) (k : XI p l e R s m args below meth c D A nL cells slots Qr K t (pc + 1) L (.int (x <<< (y &&& 31)) :: st) ws) : XI p l e R s m args below meth c D A nL cells slots Qr K t pc L (.int y :: .int x :: st) ws := fun H locs ls hP hD hS hL => lv_ishl C.1.1 C.1.2.1 d (k H locs ls hP hD hS hL)
theorem x_ishr (C : XC own cc nL ret nm tys D A p s m args meth c) {x y : Int32} (d : decode cc pc = .ok (.ishr, 1)) (k : XI p l e R s m args below meth c D A nL cells slots Qr K t (pc + 1) L (.int (x >>> (y &&& 31)) :: st) ws) : XI p l e R s m args below meth c D A nL cells slots Qr K t pc L (.int y :: .int x :: st) ws := fun H locs ls hP hD hS hL => lv_ishr C.1.1 C.1.2.1 d (k H locs ls hP hD hS hL)
theorem x_iushr (C : XC own cc nL ret nm tys D A p s m args meth c) {x y : Int32} (d : decode cc pc = .ok (.iushr, 1)) (k : XI p l e R s m args below meth c D A nL cells slots Qr K t (pc + 1) L (.int ((x.toUInt32 >>> (y.toUInt32 &&& Int32.toUInt32 31)).toInt32) :: st) ws) : XI p l e R s m args below meth c D A nL cells slots Qr K t pc L (.int y :: .int x :: st) ws := fun H locs ls hP hD hS hL => lv_iushr C.1.1 C.1.2.1 d rfl (k H locs ls hP hD hS hL)
theorem x_ldcw (C : XC own cc nL ret nm tys D A p s m args meth c) {index : Nat} {v : Int32} (h1 : Cond.constant own index v ∈ WA) (d : decode cc pc = .ok (.ldc_w index, 3)) (k : XI p l e R s m args below meth c D A nL cells slots Qr K t (pc + 3) L (.int v :: st) ws) : XI p l e R s m args below meth c D A nL cells slots Qr K t pc L st ws := fun H locs ls hP hD hS hL => lv_ldcw C.1.1 C.1.2.1 C.1.2.2.2.1 (C.1.2.2.2.2 _ h1) d (k H locs ls hP hD hS hL)
theorem x_idiv (C : XC own cc nL ret nm tys D A p s m args meth c) {x y : Int32} (d : decode cc pc = .ok (.idiv, 1)) (hne : ¬ y = 0) (k : XI p l e R s m args below meth c D A nL cells slots Qr K t (pc + 1) L (.int (x / y) :: st) ws) : XI p l e R s m args below meth c D A nL cells slots Qr K t pc L (.int y :: .int x :: st) ws := fun H locs ls hP hD hS hL => lv_idiv C.1.1 C.1.2.1 d hne (k H locs ls hP hD hS hL)
theorem x_irem (C : XC own cc nL ret nm tys D A p s m args meth c) {x y : Int32} (d : decode cc pc = .ok (.irem, 1)) (hne : ¬ y = 0) (k : XI p l e R s m args below meth c D A nL cells slots Qr K t (pc + 1) L (.int (x - x / y * y) :: st) ws) : XI p l e R s m args below meth c D A nL cells slots Qr K t pc L (.int y :: .int x :: st) ws := fun H locs ls hP hD hS hL => lv_irem C.1.1 C.1.2.1 d hne (k H locs ls hP hD hS hL)
theorem x_leq (h : L = L') (k : XI p l e R s m args below meth c D A nL cells slots Qr K t pc L' st ws) : XI p l e R s m args below meth c D A nL cells slots Qr K t pc L st ws := h ▸ k
theorem x_top {x : Int32} (y : Int32) (h : x = y) (k : XI p l e R s m args below meth c D A nL cells slots Qr K t pc L (.int y :: st) ws) : XI p l e R s m args below meth c D A nL cells slots Qr K t pc L (.int x :: st) ws := h ▸ k
theorem x_res {t' : τ} (h : t = t') (k : XI p l e R s m args below meth c D A nL cells slots Qr K t' pc L st ws) : XI p l e R s m args below meth c D A nL cells slots Qr K t pc L st ws := h ▸ k
theorem x_dup (C : XC own cc nL ret nm tys D A p s m args meth c) {v : Value} (d : decode cc pc = .ok (.dup, 1)) (hv : v.category = 1) (k : XI p l e R s m args below meth c D A nL cells slots Qr K t (pc + 1) L (v :: v :: st) ws) : XI p l e R s m args below meth c D A nL cells slots Qr K t pc L (v :: st) ws := fun H locs ls hP hD hS hL => lv_dup C.1.1 C.1.2.1 d hv (k H locs ls hP hD hS hL)
theorem x_pop (C : XC own cc nL ret nm tys D A p s m args meth c) {v : Value} (d : decode cc pc = .ok (.pop, 1)) (hv : v.category = 1) (k : XI p l e R s m args below meth c D A nL cells slots Qr K t (pc + 1) L st ws) : XI p l e R s m args below meth c D A nL cells slots Qr K t pc L (v :: st) ws := fun H locs ls hP hD hS hL => lv_pop C.1.1 C.1.2.1 d hv (k H locs ls hP hD hS hL)
theorem x_dup2 (C : XC own cc nL ret nm tys D A p s m args meth c) {v u : Value} (d : decode cc pc = .ok (.dup2, 1)) (hv : v.category = 1) (hu : u.category = 1) (k : XI p l e R s m args below meth c D A nL cells slots Qr K t (pc + 1) L (v :: u :: v :: u :: st) ws) : XI p l e R s m args below meth c D A nL cells slots Qr K t pc L (v :: u :: st) ws := fun H locs ls hP hD hS hL => lv_dup2_11 C.1.1 C.1.2.1 d hv hu (k H locs ls hP hD hS hL)
theorem x_goto (C : XC own cc nL ret nm tys D A p s m args meth c) {off : Int} (tgt : Nat) (d : decode cc pc = .ok (.goto off, 3)) (ht : (pc : Int) + off = (tgt : Int)) (k : XI p l e R s m args below meth c D A nL cells slots Qr K t tgt L st ws) : XI p l e R s m args below meth c D A nL cells slots Qr K t pc L st ws := fun H locs ls hP hD hS hL => lv_goto C.1.1 C.1.2.1 d ht (k H locs ls hP hD hS hL)
theorem x_if_eq (C : XC own cc nL ret nm tys D A p s m args meth c) {x : Int32} {off : Int} (tgt : Nat) (d : decode cc pc = .ok (.ifCond .eq off, 3)) (ht : (pc : Int) + off = (tgt : Int)) {a b : τ} [hd : Decidable (x = 0)] (kt : x = 0 → XI p l e R s m args below meth c D A nL cells slots Qr K a tgt L st ws) (kf : ¬ x = 0 → XI p l e R s m args below meth c D A nL cells slots Qr K b (pc + 3) L st ws) : XI p l e R s m args below meth c D A nL cells slots Qr K (if x = 0 then a else b) pc L (.int x :: st) ws := fun H locs ls hP hD hS hL => lv_if_eq C.1.1 C.1.2.1 d ht (fun h => by have h2 : x = 0 := h; have k := kt h2 H locs ls hP hD hS hL; rw [if_pos h2]; exact k) (fun h => by have h2 : ¬ x = 0 := h; have k := kf h2 H locs ls hP hD hS hL; rw [if_neg h2]; exact k)
theorem x_if_eq_t (C : XC own cc nL ret nm tys D A p s m args meth c) {x : Int32} {off : Int} (tgt : Nat) (d : decode cc pc = .ok (.ifCond .eq off, 3)) (ht : (pc : Int) + off = (tgt : Int)) (hc : x = 0) (k : XI p l e R s m args below meth c D A nL cells slots Qr K t tgt L st ws) : XI p l e R s m args below meth c D A nL cells slots Qr K t pc L (.int x :: st) ws := fun H locs ls hP hD hS hL => lv_if_eq C.1.1 C.1.2.1 d ht (fun _ => k H locs ls hP hD hS hL) (fun h => absurd h (by first | exact fun z => hc z | exact fun z => z hc))
theorem x_if_eq_f (C : XC own cc nL ret nm tys D A p s m args meth c) {x : Int32} {off : Int} (tgt : Nat) (d : decode cc pc = .ok (.ifCond .eq off, 3)) (ht : (pc : Int) + off = (tgt : Int)) (hc : ¬ x = 0) (k : XI p l e R s m args below meth c D A nL cells slots Qr K t (pc + 3) L st ws) : XI p l e R s m args below meth c D A nL cells slots Qr K t pc L (.int x :: st) ws := fun H locs ls hP hD hS hL => lv_if_eq C.1.1 C.1.2.1 d ht (fun h => absurd h (by first | exact fun z => hc z | exact fun z => z hc)) (fun _ => k H locs ls hP hD hS hL)
theorem x_if_ne (C : XC own cc nL ret nm tys D A p s m args meth c) {x : Int32} {off : Int} (tgt : Nat) (d : decode cc pc = .ok (.ifCond .ne off, 3)) (ht : (pc : Int) + off = (tgt : Int)) {a b : τ} [hd : Decidable (x = 0)] (kf : x = 0 → XI p l e R s m args below meth c D A nL cells slots Qr K a (pc + 3) L st ws) (kt : ¬ x = 0 → XI p l e R s m args below meth c D A nL cells slots Qr K b tgt L st ws) : XI p l e R s m args below meth c D A nL cells slots Qr K (if x = 0 then a else b) pc L (.int x :: st) ws := fun H locs ls hP hD hS hL => lv_if_ne C.1.1 C.1.2.1 d ht (fun h => by have h2 : ¬ x = 0 := h; have k := kt h2 H locs ls hP hD hS hL; rw [if_neg h2]; exact k) (fun h => by have h2 : x = 0 := h; have k := kf h2 H locs ls hP hD hS hL; rw [if_pos h2]; exact k)
theorem x_if_ne_t (C : XC own cc nL ret nm tys D A p s m args meth c) {x : Int32} {off : Int} (tgt : Nat) (d : decode cc pc = .ok (.ifCond .ne off, 3)) (ht : (pc : Int) + off = (tgt : Int)) (hc : ¬ x = 0) (k : XI p l e R s m args below meth c D A nL cells slots Qr K t tgt L st ws) : XI p l e R s m args below meth c D A nL cells slots Qr K t pc L (.int x :: st) ws := fun H locs ls hP hD hS hL => lv_if_ne C.1.1 C.1.2.1 d ht (fun _ => k H locs ls hP hD hS hL) (fun h => absurd h (by first | exact fun z => hc z | exact fun z => z hc))
theorem x_if_ne_f (C : XC own cc nL ret nm tys D A p s m args meth c) {x : Int32} {off : Int} (tgt : Nat) (d : decode cc pc = .ok (.ifCond .ne off, 3)) (ht : (pc : Int) + off = (tgt : Int)) (hc : x = 0) (k : XI p l e R s m args below meth c D A nL cells slots Qr K t (pc + 3) L st ws) : XI p l e R s m args below meth c D A nL cells slots Qr K t pc L (.int x :: st) ws := fun H locs ls hP hD hS hL => lv_if_ne C.1.1 C.1.2.1 d ht (fun h => absurd h (by first | exact fun z => hc z | exact fun z => z hc)) (fun _ => k H locs ls hP hD hS hL)
theorem x_if_lt (C : XC own cc nL ret nm tys D A p s m args meth c) {x : Int32} {off : Int} (tgt : Nat) (d : decode cc pc = .ok (.ifCond .lt off, 3)) (ht : (pc : Int) + off = (tgt : Int)) {a b : τ} [hd : Decidable (x < 0)] (kt : x < 0 → XI p l e R s m args below meth c D A nL cells slots Qr K a tgt L st ws) (kf : ¬ x < 0 → XI p l e R s m args below meth c D A nL cells slots Qr K b (pc + 3) L st ws) : XI p l e R s m args below meth c D A nL cells slots Qr K (if x < 0 then a else b) pc L (.int x :: st) ws := fun H locs ls hP hD hS hL => lv_if_lt C.1.1 C.1.2.1 d ht (fun h => by have h2 : x < 0 := h; have k := kt h2 H locs ls hP hD hS hL; rw [if_pos h2]; exact k) (fun h => by have h2 : ¬ x < 0 := h; have k := kf h2 H locs ls hP hD hS hL; rw [if_neg h2]; exact k)
theorem x_if_lt_t (C : XC own cc nL ret nm tys D A p s m args meth c) {x : Int32} {off : Int} (tgt : Nat) (d : decode cc pc = .ok (.ifCond .lt off, 3)) (ht : (pc : Int) + off = (tgt : Int)) (hc : x < 0) (k : XI p l e R s m args below meth c D A nL cells slots Qr K t tgt L st ws) : XI p l e R s m args below meth c D A nL cells slots Qr K t pc L (.int x :: st) ws := fun H locs ls hP hD hS hL => lv_if_lt C.1.1 C.1.2.1 d ht (fun _ => k H locs ls hP hD hS hL) (fun h => absurd h (by first | exact fun z => hc z | exact fun z => z hc))
theorem x_if_lt_f (C : XC own cc nL ret nm tys D A p s m args meth c) {x : Int32} {off : Int} (tgt : Nat) (d : decode cc pc = .ok (.ifCond .lt off, 3)) (ht : (pc : Int) + off = (tgt : Int)) (hc : ¬ x < 0) (k : XI p l e R s m args below meth c D A nL cells slots Qr K t (pc + 3) L st ws) : XI p l e R s m args below meth c D A nL cells slots Qr K t pc L (.int x :: st) ws := fun H locs ls hP hD hS hL => lv_if_lt C.1.1 C.1.2.1 d ht (fun h => absurd h (by first | exact fun z => hc z | exact fun z => z hc)) (fun _ => k H locs ls hP hD hS hL)
theorem x_if_ge (C : XC own cc nL ret nm tys D A p s m args meth c) {x : Int32} {off : Int} (tgt : Nat) (d : decode cc pc = .ok (.ifCond .ge off, 3)) (ht : (pc : Int) + off = (tgt : Int)) {a b : τ} [hd : Decidable (x < 0)] (kf : x < 0 → XI p l e R s m args below meth c D A nL cells slots Qr K a (pc + 3) L st ws) (kt : ¬ x < 0 → XI p l e R s m args below meth c D A nL cells slots Qr K b tgt L st ws) : XI p l e R s m args below meth c D A nL cells slots Qr K (if x < 0 then a else b) pc L (.int x :: st) ws := fun H locs ls hP hD hS hL => lv_if_ge C.1.1 C.1.2.1 d ht (fun h => by have h2 : ¬ x < 0 := (Int32.not_lt.mpr h); have k := kt h2 H locs ls hP hD hS hL; rw [if_neg h2]; exact k) (fun h => by have h2 : x < 0 := (Int32.not_le.mp h); have k := kf h2 H locs ls hP hD hS hL; rw [if_pos h2]; exact k)
theorem x_if_ge_t (C : XC own cc nL ret nm tys D A p s m args meth c) {x : Int32} {off : Int} (tgt : Nat) (d : decode cc pc = .ok (.ifCond .ge off, 3)) (ht : (pc : Int) + off = (tgt : Int)) (hc : ¬ x < 0) (k : XI p l e R s m args below meth c D A nL cells slots Qr K t tgt L st ws) : XI p l e R s m args below meth c D A nL cells slots Qr K t pc L (.int x :: st) ws := fun H locs ls hP hD hS hL => lv_if_ge C.1.1 C.1.2.1 d ht (fun _ => k H locs ls hP hD hS hL) (fun h => absurd (Int32.not_le.mp h) (by first | exact fun z => hc z | exact fun z => z hc))
theorem x_if_ge_f (C : XC own cc nL ret nm tys D A p s m args meth c) {x : Int32} {off : Int} (tgt : Nat) (d : decode cc pc = .ok (.ifCond .ge off, 3)) (ht : (pc : Int) + off = (tgt : Int)) (hc : x < 0) (k : XI p l e R s m args below meth c D A nL cells slots Qr K t (pc + 3) L st ws) : XI p l e R s m args below meth c D A nL cells slots Qr K t pc L (.int x :: st) ws := fun H locs ls hP hD hS hL => lv_if_ge C.1.1 C.1.2.1 d ht (fun h => absurd (Int32.not_lt.mpr h) (by first | exact fun z => hc z | exact fun z => z hc)) (fun _ => k H locs ls hP hD hS hL)
theorem x_if_gt (C : XC own cc nL ret nm tys D A p s m args meth c) {x : Int32} {off : Int} (tgt : Nat) (d : decode cc pc = .ok (.ifCond .gt off, 3)) (ht : (pc : Int) + off = (tgt : Int)) {a b : τ} [hd : Decidable (0 < x)] (kt : 0 < x → XI p l e R s m args below meth c D A nL cells slots Qr K a tgt L st ws) (kf : ¬ 0 < x → XI p l e R s m args below meth c D A nL cells slots Qr K b (pc + 3) L st ws) : XI p l e R s m args below meth c D A nL cells slots Qr K (if 0 < x then a else b) pc L (.int x :: st) ws := fun H locs ls hP hD hS hL => lv_if_gt C.1.1 C.1.2.1 d ht (fun h => by have h2 : 0 < x := h; have k := kt h2 H locs ls hP hD hS hL; rw [if_pos h2]; exact k) (fun h => by have h2 : ¬ 0 < x := h; have k := kf h2 H locs ls hP hD hS hL; rw [if_neg h2]; exact k)
theorem x_if_gt_t (C : XC own cc nL ret nm tys D A p s m args meth c) {x : Int32} {off : Int} (tgt : Nat) (d : decode cc pc = .ok (.ifCond .gt off, 3)) (ht : (pc : Int) + off = (tgt : Int)) (hc : 0 < x) (k : XI p l e R s m args below meth c D A nL cells slots Qr K t tgt L st ws) : XI p l e R s m args below meth c D A nL cells slots Qr K t pc L (.int x :: st) ws := fun H locs ls hP hD hS hL => lv_if_gt C.1.1 C.1.2.1 d ht (fun _ => k H locs ls hP hD hS hL) (fun h => absurd h (by first | exact fun z => hc z | exact fun z => z hc))
theorem x_if_gt_f (C : XC own cc nL ret nm tys D A p s m args meth c) {x : Int32} {off : Int} (tgt : Nat) (d : decode cc pc = .ok (.ifCond .gt off, 3)) (ht : (pc : Int) + off = (tgt : Int)) (hc : ¬ 0 < x) (k : XI p l e R s m args below meth c D A nL cells slots Qr K t (pc + 3) L st ws) : XI p l e R s m args below meth c D A nL cells slots Qr K t pc L (.int x :: st) ws := fun H locs ls hP hD hS hL => lv_if_gt C.1.1 C.1.2.1 d ht (fun h => absurd h (by first | exact fun z => hc z | exact fun z => z hc)) (fun _ => k H locs ls hP hD hS hL)
theorem x_if_le (C : XC own cc nL ret nm tys D A p s m args meth c) {x : Int32} {off : Int} (tgt : Nat) (d : decode cc pc = .ok (.ifCond .le off, 3)) (ht : (pc : Int) + off = (tgt : Int)) {a b : τ} [hd : Decidable (0 < x)] (kf : 0 < x → XI p l e R s m args below meth c D A nL cells slots Qr K a (pc + 3) L st ws) (kt : ¬ 0 < x → XI p l e R s m args below meth c D A nL cells slots Qr K b tgt L st ws) : XI p l e R s m args below meth c D A nL cells slots Qr K (if 0 < x then a else b) pc L (.int x :: st) ws := fun H locs ls hP hD hS hL => lv_if_le C.1.1 C.1.2.1 d ht (fun h => by have h2 : ¬ 0 < x := (Int32.not_lt.mpr h); have k := kt h2 H locs ls hP hD hS hL; rw [if_neg h2]; exact k) (fun h => by have h2 : 0 < x := (Int32.not_le.mp h); have k := kf h2 H locs ls hP hD hS hL; rw [if_pos h2]; exact k)
theorem x_if_le_t (C : XC own cc nL ret nm tys D A p s m args meth c) {x : Int32} {off : Int} (tgt : Nat) (d : decode cc pc = .ok (.ifCond .le off, 3)) (ht : (pc : Int) + off = (tgt : Int)) (hc : ¬ 0 < x) (k : XI p l e R s m args below meth c D A nL cells slots Qr K t tgt L st ws) : XI p l e R s m args below meth c D A nL cells slots Qr K t pc L (.int x :: st) ws := fun H locs ls hP hD hS hL => lv_if_le C.1.1 C.1.2.1 d ht (fun _ => k H locs ls hP hD hS hL) (fun h => absurd (Int32.not_le.mp h) (by first | exact fun z => hc z | exact fun z => z hc))
theorem x_if_le_f (C : XC own cc nL ret nm tys D A p s m args meth c) {x : Int32} {off : Int} (tgt : Nat) (d : decode cc pc = .ok (.ifCond .le off, 3)) (ht : (pc : Int) + off = (tgt : Int)) (hc : 0 < x) (k : XI p l e R s m args below meth c D A nL cells slots Qr K t (pc + 3) L st ws) : XI p l e R s m args below meth c D A nL cells slots Qr K t pc L (.int x :: st) ws := fun H locs ls hP hD hS hL => lv_if_le C.1.1 C.1.2.1 d ht (fun h => absurd (Int32.not_lt.mpr h) (by first | exact fun z => hc z | exact fun z => z hc)) (fun _ => k H locs ls hP hD hS hL)
theorem x_icmp_eq (C : XC own cc nL ret nm tys D A p s m args meth c) {x y : Int32} {off : Int} (tgt : Nat) (d : decode cc pc = .ok (.if_icmp .eq off, 3)) (ht : (pc : Int) + off = (tgt : Int)) {a b : τ} [hd : Decidable (x = y)] (kt : x = y → XI p l e R s m args below meth c D A nL cells slots Qr K a tgt L st ws) (kf : ¬ x = y → XI p l e R s m args below meth c D A nL cells slots Qr K b (pc + 3) L st ws) : XI p l e R s m args below meth c D A nL cells slots Qr K (if x = y then a else b) pc L (.int y :: .int x :: st) ws := fun H locs ls hP hD hS hL => lv_icmp_eq C.1.1 C.1.2.1 d ht (fun h => by have h2 : x = y := h; have k := kt h2 H locs ls hP hD hS hL; rw [if_pos h2]; exact k) (fun h => by have h2 : ¬ x = y := h; have k := kf h2 H locs ls hP hD hS hL; rw [if_neg h2]; exact k)
theorem x_icmp_eq_t (C : XC own cc nL ret nm tys D A p s m args meth c) {x y : Int32} {off : Int} (tgt : Nat) (d : decode cc pc = .ok (.if_icmp .eq off, 3)) (ht : (pc : Int) + off = (tgt : Int)) (hc : x = y) (k : XI p l e R s m args below meth c D A nL cells slots Qr K t tgt L st ws) : XI p l e R s m args below meth c D A nL cells slots Qr K t pc L (.int y :: .int x :: st) ws := fun H locs ls hP hD hS hL => lv_icmp_eq C.1.1 C.1.2.1 d ht (fun _ => k H locs ls hP hD hS hL) (fun h => absurd h (by first | exact fun z => hc z | exact fun z => z hc))
theorem x_icmp_eq_f (C : XC own cc nL ret nm tys D A p s m args meth c) {x y : Int32} {off : Int} (tgt : Nat) (d : decode cc pc = .ok (.if_icmp .eq off, 3)) (ht : (pc : Int) + off = (tgt : Int)) (hc : ¬ x = y) (k : XI p l e R s m args below meth c D A nL cells slots Qr K t (pc + 3) L st ws) : XI p l e R s m args below meth c D A nL cells slots Qr K t pc L (.int y :: .int x :: st) ws := fun H locs ls hP hD hS hL => lv_icmp_eq C.1.1 C.1.2.1 d ht (fun h => absurd h (by first | exact fun z => hc z | exact fun z => z hc)) (fun _ => k H locs ls hP hD hS hL)
theorem x_icmp_ne (C : XC own cc nL ret nm tys D A p s m args meth c) {x y : Int32} {off : Int} (tgt : Nat) (d : decode cc pc = .ok (.if_icmp .ne off, 3)) (ht : (pc : Int) + off = (tgt : Int)) {a b : τ} [hd : Decidable (x = y)] (kf : x = y → XI p l e R s m args below meth c D A nL cells slots Qr K a (pc + 3) L st ws) (kt : ¬ x = y → XI p l e R s m args below meth c D A nL cells slots Qr K b tgt L st ws) : XI p l e R s m args below meth c D A nL cells slots Qr K (if x = y then a else b) pc L (.int y :: .int x :: st) ws := fun H locs ls hP hD hS hL => lv_icmp_ne C.1.1 C.1.2.1 d ht (fun h => by have h2 : ¬ x = y := h; have k := kt h2 H locs ls hP hD hS hL; rw [if_neg h2]; exact k) (fun h => by have h2 : x = y := h; have k := kf h2 H locs ls hP hD hS hL; rw [if_pos h2]; exact k)
theorem x_icmp_ne_t (C : XC own cc nL ret nm tys D A p s m args meth c) {x y : Int32} {off : Int} (tgt : Nat) (d : decode cc pc = .ok (.if_icmp .ne off, 3)) (ht : (pc : Int) + off = (tgt : Int)) (hc : ¬ x = y) (k : XI p l e R s m args below meth c D A nL cells slots Qr K t tgt L st ws) : XI p l e R s m args below meth c D A nL cells slots Qr K t pc L (.int y :: .int x :: st) ws := fun H locs ls hP hD hS hL => lv_icmp_ne C.1.1 C.1.2.1 d ht (fun _ => k H locs ls hP hD hS hL) (fun h => absurd h (by first | exact fun z => hc z | exact fun z => z hc))
theorem x_icmp_ne_f (C : XC own cc nL ret nm tys D A p s m args meth c) {x y : Int32} {off : Int} (tgt : Nat) (d : decode cc pc = .ok (.if_icmp .ne off, 3)) (ht : (pc : Int) + off = (tgt : Int)) (hc : x = y) (k : XI p l e R s m args below meth c D A nL cells slots Qr K t (pc + 3) L st ws) : XI p l e R s m args below meth c D A nL cells slots Qr K t pc L (.int y :: .int x :: st) ws := fun H locs ls hP hD hS hL => lv_icmp_ne C.1.1 C.1.2.1 d ht (fun h => absurd h (by first | exact fun z => hc z | exact fun z => z hc)) (fun _ => k H locs ls hP hD hS hL)
theorem x_icmp_lt (C : XC own cc nL ret nm tys D A p s m args meth c) {x y : Int32} {off : Int} (tgt : Nat) (d : decode cc pc = .ok (.if_icmp .lt off, 3)) (ht : (pc : Int) + off = (tgt : Int)) {a b : τ} [hd : Decidable (x < y)] (kt : x < y → XI p l e R s m args below meth c D A nL cells slots Qr K a tgt L st ws) (kf : ¬ x < y → XI p l e R s m args below meth c D A nL cells slots Qr K b (pc + 3) L st ws) : XI p l e R s m args below meth c D A nL cells slots Qr K (if x < y then a else b) pc L (.int y :: .int x :: st) ws := fun H locs ls hP hD hS hL => lv_icmp_lt C.1.1 C.1.2.1 d ht (fun h => by have h2 : x < y := h; have k := kt h2 H locs ls hP hD hS hL; rw [if_pos h2]; exact k) (fun h => by have h2 : ¬ x < y := h; have k := kf h2 H locs ls hP hD hS hL; rw [if_neg h2]; exact k)
theorem x_icmp_lt_t (C : XC own cc nL ret nm tys D A p s m args meth c) {x y : Int32} {off : Int} (tgt : Nat) (d : decode cc pc = .ok (.if_icmp .lt off, 3)) (ht : (pc : Int) + off = (tgt : Int)) (hc : x < y) (k : XI p l e R s m args below meth c D A nL cells slots Qr K t tgt L st ws) : XI p l e R s m args below meth c D A nL cells slots Qr K t pc L (.int y :: .int x :: st) ws := fun H locs ls hP hD hS hL => lv_icmp_lt C.1.1 C.1.2.1 d ht (fun _ => k H locs ls hP hD hS hL) (fun h => absurd h (by first | exact fun z => hc z | exact fun z => z hc))
theorem x_icmp_lt_f (C : XC own cc nL ret nm tys D A p s m args meth c) {x y : Int32} {off : Int} (tgt : Nat) (d : decode cc pc = .ok (.if_icmp .lt off, 3)) (ht : (pc : Int) + off = (tgt : Int)) (hc : ¬ x < y) (k : XI p l e R s m args below meth c D A nL cells slots Qr K t (pc + 3) L st ws) : XI p l e R s m args below meth c D A nL cells slots Qr K t pc L (.int y :: .int x :: st) ws := fun H locs ls hP hD hS hL => lv_icmp_lt C.1.1 C.1.2.1 d ht (fun h => absurd h (by first | exact fun z => hc z | exact fun z => z hc)) (fun _ => k H locs ls hP hD hS hL)
theorem x_icmp_ge (C : XC own cc nL ret nm tys D A p s m args meth c) {x y : Int32} {off : Int} (tgt : Nat) (d : decode cc pc = .ok (.if_icmp .ge off, 3)) (ht : (pc : Int) + off = (tgt : Int)) {a b : τ} [hd : Decidable (x < y)] (kf : x < y → XI p l e R s m args below meth c D A nL cells slots Qr K a (pc + 3) L st ws) (kt : ¬ x < y → XI p l e R s m args below meth c D A nL cells slots Qr K b tgt L st ws) : XI p l e R s m args below meth c D A nL cells slots Qr K (if x < y then a else b) pc L (.int y :: .int x :: st) ws := fun H locs ls hP hD hS hL => lv_icmp_ge C.1.1 C.1.2.1 d ht (fun h => by have h2 : ¬ x < y := (Int32.not_lt.mpr h); have k := kt h2 H locs ls hP hD hS hL; rw [if_neg h2]; exact k) (fun h => by have h2 : x < y := (Int32.not_le.mp h); have k := kf h2 H locs ls hP hD hS hL; rw [if_pos h2]; exact k)
theorem x_icmp_ge_t (C : XC own cc nL ret nm tys D A p s m args meth c) {x y : Int32} {off : Int} (tgt : Nat) (d : decode cc pc = .ok (.if_icmp .ge off, 3)) (ht : (pc : Int) + off = (tgt : Int)) (hc : ¬ x < y) (k : XI p l e R s m args below meth c D A nL cells slots Qr K t tgt L st ws) : XI p l e R s m args below meth c D A nL cells slots Qr K t pc L (.int y :: .int x :: st) ws := fun H locs ls hP hD hS hL => lv_icmp_ge C.1.1 C.1.2.1 d ht (fun _ => k H locs ls hP hD hS hL) (fun h => absurd (Int32.not_le.mp h) (by first | exact fun z => hc z | exact fun z => z hc))
theorem x_icmp_ge_f (C : XC own cc nL ret nm tys D A p s m args meth c) {x y : Int32} {off : Int} (tgt : Nat) (d : decode cc pc = .ok (.if_icmp .ge off, 3)) (ht : (pc : Int) + off = (tgt : Int)) (hc : x < y) (k : XI p l e R s m args below meth c D A nL cells slots Qr K t (pc + 3) L st ws) : XI p l e R s m args below meth c D A nL cells slots Qr K t pc L (.int y :: .int x :: st) ws := fun H locs ls hP hD hS hL => lv_icmp_ge C.1.1 C.1.2.1 d ht (fun h => absurd (Int32.not_lt.mpr h) (by first | exact fun z => hc z | exact fun z => z hc)) (fun _ => k H locs ls hP hD hS hL)
theorem x_icmp_gt (C : XC own cc nL ret nm tys D A p s m args meth c) {x y : Int32} {off : Int} (tgt : Nat) (d : decode cc pc = .ok (.if_icmp .gt off, 3)) (ht : (pc : Int) + off = (tgt : Int)) {a b : τ} [hd : Decidable (y < x)] (kt : y < x → XI p l e R s m args below meth c D A nL cells slots Qr K a tgt L st ws) (kf : ¬ y < x → XI p l e R s m args below meth c D A nL cells slots Qr K b (pc + 3) L st ws) : XI p l e R s m args below meth c D A nL cells slots Qr K (if y < x then a else b) pc L (.int y :: .int x :: st) ws := fun H locs ls hP hD hS hL => lv_icmp_gt C.1.1 C.1.2.1 d ht (fun h => by have h2 : y < x := h; have k := kt h2 H locs ls hP hD hS hL; rw [if_pos h2]; exact k) (fun h => by have h2 : ¬ y < x := h; have k := kf h2 H locs ls hP hD hS hL; rw [if_neg h2]; exact k)
theorem x_icmp_gt_t (C : XC own cc nL ret nm tys D A p s m args meth c) {x y : Int32} {off : Int} (tgt : Nat) (d : decode cc pc = .ok (.if_icmp .gt off, 3)) (ht : (pc : Int) + off = (tgt : Int)) (hc : y < x) (k : XI p l e R s m args below meth c D A nL cells slots Qr K t tgt L st ws) : XI p l e R s m args below meth c D A nL cells slots Qr K t pc L (.int y :: .int x :: st) ws := fun H locs ls hP hD hS hL => lv_icmp_gt C.1.1 C.1.2.1 d ht (fun _ => k H locs ls hP hD hS hL) (fun h => absurd h (by first | exact fun z => hc z | exact fun z => z hc))
theorem x_icmp_gt_f (C : XC own cc nL ret nm tys D A p s m args meth c) {x y : Int32} {off : Int} (tgt : Nat) (d : decode cc pc = .ok (.if_icmp .gt off, 3)) (ht : (pc : Int) + off = (tgt : Int)) (hc : ¬ y < x) (k : XI p l e R s m args below meth c D A nL cells slots Qr K t (pc + 3) L st ws) : XI p l e R s m args below meth c D A nL cells slots Qr K t pc L (.int y :: .int x :: st) ws := fun H locs ls hP hD hS hL => lv_icmp_gt C.1.1 C.1.2.1 d ht (fun h => absurd h (by first | exact fun z => hc z | exact fun z => z hc)) (fun _ => k H locs ls hP hD hS hL)
theorem x_icmp_le (C : XC own cc nL ret nm tys D A p s m args meth c) {x y : Int32} {off : Int} (tgt : Nat) (d : decode cc pc = .ok (.if_icmp .le off, 3)) (ht : (pc : Int) + off = (tgt : Int)) {a b : τ} [hd : Decidable (y < x)] (kf : y < x → XI p l e R s m args below meth c D A nL cells slots Qr K a (pc + 3) L st ws) (kt : ¬ y < x → XI p l e R s m args below meth c D A nL cells slots Qr K b tgt L st ws) : XI p l e R s m args below meth c D A nL cells slots Qr K (if y < x then a else b) pc L (.int y :: .int x :: st) ws := fun H locs ls hP hD hS hL => lv_icmp_le C.1.1 C.1.2.1 d ht (fun h => by have h2 : ¬ y < x := (Int32.not_lt.mpr h); have k := kt h2 H locs ls hP hD hS hL; rw [if_neg h2]; exact k) (fun h => by have h2 : y < x := (Int32.not_le.mp h); have k := kf h2 H locs ls hP hD hS hL; rw [if_pos h2]; exact k)
theorem x_icmp_le_t (C : XC own cc nL ret nm tys D A p s m args meth c) {x y : Int32} {off : Int} (tgt : Nat) (d : decode cc pc = .ok (.if_icmp .le off, 3)) (ht : (pc : Int) + off = (tgt : Int)) (hc : ¬ y < x) (k : XI p l e R s m args below meth c D A nL cells slots Qr K t tgt L st ws) : XI p l e R s m args below meth c D A nL cells slots Qr K t pc L (.int y :: .int x :: st) ws := fun H locs ls hP hD hS hL => lv_icmp_le C.1.1 C.1.2.1 d ht (fun _ => k H locs ls hP hD hS hL) (fun h => absurd (Int32.not_le.mp h) (by first | exact fun z => hc z | exact fun z => z hc))
theorem x_icmp_le_f (C : XC own cc nL ret nm tys D A p s m args meth c) {x y : Int32} {off : Int} (tgt : Nat) (d : decode cc pc = .ok (.if_icmp .le off, 3)) (ht : (pc : Int) + off = (tgt : Int)) (hc : y < x) (k : XI p l e R s m args below meth c D A nL cells slots Qr K t (pc + 3) L st ws) : XI p l e R s m args below meth c D A nL cells slots Qr K t pc L (.int y :: .int x :: st) ws := fun H locs ls hP hD hS hL => lv_icmp_le C.1.1 C.1.2.1 d ht (fun h => absurd (Int32.not_lt.mpr h) (by first | exact fun z => hc z | exact fun z => z hc)) (fun _ => k H locs ls hP hD hS hL)
theorem x_if_eqZ (C : XC own cc nL ret nm tys D A p s m args meth c) {b : Bool} {off : Int} (tgt : Nat) (d : decode cc pc = .ok (.ifCond .eq off, 3)) (ht : (pc : Int) + off = (tgt : Int)) {u v : τ} (kf : b = true → XI p l e R s m args below meth c D A nL cells slots Qr K u (pc + 3) L st ws) (kt : b = false → XI p l e R s m args below meth c D A nL cells slots Qr K v tgt L st ws) : XI p l e R s m args below meth c D A nL cells slots Qr K (if b = true then u else v) pc L (.int (b2i b) :: st) ws := by
  intro H locs ls hP hD hS hL
  cases b with
  | true => exact lv_if_eq C.1.1 C.1.2.1 d ht (fun h => absurd h (by decide)) (fun h => (kf rfl H locs ls hP hD hS hL))
  | false => exact lv_if_eq C.1.1 C.1.2.1 d ht (fun h => (kt rfl H locs ls hP hD hS hL)) (fun h => absurd h (by decide))
theorem x_if_neZ (C : XC own cc nL ret nm tys D A p s m args meth c) {b : Bool} {off : Int} (tgt : Nat) (d : decode cc pc = .ok (.ifCond .ne off, 3)) (ht : (pc : Int) + off = (tgt : Int)) {u v : τ} (kt : b = true → XI p l e R s m args below meth c D A nL cells slots Qr K u tgt L st ws) (kf : b = false → XI p l e R s m args below meth c D A nL cells slots Qr K v (pc + 3) L st ws) : XI p l e R s m args below meth c D A nL cells slots Qr K (if b = true then u else v) pc L (.int (b2i b) :: st) ws := by
  intro H locs ls hP hD hS hL
  cases b with
  | true => exact lv_if_ne C.1.1 C.1.2.1 d ht (fun h => (kt rfl H locs ls hP hD hS hL)) (fun h => absurd h (by decide))
  | false => exact lv_if_ne C.1.1 C.1.2.1 d ht (fun h => absurd h (by decide)) (fun h => (kf rfl H locs ls hP hD hS hL))
theorem x_split {φ : Prop} [hd : Decidable φ] {a b : τ} (kt : φ → XI p l e R s m args below meth c D A nL cells slots Qr K a pc L st ws) (kf : ¬ φ → XI p l e R s m args below meth c D A nL cells slots Qr K b pc L st ws) : XI p l e R s m args below meth c D A nL cells slots Qr K (if φ then a else b) pc L st ws := by
  by_cases h : φ
  · rw [if_pos h]; exact kt h
  · rw [if_neg h]; exact kf h
theorem x_focus {β : Type} (K2 : β → τ) (b : β) (k : XI p l e R s m args below meth c D A nL cells slots Qr (fun z => K (K2 z)) b pc L st ws) : XI p l e R s m args below meth c D A nL cells slots Qr K (K2 b) pc L st ws := k
theorem x_loop {α : Type} (f : Nat → α → α) (K2 : α → τ) (N : Nat) (pcH : Nat) (LH : Nat → α → List (Nat × Value)) (sH : Nat → α → List Value) (wH : Nat → α → va_W)
    (hx : ∀ a : α, XI p l e R s m args below meth c D A nL cells slots Qr K (K2 a) pcH (LH N a) (sH N a) (wH N a))
    (hs : ∀ (k : Nat) (a : α) (K3 : α → τ), k < N → (∀ a' : α, XI p l e R s m args below meth c D A nL cells slots Qr (fun z => K (K3 z)) a' pcH (LH (k + 1) a') (sH (k + 1) a') (wH (k + 1) a')) → XI p l e R s m args below meth c D A nL cells slots Qr (fun z => K (K3 z)) (f k a) pcH (LH k a) (sH k a) (wH k a)) :
    ∀ (n k : Nat) (a : α), k + n = N → XI p l e R s m args below meth c D A nL cells slots Qr K (K2 (up f k n a)) pcH (LH k a) (sH k a) (wH k a) := by
  intro n
  induction n with
  | zero =>
    intro k a h
    have h1 : k = N := h
    subst h1
    exact hx a
  | succ n ih =>
    intro k a h
    exact hs k a (fun z => K2 (up f (k + 1) n z)) (by omega) (fun a' => ih (k + 1) a' (by omega))
theorem x_loopR {α : Type} (f : Nat → α → (α → τ) → τ) (ex : α → τ) (N : Nat) (pcH : Nat) (LH : Nat → α → List (Nat × Value)) (sH : Nat → α → List Value) (wH : Nat → α → va_W)
    (hx : ∀ a : α, XI p l e R s m args below meth c D A nL cells slots Qr K (ex a) pcH (LH N a) (sH N a) (wH N a))
    (hs : ∀ (k : Nat) (a : α) (g : α → τ), k < N → (∀ a' : α, XI p l e R s m args below meth c D A nL cells slots Qr K (g a') pcH (LH (k + 1) a') (sH (k + 1) a') (wH (k + 1) a')) → XI p l e R s m args below meth c D A nL cells slots Qr K (f k a g) pcH (LH k a) (sH k a) (wH k a)) :
    ∀ (n k : Nat) (a : α), k + n = N → XI p l e R s m args below meth c D A nL cells slots Qr K (upr f ex k n a) pcH (LH k a) (sH k a) (wH k a) := by
  intro n
  induction n with
  | zero =>
    intro k a h
    have h1 : k = N := h
    subst h1
    exact hx a
  | succ n ih =>
    intro k a h
    exact hs k a (fun a' => upr f ex (k + 1) n a') (by omega) (fun a' => ih (k + 1) a' (by omega))
theorem x_get (C : XC own cc nL ret nm tys D A p s m args meth c) {Cn : String} {T : u_T} {N ci : Nat} {ref : String} {index : Nat} {a : Nat} {fs : List Value} (hin : ∀ w ∈ u_ws Cn T N, w ∈ WA) (k0 : Nat) (hl : Cond.fieldLink own index ref (T k0).2.1 (T k0).2.2.1 ∈ WA) (q0 : Nat) (he : ws[q0]? = some (a, .inr (ci, fs))) (hc : vwCl[ci]? = some (Cn, T, N)) (hk : k0 < N) (hsame : (T k0).1 = ref) {v : Value} (hv : fs[k0]? = some v) (d : decode cc pc = .ok (.getfield index, 3)) (k : XI p l e R s m args below meth c D A nL cells slots Qr K t (pc + 3) L (v :: st) ws) : XI p l e R s m args below meth c D A nL cells slots Qr K t pc L (.ref a :: st) ws := fun H locs ls hP hD hS hL => va_get (D := D) C.1.1 C.1.2.1 C.1.2.2.2.2 hin C.1.2.2.2.1 C.2.1 hP q0 he hc k0 hk (C.1.2.2.2.2 _ hl) (fun x h => by rw [← hsame]; exact h) hv d (k H locs ls hP hD hS hL)
theorem x_put (C : XC own cc nL ret nm tys D A p s m args meth c) {Cn : String} {T : u_T} {N ci : Nat} {ref : String} {index : Nat} {a : Nat} {fs : List Value} {ws' : va_W} (hin : ∀ w ∈ u_ws Cn T N, w ∈ WA) (ty0 : Nat → FieldType) (hty : ∀ k, k < N → parseFieldDescriptor (T k).2.2.1 = some (ty0 k)) (hnm : ∀ a, a < N → ∀ b, b < N → a ≠ b → (T a).2.1 ≠ (T b).2.1) (k0 : Nat) (hl : Cond.fieldLink own index ref (T k0).2.1 (T k0).2.2.1 ∈ WA) (q0 : Nat) (he : ws[q0]? = some (a, .inr (ci, fs))) (hc : vwCl[ci]? = some (Cn, T, N)) (hk : k0 < N) (hsame : (T k0).1 = ref) (hfin : (T k0).2.2.2 = false) {v : Value} (hn : narrow (ty0 k0) v = v) (hfit : fits (ty0 k0) v = true) (hlen : k0 < fs.length) (d : decode cc pc = .ok (.putfield index, 3)) (hw : ws.set q0 (a, .inr (ci, fs.set k0 v)) = ws') (k : XI p l e R s m args below meth c D A nL cells slots Qr K t (pc + 3) L st ws') : XI p l e R s m args below meth c D A nL cells slots Qr K t pc L (v :: .ref a :: st) ws := fun H locs ls hP hD hS hL => va_put (D := D) (ty := ty0 k0) C.1.1 C.1.2.1 C.1.2.2.2.2 hin ty0 hty hnm C.1.2.2.2.1 C.2.1 hP hD hS q0 he hc k0 hk (C.1.2.2.2.2 _ hl) (fun x h => by rw [← hsame]; exact h) hfin (hty k0 hk) hn hfit hlen d (fun H locs hP hD hS => k H locs ls (hw ▸ hP) (hw ▸ hD) hS hL)
theorem x_putF (C : XC own cc nL ret nm tys D A p s m args meth c) {Cn : String} {T : u_T} {N ci : Nat} {ref : String} {index : Nat} {a : Nat} {fs : List Value} {ws' : va_W} (hin : ∀ w ∈ u_ws Cn T N, w ∈ WA) (ty0 : Nat → FieldType) (hty : ∀ k, k < N → parseFieldDescriptor (T k).2.2.1 = some (ty0 k)) (hnm : ∀ a, a < N → ∀ b, b < N → a ≠ b → (T a).2.1 ≠ (T b).2.1) (k0 : Nat) (hl : Cond.fieldLink own index ref (T k0).2.1 (T k0).2.2.1 ∈ WA) (q0 : Nat) (he : ws[q0]? = some (a, .inr (ci, fs))) (hc : vwCl[ci]? = some (Cn, T, N)) (hk : k0 < N) (hsame : (T k0).1 = ref) (hfin : (T k0).2.2.2 = true) (hini : nm = "<init>") (hdecl : (T k0).1 = own) {v : Value} (hn : narrow (ty0 k0) v = v) (hfit : fits (ty0 k0) v = true) (hlen : k0 < fs.length) (d : decode cc pc = .ok (.putfield index, 3)) (hw : ws.set q0 (a, .inr (ci, fs.set k0 v)) = ws') (k : XI p l e R s m args below meth c D A nL cells slots Qr K t (pc + 3) L st ws') : XI p l e R s m args below meth c D A nL cells slots Qr K t pc L (v :: .ref a :: st) ws := fun H locs ls hP hD hS hL => va_putF (D := D) (ty := ty0 k0) C.1.1 C.1.2.1 C.1.2.2.2.2 hin ty0 hty hnm C.1.2.2.2.1 C.2.1 hP hD hS q0 he hc k0 hk (C.1.2.2.2.2 _ hl) (fun x h => by rw [← hsame]; exact h) hfin (C.2.2.2.2.2.2.2.trans hini) hdecl (hty k0 hk) hn hfit hlen d (fun H locs hP hD hS => k H locs ls (hw ▸ hP) (hw ▸ hD) hS hL)
theorem x_iald (C : XC own cc nL ret nm tys D A p s m args meth c) {a n : Nat} {cA : ClassId} {f : Nat → Int32} {i : Int32} (q0 t0 : Nat) (ha : ws[q0]? = some (a, .inl (cA, n, .inl f))) (ht : tys[t0]? = some (cA, .int)) (j : Nat) (hi : i = nI j) (hj : j < n) (hn : n < 2 ^ 31) (z : Int32) (hz : f j = z) (d : decode cc pc = .ok (.iaload, 1)) (k : XI p l e R s m args below meth c D A nL cells slots Qr K t (pc + 1) L (.int z :: st) ws) : XI p l e R s m args below meth c D A nL cells slots Qr K t pc L (.int i :: .ref a :: st) ws := fun H locs ls hP hD hS hL => va_iald (D := D) C.1.1 C.1.2.1 C.2.1 hP q0 t0 ha ht (by rw [hi]; exact vp_in_nI hj hn) d (by rw [hi, nI_clamp (Nat.lt_trans hj hn), hz]; exact k H locs ls hP hD hS hL)
theorem x_zald (C : XC own cc nL ret nm tys D A p s m args meth c) {a n : Nat} {cA : ClassId} {f : Nat → Int32} {i : Int32} (q0 t0 : Nat) (ha : ws[q0]? = some (a, .inl (cA, n, .inl f))) (ht : tys[t0]? = some (cA, .boolean)) (j : Nat) (hi : i = nI j) (hj : j < n) (hn : n < 2 ^ 31) (z : Int32) (hz : f j = z) (d : decode cc pc = .ok (.baload, 1)) (k : XI p l e R s m args below meth c D A nL cells slots Qr K t (pc + 1) L (.int z :: st) ws) : XI p l e R s m args below meth c D A nL cells slots Qr K t pc L (.int i :: .ref a :: st) ws := fun H locs ls hP hD hS hL => va_zald (D := D) C.1.1 C.1.2.1 C.2.1 hP q0 t0 ha ht (by rw [hi]; exact vp_in_nI hj hn) d (by rw [hi, nI_clamp (Nat.lt_trans hj hn), hz]; exact k H locs ls hP hD hS hL)
theorem x_iast (C : XC own cc nL ret nm tys D A p s m args meth c) {a n : Nat} {cA : ClassId} {f : Nat → Int32} {i : Int32} {x : Int32} {ws' : va_W} (q0 t0 : Nat) (ha : ws[q0]? = some (a, .inl (cA, n, .inl f))) (ht : tys[t0]? = some (cA, .int)) (j : Nat) (hi : i = nI j) (hj : j < n) (hn : n < 2 ^ 31) (d : decode cc pc = .ok (.iastore, 1)) (hw : ws.set q0 (a, .inl (cA, n, .inl (upd f j x))) = ws') (k : XI p l e R s m args below meth c D A nL cells slots Qr K t (pc + 1) L st ws') : XI p l e R s m args below meth c D A nL cells slots Qr K t pc L (.int x :: .int i :: .ref a :: st) ws := fun H locs ls hP hD hS hL => va_iast (D := D) C.1.1 C.1.2.1 C.2.1 hP hD hS q0 t0 ha ht (by rw [hi]; exact vp_in_nI hj hn) d (fun H locs hP hD hS => by rw [hi, nI_clamp (Nat.lt_trans hj hn), hw] at hP hD; exact k H locs ls hP hD hS hL)
theorem x_zast (C : XC own cc nL ret nm tys D A p s m args meth c) {a n : Nat} {cA : ClassId} {f : Nat → Int32} {i : Int32} {x : Int32} {ws' : va_W} (q0 t0 : Nat) (ha : ws[q0]? = some (a, .inl (cA, n, .inl f))) (ht : tys[t0]? = some (cA, .boolean)) (j : Nat) (hi : i = nI j) (hj : j < n) (hn : n < 2 ^ 31) (hz : vp_nar .boolean x = x) (d : decode cc pc = .ok (.bastore, 1)) (hw : ws.set q0 (a, .inl (cA, n, .inl (upd f j x))) = ws') (k : XI p l e R s m args below meth c D A nL cells slots Qr K t (pc + 1) L st ws') : XI p l e R s m args below meth c D A nL cells slots Qr K t pc L (.int x :: .int i :: .ref a :: st) ws := fun H locs ls hP hD hS hL => va_zast (D := D) C.1.1 C.1.2.1 C.2.1 hP hD hS q0 t0 ha ht (by rw [hi]; exact vp_in_nI hj hn) d (fun H locs hP hD hS => by rw [hi, nI_clamp (Nat.lt_trans hj hn), hz, hw] at hP hD; exact k H locs ls hP hD hS hL)
theorem x_aald (C : XC own cc nL ret nm tys D A p s m args meth c) {a n : Nat} {cA : ClassId} {Cn : String} {f : Nat → Option Nat} {i : Int32} {v : Nat} (q0 t0 : Nat) (ha : ws[q0]? = some (a, .inl (cA, n, .inr (.inr (.inr (.inr f)))))) (ht : tys[t0]? = some (cA, .object Cn)) (j : Nat) (hi : i = nI j) (hj : j < n) (hn : n < 2 ^ 31) (hv : f j = some v) (d : decode cc pc = .ok (.aaload, 1)) (k : XI p l e R s m args below meth c D A nL cells slots Qr K t (pc + 1) L (.ref v :: st) ws) : XI p l e R s m args below meth c D A nL cells slots Qr K t pc L (.int i :: .ref a :: st) ws := fun H locs ls hP hD hS hL => va_aldq (D := D) C.1.1 C.1.2.1 C.2.1 hP q0 t0 ha ht (by rw [hi]; exact vp_in_nI hj hn) d (by rw [hi, nI_clamp (Nat.lt_trans hj hn), hv]; exact k H locs ls hP hD hS hL)
theorem x_stg (C : XC own cc nL ret nm tys D A p s m args meth c) (hown : own = RX0) (d : decode cc pc = .ok (.getstatic 63, 3)) (k : ∀ tt : Nat, va_T .int tt 8 (fun j => .int (stg j)) A s s.heap → XI p l e R s m args below meth c D A nL cells slots Qr K t (pc + 3) L (.ref tt :: st) ws) : XI p l e R s m args below meth c D A nL cells slots Qr K t pc L st ws := by
  subst hown
  obtain ⟨tt, hZ, hT⟩ := C.2.2.2.2.1
  exact fun H locs ls hP hD hS hL => va_getsN C.1.1 C.1.2.1 hZ hS C.1.2.2.2.1 (va_Nw.use rfl C.2.2.2.1.2.2.2.2.2.2.2.1) (fun _ h => h) d (k tt hT H locs ls hP hD hS hL)
theorem x_tald (C : XC own cc nL ret nm tys D A p s m args meth c) {tt : Nat} {i : Int32} (hT : va_T .int tt 8 (fun j => .int (stg j)) A s s.heap) (j : Nat) (hi : i = nI j) (hj : j < 8) (d : decode cc pc = .ok (.iaload, 1)) (k : XI p l e R s m args below meth c D A nL cells slots Qr K t (pc + 1) L (.int (stg j) :: st) ws) : XI p l e R s m args below meth c D A nL cells slots Qr K t pc L (.int i :: .ref tt :: st) ws := fun H locs ls hP hD hS hL => va_ti C.1.1 C.1.2.1 hT hS (by rw [hi]; exact vp_in_nI hj (by decide)) (by rw [hi, nI_clamp (Nat.lt_trans hj (by decide))]) d (k H locs ls hP hD hS hL)
theorem x_tsI (C : XC own cc nL ret nm tys D A p s m args meth c) {dflt lo hi : Int} {offs : Array Int} {len : Nat} {x : Int32} {off : Int} (v : Int) (tgt : Nat) (d : decode cc pc = .ok (.tableswitch dflt lo hi offs, len)) (hx : x.toInt = v) (h1 : ¬ v < lo) (h2 : ¬ hi < v) (ho : offs[(v - lo).toNat]? = some off) (ht : (pc : Int) + off = (tgt : Int)) (k : XI p l e R s m args below meth c D A nL cells slots Qr K t tgt L st ws) : XI p l e R s m args below meth c D A nL cells slots Qr K t pc L (.int x :: st) ws := fun H locs ls hP hD hS hL => lv_tableIn C.1.1 C.1.2.1 d (by rw [hx]; exact h1) (by rw [hx]; exact h2) (by rw [hx]; exact ho) ht (k H locs ls hP hD hS hL)
theorem x_tsO (C : XC own cc nL ret nm tys D A p s m args meth c) {dflt lo hi : Int} {offs : Array Int} {len : Nat} {x : Int32} (tgt : Nat) (d : decode cc pc = .ok (.tableswitch dflt lo hi offs, len)) (h : x.toInt < lo ∨ hi < x.toInt) (ht : (pc : Int) + dflt = (tgt : Int)) (k : XI p l e R s m args below meth c D A nL cells slots Qr K t tgt L st ws) : XI p l e R s m args below meth c D A nL cells slots Qr K t pc L (.int x :: st) ws := fun H locs ls hP hD hS hL => lv_tableOut C.1.1 C.1.2.1 d h ht (k H locs ls hP hD hS hL)
theorem i_ne {x y : Int32} {v : Int} (h : ¬ x = y) (hy : y.toInt = v) : ¬ x.toInt = v := fun z => h (Int32.toInt_inj.mp (z.trans hy.symm))
theorem i_eq {x y : Int32} {v : Int} (h : x = y) (hy : y.toInt = v) : x.toInt = v := by rw [h]; exact hy
theorem x_mmin (C : XC own cc nL ret nm tys D A p s m args meth c) {index : Nat} {x y : Int32} (h1 : Cond.methodLink own index Lib.Math.min.name ∈ WA) (h2 : Cond.static Lib.Math.min.name ∈ WA) (h3 : Cond.initialized "java/lang/Math" ∈ WA) (h4 : Cond.code Lib.Math.min.name Lib.Math.min.code 2 (some .int) ∈ WA) (hf : 1 ≤ R.frames) (hlo : (st.map fun v => v.category).sum + 13 ≤ R.locals) (hc : cells ≤ R.cells) (hs : slots ≤ R.slots) (d : decode cc pc = .ok (.invokestatic index, 3)) (k : XI p l e R s m args below meth c D A nL cells slots Qr K t (pc + 3) L (.int (imn x y) :: st) ws) : XI p l e R s m args below meth c D A nL cells slots Qr K t pc L (.int y :: .int x :: st) ws := fun H locs ls hP hD hS hL => va_mmin C.1.1 C.1.2.1 (C.1.2.2.1.trans hL.1.symm) C.1.2.2.2.1 (C.1.2.2.2.2 _ h1) (C.1.2.2.2.2 _ h2) (C.1.2.2.2.2 _ h3) (C.1.2.2.2.2 _ h4) hf hlo hc hs d (k H locs ls hP hD hS hL)
theorem x_mmax (C : XC own cc nL ret nm tys D A p s m args meth c) {index : Nat} {x y : Int32} (h1 : Cond.methodLink own index Lib.Math.max.name ∈ WA) (h2 : Cond.static Lib.Math.max.name ∈ WA) (h3 : Cond.initialized "java/lang/Math" ∈ WA) (h4 : Cond.code Lib.Math.max.name Lib.Math.max.code 2 (some .int) ∈ WA) (hf : 1 ≤ R.frames) (hlo : (st.map fun v => v.category).sum + 13 ≤ R.locals) (hc : cells ≤ R.cells) (hs : slots ≤ R.slots) (d : decode cc pc = .ok (.invokestatic index, 3)) (k : XI p l e R s m args below meth c D A nL cells slots Qr K t (pc + 3) L (.int (imx x y) :: st) ws) : XI p l e R s m args below meth c D A nL cells slots Qr K t pc L (.int y :: .int x :: st) ws := fun H locs ls hP hD hS hL => va_mmax C.1.1 C.1.2.1 (C.1.2.2.1.trans hL.1.symm) C.1.2.2.2.1 (C.1.2.2.2.2 _ h1) (C.1.2.2.2.2 _ h2) (C.1.2.2.2.2 _ h3) (C.1.2.2.2.2 _ h4) hf hlo hc hs d (k H locs ls hP hD hS hL)
theorem x_obj (C : XC own cc nL ret nm tys D A p s m args meth c) {index a : Nat} (h1 : Cond.methodLink own index Lib.objectInit ∈ WA) (h2 : Cond.instanceMethod Lib.objectInit ∈ WA) (h3 : Cond.code Lib.objectInit ⟨#[0xb1]⟩ 1 none ∈ WA) (hf : 1 ≤ R.frames) (hlo : (st.map fun v => v.category).sum + 12 ≤ R.locals) (d : decode cc pc = .ok (.invokespecial index, 3)) (k : XI p l e R s m args below meth c D A nL cells slots Qr K t (pc + 3) L st ws) : XI p l e R s m args below meth c D A nL cells slots Qr K t pc L (.ref a :: st) ws := fun H locs ls hP hD hS hL => W.objInit (rest := st) C.1.1 C.1.2.1 C.1.2.2.2.1 (C.1.2.2.2.2 _ h1) (C.1.2.2.2.2 _ h2) (C.1.2.2.2.2 _ h3) rfl (hL.1.trans C.1.2.2.1.symm) rfl d hf (by show 2 * 0 + _ + 12 ≤ _; omega) (k H locs ls hP hD hS hL)
theorem x_iret {rf : Ω → Int32} {wf : Ω → va_W} {x : Int32} (C : XC own cc nL ret nm tys D A p s m args meth c) (hr : ret = some .int) (d : decode cc pc = .ok (.ireturn, 1)) (h1 : rf (K t) = x) (h2 : wf (K t) = ws) : XI p l e R s m args below meth c D A nL 0 0 (QI rf wf below args s D A tys) K t pc L [.int x] ws := by
  intro H locs ls hP hD hS hL
  subst h2
  exact W.iret (hlocks := C.2.2.2.2.2.2.1) C.1.1 C.1.2.1 (C.2.2.2.2.2.1.trans hr) (fun t' ht hW => ⟨⟨x, (), rfl, h1.symm, by rw [ht]; exact hP, va_K.moved hW.alike C.2.1, hD⟩, hS.F ht⟩) hS.2.2 d
theorem x_zret {rf : Ω → Int32} {wf : Ω → va_W} {x : Int32} (C : XC own cc nL ret nm tys D A p s m args meth c) (hr : ret = some .boolean) (hz : narrow .boolean (.int x) = .int x) (d : decode cc pc = .ok (.ireturn, 1)) (h1 : rf (K t) = x) (h2 : wf (K t) = ws) : XI p l e R s m args below meth c D A nL 0 0 (QI rf wf below args s D A tys) K t pc L [.int x] ws := by
  intro H locs ls hP hD hS hL
  subst h2
  exact W.zret (hlocks := C.2.2.2.2.2.2.1) C.1.1 C.1.2.1 (C.2.2.2.2.2.1.trans hr) hz (fun t' ht hW => ⟨⟨x, (), rfl, h1.symm, by rw [ht]; exact hP, va_K.moved hW.alike C.2.1, hD⟩, hS.F ht⟩) hS.2.2 d
theorem x_vret {wf : Ω → va_W} (C : XC own cc nL ret nm tys D A p s m args meth c) (hr : ret = none) (d : decode cc pc = .ok (.return_, 1)) (h2 : wf (K t) = ws) : XI p l e R s m args below meth c D A nL 0 0 (QV wf below args s D A tys) K t pc L [] ws := by
  intro H locs ls hP hD hS hL
  subst h2
  exact W.vret (hlocks := C.2.2.2.2.2.2.1) C.1.1 C.1.2.1 (C.2.2.2.2.2.1.trans hr) (fun t' ht hW => ⟨⟨(), rfl, trivial, by rw [ht]; exact hP, va_K.moved hW.alike C.2.1, hD⟩, hS.F ht⟩) hS.2.2 d
theorem x_ofW {y : MethodName} {ws ws' : List Cond} {rm : Room} {Pc : Array Value → State → Prop} {Qc : Array Value → State → Outcome → State → Prop} {mc ms : Nat} {free : Addr → Prop} {cc : ByteArray} {maxL : Nat} {ret : Option FieldType}
    (hy : plainFor y = true) (hw : ws = Cond.code y cc maxL ret :: ws')
    (body : ∀ p e s m args below meth c s₁, BodyLoose p l y (headSpec ws rm) cc maxL ret e s m args below meth c s₁ → c.maxLocals = maxL → Pc args s →
      W p l e (headSpec ws rm).room s m args below meth c s.heap [] 0 0 (MQ below Qc args s mc ms free) (entryFrame m args maxL)) : Met l y ws rm Pc Qc mc ms free := by
  refine MetFree.of_bodySF (code := cc) (maxLocals := maxL) (ret := ret) hy ?_ ?_
  · intro args s m h hn
    obtain ⟨meth, c, h1, h2, h3, h4, h5, h6, -, -⟩ := Cond.code_spec hn (atoms_spec (ws := ws) h _ (by rw [hw]; exact List.mem_cons_self))
    exact ⟨meth, c, h1, h2, h3, h4, h5, h6⟩
  · intro p e s m args below meth c s₁ B hml hP _
    have hh0 : s₁.heap = s.heap := by rw [B.state]; rfl
    obtain ⟨t, a1, o, b1, b2, b3⟩ := body p e s m args below meth c s₁ B hml hP s₁ hh0 (Stand.of_body B)
    exact ⟨t, o, a1, b1, b2, ⟨b3.1, b3.2⟩⟩
theorem ct_i {rf : Ω → Int32} {wf : Ω → va_W} {y : MethodName} {rm : Room} {As : List Value} {w1 : va_W} {L0 : List (Nat × Value)} (hy : plainFor y = true) (hcls : y.cls = own) (hnm : y.name = nm) (hlen : (lg_sl As).length ≤ nL) (hL0 : lv_args 0 As = L0)
    (body : ∀ (p : Program) (e : Env) (s : State) (m : MethodId) (args : Array Value) (below : List Frame) (meth : Method) (c : Code) (A : Nat → Prop), XC own cc nL ret nm tys D A p s m args meth c → XI p l e rm s m args below meth c D A nL 0 0 (QI rf wf below args s D A tys) K t 0 L0 [] w1) : CTi l D tys y (Cond.code y cc nL ret :: WA) rm As w1 (rf (K t)) (wf (K t)) := by
  intro sz
  subst hcls; subst hnm
  refine x_ofW (cc := cc) (maxL := nL) (ret := ret) hy rfl ?_
  intro p e s m args below meth c s₁ B hml hv
  obtain ⟨rfl, hsz, hP, hK, hD0, hN, hZ⟩ := hv
  have hts : ∀ w ∈ WA, w.before As.toArray s = true := fun w hw => atoms_spec (ws := Cond.code y cc nL ret :: WA) B.pre w (List.mem_cons_of_mem _ hw)
  have hown : s.vm.findClass y.cls = some m.cls := findClass_of_methodNamed B.named
  have hin : meth.name = y.name := (name_of_methodNamed B.named B.method).1
  subst hsz
  have hD := hD0.self (sz := s.heap.size)
  generalize hAe : va_A w1 s.heap.size = A at hD hZ ⊢
  have hA : ∀ q : Nat, s.heap.size ≤ q → A q := fun q h => by rw [← hAe]; exact Or.inr h
  have hl := lv_entry As (n := nL) hlen
  rw [hL0] at hl
  rw [lg_entry_eq]
  exact body p e s m As.toArray below meth c A ⟨⟨B.exec, B.bytes, hml, hown, hts⟩, hK, hA, hN, hZ, B.returns, B.notSynchronized, hin⟩ s.heap [] _ hP hD va_S.rf hl
theorem ct_v {wf : Ω → va_W} {y : MethodName} {rm : Room} {As : List Value} {w1 : va_W} {L0 : List (Nat × Value)} (hy : plainFor y = true) (hcls : y.cls = own) (hnm : y.name = nm) (hlen : (lg_sl As).length ≤ nL) (hL0 : lv_args 0 As = L0)
    (body : ∀ (p : Program) (e : Env) (s : State) (m : MethodId) (args : Array Value) (below : List Frame) (meth : Method) (c : Code) (A : Nat → Prop), XC own cc nL ret nm tys D A p s m args meth c → XI p l e rm s m args below meth c D A nL 0 0 (QV wf below args s D A tys) K t 0 L0 [] w1) : CTv l D tys y (Cond.code y cc nL ret :: WA) rm As w1 (wf (K t)) := by
  intro sz
  subst hcls; subst hnm
  refine x_ofW (cc := cc) (maxL := nL) (ret := ret) hy rfl ?_
  intro p e s m args below meth c s₁ B hml hv
  obtain ⟨rfl, hsz, hP, hK, hD0, hN, hZ⟩ := hv
  have hts : ∀ w ∈ WA, w.before As.toArray s = true := fun w hw => atoms_spec (ws := Cond.code y cc nL ret :: WA) B.pre w (List.mem_cons_of_mem _ hw)
  have hown : s.vm.findClass y.cls = some m.cls := findClass_of_methodNamed B.named
  have hin : meth.name = y.name := (name_of_methodNamed B.named B.method).1
  subst hsz
  have hD := hD0.self (sz := s.heap.size)
  generalize hAe : va_A w1 s.heap.size = A at hD hZ ⊢
  have hA : ∀ q : Nat, s.heap.size ≤ q → A q := fun q h => by rw [← hAe]; exact Or.inr h
  have hl := lv_entry As (n := nL) hlen
  rw [hL0] at hl
  rw [lg_entry_eq]
  exact body p e s m As.toArray below meth c A ⟨⟨B.exec, B.bytes, hml, hown, hts⟩, hK, hA, hN, hZ, B.returns, B.notSynchronized, hin⟩ s.heap [] _ hP hD va_S.rf hl
/-- a constructor's contract: with these arguments, from the world w1, it makes mc cells of ms slots; the world is w2 at some addresses, the object's first -/
def CTn (l : Launch) (D : va_G) (tys : List (ClassId × FieldType)) (y : MethodName) (wsY : List Cond) (rm : Room) (As : List Value) (w1 : va_W) (h : Nat) (w2 : (Nat → Nat) → va_W) (mc ms : Nat) : Prop := ∀ sz : Nat, Met l y wsY rm (va_Pc As (PB D tys w1 sz)) (va_Qv (fun q : Nat → Nat => q 0 = h) (fun q t => va_P D vwCl (w2 q) t.heap ∧ va_K D vwCl tys t ∧ va_D (va_A w1 sz) (w2 q)) (va_A w1 sz)) mc ms (va_A w1 sz)
def QN {Ω : Type} (h : Nat) (wf : (Nat → Nat) → Ω → va_W) (mc ms : Nat) (below : List Frame) (args : Array Value) (s : State) (D : va_G) (A : Nat → Prop) (tys : List (ClassId × FieldType)) (o : Ω) : State → Prop := MQ below (va_Qv (fun q : Nat → Nat => q 0 = h) (fun q t => va_P D vwCl (wf q o) t.heap ∧ va_K D vwCl tys t ∧ va_D A (wf q o)) A) args s mc ms A
def mkq (l : List Nat) : Nat → Nat := fun i => l.getD i 0
theorem fs_of {ty : Nat → FieldType} {N : Nat} {fs : List Value} (h : (List.range N).map (fun j => defaultValue (ty j)) = fs) : ∀ j, j < N → defaultValue (ty j) = vp_V fs j := by
  intro j hj
  subst h
  simp [vp_V, hj]
theorem ct_n {y : MethodName} {rm : Room} {As : List Value} {w1 : va_W} {L0 : List (Nat × Value)} {h : Nat} {wf : (Nat → Nat) → Ω → va_W} {mc ms : Nat} (hy : plainFor y = true) (hcls : y.cls = own) (hnm : y.name = nm) (hlen : (lg_sl As).length ≤ nL) (hL0 : lv_args 0 As = L0)
    (body : ∀ (p : Program) (e : Env) (s : State) (m : MethodId) (args : Array Value) (below : List Frame) (meth : Method) (c : Code) (A : Nat → Prop), XC own cc nL ret nm tys D A p s m args meth c → XI p l e rm s m args below meth c D A nL 0 0 (QN h wf mc ms below args s D A tys) K t 0 L0 [] w1) : CTn l D tys y (Cond.code y cc nL ret :: WA) rm As w1 h (fun q => wf q (K t)) mc ms := by
  intro sz
  subst hcls; subst hnm
  refine x_ofW (cc := cc) (maxL := nL) (ret := ret) hy rfl ?_
  intro p e s m args below meth c s₁ B hml hv
  obtain ⟨rfl, hsz, hP, hK, hD0, hN, hZ⟩ := hv
  have hts : ∀ w ∈ WA, w.before As.toArray s = true := fun w hw => atoms_spec (ws := Cond.code y cc nL ret :: WA) B.pre w (List.mem_cons_of_mem _ hw)
  have hown : s.vm.findClass y.cls = some m.cls := findClass_of_methodNamed B.named
  have hin : meth.name = y.name := (name_of_methodNamed B.named B.method).1
  subst hsz
  have hD := hD0.self (sz := s.heap.size)
  generalize hAe : va_A w1 s.heap.size = A at hD hZ ⊢
  have hA : ∀ q : Nat, s.heap.size ≤ q → A q := fun q h => by rw [← hAe]; exact Or.inr h
  have hl := lv_entry As (n := nL) hlen
  rw [hL0] at hl
  rw [lg_entry_eq]
  exact body p e s m As.toArray below meth c A ⟨⟨B.exec, B.bytes, hml, hown, hts⟩, hK, hA, hN, hZ, B.returns, B.notSynchronized, hin⟩ s.heap [] _ hP hD va_S.rf hl
/-- these are the cells at these places -/
def at_ (ws : va_W) : List Nat → va_W → Prop
  | [], [] => True
  | i :: is, w :: v => ws[i]? = some w ∧ at_ ws is v
  | _, _ => False
theorem at_map {ws : va_W} : ∀ {is : List Nat} {v : va_W}, at_ ws is v → is.map (fun i => ws[i]?) = v.map some
  | [], [], _ => rfl
  | i :: is, w :: v, h => by rw [List.map_cons, List.map_cons, h.1, at_map h.2]
  | [], _ :: _, h => h.elim
  | _ :: _, [], h => h.elim
/-- each cell comes from one of two worlds -/
def at2 (ws w2 : va_W) : List (Nat ⊕ Nat) → va_W → Prop
  | [], [] => True
  | .inl i :: is, w :: v => ws[i]? = some w ∧ at2 ws w2 is v
  | .inr i :: is, w :: v => w2[i]? = some w ∧ at2 ws w2 is v
  | _, _ => False
theorem at2_get {ws w2 : va_W} : ∀ {is : List (Nat ⊕ Nat)} {v : va_W}, at2 ws w2 is v → ∀ (k : Nat) (q : Nat × va_E), v[k]? = some q → (∃ i : Nat, .inl i ∈ is ∧ ws[i]? = some q) ∨ ∃ i : Nat, w2[i]? = some q
  | [], [], _, k, q, h => by simp at h
  | .inl i :: is, w :: v, h, k, q, hq => by
    cases k with
    | zero => cases hq; exact Or.inl ⟨i, List.mem_cons_self, h.1⟩
    | succ k => exact (at2_get h.2 k q hq).imp (fun ⟨j, a, b⟩ => ⟨j, List.mem_cons_of_mem _ a, b⟩) id
  | .inr i :: is, w :: v, h, k, q, hq => by
    cases k with
    | zero => cases hq; exact Or.inr ⟨i, h.1⟩
    | succ k => exact (at2_get h.2 k q hq).imp (fun ⟨j, a, b⟩ => ⟨j, List.mem_cons_of_mem _ a, b⟩) id
  | [], _ :: _, h, _, _, _ => h.elim
  | .inl _ :: _, [], h, _, _, _ => h.elim
  | .inr _ :: _, [], h, _, _, _ => h.elim
/-- places of the callee's cells, and of those that stay -/
def apart (isC : List Nat) (src : List (Nat ⊕ Nat)) : Bool := src.all (fun s => match s with | .inl i => !isC.contains i | .inr _ => true)
theorem apart_of {isC : List Nat} {src : List (Nat ⊕ Nat)} (h : apart isC src = true) : ∀ i ∈ isC, .inl i ∉ src := fun i hi hs => by
  have h1 := List.all_eq_true.mp h _ hs
  simp only [Bool.not_eq_true', List.contains_eq_mem, decide_eq_false_iff_not] at h1
  exact h1 hi
/-- the same addresses -/
def sameA : va_W → va_W → Prop
  | [], [] => True
  | p :: a, q :: b => p.1 = q.1 ∧ sameA a b
  | _, _ => False
theorem sameA_get : ∀ {a b : va_W}, sameA a b → ∀ (k : Nat) (q : Nat × va_E), a[k]? = some q → ∃ p, b[k]? = some p ∧ p.1 = q.1
  | [], [], _, k, q, h => by simp at h
  | p :: a, q :: b, h, k, z, hz => by
    cases k with
    | zero => cases hz; exact ⟨q, rfl, h.1.symm⟩
    | succ k => exact sameA_get h.2 k z hz
  | [], _ :: _, h, _, _, _ => h.elim
  | _ :: _, [], h, _, _, _ => h.elim
theorem sameA_D {a b : va_W} {A : Nat → Prop} (h : sameA a b) (hD : va_D A b) : va_D A a := by
  refine ⟨fun i j p q hi hj e => ?_, fun k q hk => ?_⟩
  · obtain ⟨p1, a1, b1⟩ := sameA_get h i p hi
    obtain ⟨q1, a2, b2⟩ := sameA_get h j q hj
    exact hD.1 i j p1 q1 a1 a2 (by rw [b1, b2, e])
  · obtain ⟨p1, a1, b1⟩ := sameA_get h k q hk
    rw [← b1]
    exact hD.2 k p1 a1
/-- behind a call: the callee's cells as its contract says, all others as they were -/
theorem x_back {w1 w2 ws' : va_W} {H H1 : Heap} (isC : List Nat) (src : List (Nat ⊕ Nat)) (hC : at_ ws isC w1) (hsrc : at2 ws w2 src ws') (hdis : ∀ i ∈ isC, .inl i ∉ src) (hsa : sameA ws' ws)
    (hP : va_P D vwCl ws H) (hD : va_D A ws) (hk : ∀ q : Nat, q < H.size → ¬ va_A w1 H.size q → H1[q]? = H[q]?) (hP1 : va_P D vwCl w2 H1) : va_P D vwCl ws' H1 ∧ va_D A ws' := by
  refine ⟨fun k q hq => ?_, sameA_D hsa hD⟩
  rcases at2_get hsrc k q hq with ⟨i, hi, h2⟩ | ⟨i, h2⟩
  · have hl := (hP i q h2).lt
    refine (hP i q h2).kept (hk q.1 hl (fun h => ?_))
    rcases h with ⟨k2, e, h⟩ | h
    · have h1 : (isC.map (fun i => ws[i]?))[k2]? = some (some (q.1, e)) := by rw [at_map hC, List.getElem?_map, h]; rfl
      rw [List.getElem?_map] at h1
      cases hj : isC[k2]? with
      | none => rw [hj] at h1; cases h1
      | some j =>
        rw [hj] at h1
        have hij := hD.1 i j q (q.1, e) h2 (Option.some.inj h1) rfl
        subst hij
        exact hdis i (List.mem_of_getElem? hj) hi
    · omega
  · exact hP1 i q h2
theorem x_hF (C : XC own cc nL ret nm tys D A p s m args meth c) {w1 : va_W} {H : Heap} {locs : List Loc} (isC : List Nat) (hC : at_ ws isC w1) (hD : va_D A ws) (hS : va_S A s.heap H locs) : ∀ q, va_A w1 H.size q → A q := va_free hD hS C.2.2.1 isC (at_map hC)
theorem x_hFW (C : XC own cc nL ret nm tys D A p s m args meth c) {H : Heap} {locs : List Loc} (hD : va_D A ws) (hS : va_S A s.heap H locs) : ∀ q, va_A ws H.size q → A q := fun q h => h.elim (fun ⟨k, e, hk⟩ => hD.2 k (q, e) hk) (fun h => C.2.2.1 q (Nat.le_trans hS.1 h))
/-- what the callee asks of the world stands -/
theorem x_pre (C : XC own cc nL ret nm tys D A p s m args meth c) {w1 : va_W} {H : Heap} {locs : List Loc} (isC : List Nat) (hC : at_ ws isC w1) (hnC : va_nd isC = true) (hP : va_P D vwCl ws H) (hD : va_D A ws) (hS : va_S A s.heap H locs) (hF : ∀ q, va_A w1 H.size q → A q) (U : State) (hU : U.heap = H) (hW : s.WarmedH U.vm) : PB D tys w1 H.size U := by
  refine ⟨by rw [hU], by rw [hU]; exact hP.sub isC (fm_of (at_map hC)), va_K.moved hW.alike C.2.1, (hD.sub isC hnC (at_map hC)).weaken (fun _ _ _ _ => trivial), C.2.2.2.1.warm hW, ?_⟩
  rw [hU]
  exact ((C.2.2.2.2.1.kept (H1 := H) (fun a h1 h2 => hS.2.1 a h1 h2)).moved hW.alike).narrow hF
theorem x_preW (C : XC own cc nL ret nm tys D A p s m args meth c) {H : Heap} {locs : List Loc} (hP : va_P D vwCl ws H) (hD : va_D A ws) (hS : va_S A s.heap H locs) (hF : ∀ q, va_A ws H.size q → A q) (U : State) (hU : U.heap = H) (hW : s.WarmedH U.vm) : PB D tys ws H.size U := by
  refine ⟨by rw [hU], by rw [hU]; exact hP, va_K.moved hW.alike C.2.1, hD.weaken (fun _ _ _ _ => trivial), C.2.2.2.1.warm hW, ?_⟩
  rw [hU]
  exact ((C.2.2.2.2.1.kept (H1 := H) (fun a h1 h2 => hS.2.1 a h1 h2)).moved hW.alike).narrow hF
theorem ga_cons {y : MethodName} {bytes : ByteArray} {maxL : Nat} {rt : Option FieldType} (h : Cond.code y bytes maxL rt ∈ WA) : GoodIn WA (Cond.code y bytes maxL rt :: WA) := fun w hw => by
  rcases List.mem_cons.mp hw with e | e
  · subst e; exact ⟨h, GA h⟩
  · exact ⟨e, GA e⟩
theorem ga_list {l r : List Cond} (hl : ∀ w ∈ l, w ∈ WA) (hr : GoodIn WA r) : GoodIn WA (l ++ r) := fun w hw => by
  rcases List.mem_append.mp hw with e | e
  · exact ⟨hl w e, GA (hl w e)⟩
  · exact hr w e
theorem x_cVi (C : XC own cc nL ret nm tys D A p s m args meth c) {y : MethodName} {rm : Room} {bytes : ByteArray} {maxL n index : Nat} {rt : Option FieldType} {As st0 : List Value} {r : Int32} (h1 : Cond.methodLink own index y ∈ WA) (h2 : Cond.instanceMethod y ∈ WA) (h3 : Cond.selects y.cls y y ∈ WA) (h4 : Cond.initialized y.cls ∈ WA) (h5 : Cond.code y bytes maxL rt ∈ WA) (hd : y.cls ≠ "java/lang/invoke/MethodHandle" ∧ y.cls ≠ "java/lang/invoke/VarHandle" ∧ (parseMethodDescriptor y.desc).map (fun d => d.parameters.length) = some n) (hrc : rm.cells = 0) (hrs : rm.slots = 0) (hRm : rm.frames + 1 ≤ R.frames ∧ 8 + (maxL + 11) + rm.locals ≤ R.locals) {b q0 ci : Nat} {fs : List Value} {q : vw_C} (he : ws[q0]? = some (b, .inr (ci, fs))) (hcl : vwCl[ci]? = some q) (hcn : q.1 = y.cls) {w1 w2 ws' : va_W} (hc : CTi l D tys y (Cond.code y bytes maxL rt :: WA) rm (.ref b :: As) w1 r w2) (isC : List Nat) (src : List (Nat ⊕ Nat)) (hC : at_ ws isC w1) (hnC : va_nd isC = true) (hsrc : at2 ws w2 src ws') (hdis : apart isC src = true) (hsa : sameA ws' ws) (hn' : As.length = n) (hst : st0 = As.reverse ++ .ref b :: st) (hlo : (st.map fun v => v.category).sum ≤ 8) (hcl0 : cells ≤ R.cells) (hsl0 : slots ≤ R.slots) (d : decode cc pc = .ok (.invokevirtual index, 3)) (k : XI p l e R s m args below meth c D A nL cells slots Qr K t (pc + 3) L (.int r :: st) ws') : XI p l e R s m args below meth c D A nL cells slots Qr K t pc L st0 ws := by
  intro H locs ls hP hD hS hL
  subst hst
  have hF := x_hF C isC hC hD hS
  refine va_calli (mc := 0) (ms := 0) (va_runV (As := As) (rest := st) C.1 (hc H.size) (cwV n C.1.2.2.2.2 (ga_list (l := [.methodLink own index y, .instanceMethod y, .selects y.cls y y, .initialized y.cls]) (fun w hw => by simp only [List.mem_cons, List.not_mem_nil, or_false] at hw; rcases hw with rfl | rfl | rfl | rfl <;> assumption) (ga_cons h5)) rfl hrc hrs ⟨rfl, hd⟩ hRm) ⟨fun a U g mk q => ⟨q.1, q.2.call g mk a⟩, by obtain ⟨cell, g1, g2, g3⟩ := va_recv C.2.1 hP hcl he; exact ⟨cell, g1, g2, by rw [← hcn]; exact g3⟩, fun U hU hW => ⟨rfl, x_pre C isC hC hnC hP hD hS hF U hU hW⟩⟩ rfl hn' hL.1 rfl (lv_room hlo) d ⟨hcl0, hsl0⟩) hS (fun q _ h => hF q h) hF (fun r1 u t1 H1 locs1 ht hvm hw hB hz1 hk1 hS => ?_)
  obtain ⟨hP1, hK1, hD1⟩ := hB
  rw [ht] at hP1
  subst hw
  obtain ⟨hP2, hD2⟩ := x_back isC src hC hsrc (apart_of hdis) hsa hP hD hk1 hP1
  exact k H1 locs1 ls hP2 hD2 hS hL
theorem x_cViW (C : XC own cc nL ret nm tys D A p s m args meth c) {y : MethodName} {rm : Room} {bytes : ByteArray} {maxL n index : Nat} {rt : Option FieldType} {As st0 : List Value} {r : Int32} (h1 : Cond.methodLink own index y ∈ WA) (h2 : Cond.instanceMethod y ∈ WA) (h3 : Cond.selects y.cls y y ∈ WA) (h4 : Cond.initialized y.cls ∈ WA) (h5 : Cond.code y bytes maxL rt ∈ WA) (hd : y.cls ≠ "java/lang/invoke/MethodHandle" ∧ y.cls ≠ "java/lang/invoke/VarHandle" ∧ (parseMethodDescriptor y.desc).map (fun d => d.parameters.length) = some n) (hrc : rm.cells = 0) (hrs : rm.slots = 0) (hRm : rm.frames + 1 ≤ R.frames ∧ 8 + (maxL + 11) + rm.locals ≤ R.locals) {b q0 ci : Nat} {fs : List Value} {q : vw_C} (he : ws[q0]? = some (b, .inr (ci, fs))) (hcl : vwCl[ci]? = some q) (hcn : q.1 = y.cls) {w2 : va_W} (hc : CTi l D tys y (Cond.code y bytes maxL rt :: WA) rm (.ref b :: As) ws r w2)  (hn' : As.length = n) (hst : st0 = As.reverse ++ .ref b :: st) (hlo : (st.map fun v => v.category).sum ≤ 8) (hcl0 : cells ≤ R.cells) (hsl0 : slots ≤ R.slots) (d : decode cc pc = .ok (.invokevirtual index, 3)) (k : XI p l e R s m args below meth c D A nL cells slots Qr K t (pc + 3) L (.int r :: st) w2) : XI p l e R s m args below meth c D A nL cells slots Qr K t pc L st0 ws := by
  intro H locs ls hP hD hS hL
  subst hst
  have hF := x_hFW C hD hS
  refine va_calli (mc := 0) (ms := 0) (va_runV (As := As) (rest := st) C.1 (hc H.size) (cwV n C.1.2.2.2.2 (ga_list (l := [.methodLink own index y, .instanceMethod y, .selects y.cls y y, .initialized y.cls]) (fun w hw => by simp only [List.mem_cons, List.not_mem_nil, or_false] at hw; rcases hw with rfl | rfl | rfl | rfl <;> assumption) (ga_cons h5)) rfl hrc hrs ⟨rfl, hd⟩ hRm) ⟨fun a U g mk q => ⟨q.1, q.2.call g mk a⟩, by obtain ⟨cell, g1, g2, g3⟩ := va_recv C.2.1 hP hcl he; exact ⟨cell, g1, g2, by rw [← hcn]; exact g3⟩, fun U hU hW => ⟨rfl, x_preW C hP hD hS hF U hU hW⟩⟩ rfl hn' hL.1 rfl (lv_room hlo) d ⟨hcl0, hsl0⟩) hS (fun q _ h => hF q h) hF (fun r1 u t1 H1 locs1 ht hvm hw hB hz1 hk1 hS => ?_)
  obtain ⟨hP1, hK1, hD1⟩ := hB
  rw [ht] at hP1
  subst hw
  exact k H1 locs1 ls hP1 (hD1.weaken (fun _ q _ h => hF q.1 h)) hS hL
theorem x_cVv (C : XC own cc nL ret nm tys D A p s m args meth c) {y : MethodName} {rm : Room} {bytes : ByteArray} {maxL n index : Nat} {rt : Option FieldType} {As st0 : List Value} (h1 : Cond.methodLink own index y ∈ WA) (h2 : Cond.instanceMethod y ∈ WA) (h3 : Cond.selects y.cls y y ∈ WA) (h4 : Cond.initialized y.cls ∈ WA) (h5 : Cond.code y bytes maxL rt ∈ WA) (hd : y.cls ≠ "java/lang/invoke/MethodHandle" ∧ y.cls ≠ "java/lang/invoke/VarHandle" ∧ (parseMethodDescriptor y.desc).map (fun d => d.parameters.length) = some n) (hrc : rm.cells = 0) (hrs : rm.slots = 0) (hRm : rm.frames + 1 ≤ R.frames ∧ 8 + (maxL + 11) + rm.locals ≤ R.locals) {b q0 ci : Nat} {fs : List Value} {q : vw_C} (he : ws[q0]? = some (b, .inr (ci, fs))) (hcl : vwCl[ci]? = some q) (hcn : q.1 = y.cls) {w1 w2 ws' : va_W} (hc : CTv l D tys y (Cond.code y bytes maxL rt :: WA) rm (.ref b :: As) w1 w2) (isC : List Nat) (src : List (Nat ⊕ Nat)) (hC : at_ ws isC w1) (hnC : va_nd isC = true) (hsrc : at2 ws w2 src ws') (hdis : apart isC src = true) (hsa : sameA ws' ws) (hn' : As.length = n) (hst : st0 = As.reverse ++ .ref b :: st) (hlo : (st.map fun v => v.category).sum ≤ 8) (hcl0 : cells ≤ R.cells) (hsl0 : slots ≤ R.slots) (d : decode cc pc = .ok (.invokevirtual index, 3)) (k : XI p l e R s m args below meth c D A nL cells slots Qr K t (pc + 3) L st ws') : XI p l e R s m args below meth c D A nL cells slots Qr K t pc L st0 ws := by
  intro H locs ls hP hD hS hL
  subst hst
  have hF := x_hF C isC hC hD hS
  refine va_callv (mc := 0) (ms := 0) (va_runV (As := As) (rest := st) C.1 (hc H.size) (cwV n C.1.2.2.2.2 (ga_list (l := [.methodLink own index y, .instanceMethod y, .selects y.cls y y, .initialized y.cls]) (fun w hw => by simp only [List.mem_cons, List.not_mem_nil, or_false] at hw; rcases hw with rfl | rfl | rfl | rfl <;> assumption) (ga_cons h5)) rfl hrc hrs ⟨rfl, hd⟩ hRm) ⟨fun a U g mk q => ⟨q.1, q.2.call g mk a⟩, by obtain ⟨cell, g1, g2, g3⟩ := va_recv C.2.1 hP hcl he; exact ⟨cell, g1, g2, by rw [← hcn]; exact g3⟩, fun U hU hW => ⟨rfl, x_pre C isC hC hnC hP hD hS hF U hU hW⟩⟩ rfl hn' hL.1 rfl (lv_room hlo) d ⟨hcl0, hsl0⟩) hS (fun q _ h => hF q h) hF (fun u t1 H1 locs1 ht hvm hw hB hz1 hk1 hS => ?_)
  obtain ⟨hP1, hK1, hD1⟩ := hB
  rw [ht] at hP1
  skip
  obtain ⟨hP2, hD2⟩ := x_back isC src hC hsrc (apart_of hdis) hsa hP hD hk1 hP1
  exact k H1 locs1 ls hP2 hD2 hS hL
theorem x_cVvW (C : XC own cc nL ret nm tys D A p s m args meth c) {y : MethodName} {rm : Room} {bytes : ByteArray} {maxL n index : Nat} {rt : Option FieldType} {As st0 : List Value} (h1 : Cond.methodLink own index y ∈ WA) (h2 : Cond.instanceMethod y ∈ WA) (h3 : Cond.selects y.cls y y ∈ WA) (h4 : Cond.initialized y.cls ∈ WA) (h5 : Cond.code y bytes maxL rt ∈ WA) (hd : y.cls ≠ "java/lang/invoke/MethodHandle" ∧ y.cls ≠ "java/lang/invoke/VarHandle" ∧ (parseMethodDescriptor y.desc).map (fun d => d.parameters.length) = some n) (hrc : rm.cells = 0) (hrs : rm.slots = 0) (hRm : rm.frames + 1 ≤ R.frames ∧ 8 + (maxL + 11) + rm.locals ≤ R.locals) {b q0 ci : Nat} {fs : List Value} {q : vw_C} (he : ws[q0]? = some (b, .inr (ci, fs))) (hcl : vwCl[ci]? = some q) (hcn : q.1 = y.cls) {w2 : va_W} (hc : CTv l D tys y (Cond.code y bytes maxL rt :: WA) rm (.ref b :: As) ws w2)  (hn' : As.length = n) (hst : st0 = As.reverse ++ .ref b :: st) (hlo : (st.map fun v => v.category).sum ≤ 8) (hcl0 : cells ≤ R.cells) (hsl0 : slots ≤ R.slots) (d : decode cc pc = .ok (.invokevirtual index, 3)) (k : XI p l e R s m args below meth c D A nL cells slots Qr K t (pc + 3) L st w2) : XI p l e R s m args below meth c D A nL cells slots Qr K t pc L st0 ws := by
  intro H locs ls hP hD hS hL
  subst hst
  have hF := x_hFW C hD hS
  refine va_callv (mc := 0) (ms := 0) (va_runV (As := As) (rest := st) C.1 (hc H.size) (cwV n C.1.2.2.2.2 (ga_list (l := [.methodLink own index y, .instanceMethod y, .selects y.cls y y, .initialized y.cls]) (fun w hw => by simp only [List.mem_cons, List.not_mem_nil, or_false] at hw; rcases hw with rfl | rfl | rfl | rfl <;> assumption) (ga_cons h5)) rfl hrc hrs ⟨rfl, hd⟩ hRm) ⟨fun a U g mk q => ⟨q.1, q.2.call g mk a⟩, by obtain ⟨cell, g1, g2, g3⟩ := va_recv C.2.1 hP hcl he; exact ⟨cell, g1, g2, by rw [← hcn]; exact g3⟩, fun U hU hW => ⟨rfl, x_preW C hP hD hS hF U hU hW⟩⟩ rfl hn' hL.1 rfl (lv_room hlo) d ⟨hcl0, hsl0⟩) hS (fun q _ h => hF q h) hF (fun u t1 H1 locs1 ht hvm hw hB hz1 hk1 hS => ?_)
  obtain ⟨hP1, hK1, hD1⟩ := hB
  rw [ht] at hP1
  skip
  exact k H1 locs1 ls hP1 (hD1.weaken (fun _ q _ h => hF q.1 h)) hS hL
theorem x_cNi (C : XC own cc nL ret nm tys D A p s m args meth c) {y : MethodName} {rm : Room} {bytes : ByteArray} {maxL n index : Nat} {rt : Option FieldType} {As st0 : List Value} {r : Int32} (h1 : va_Nw (.methodLinkNest own index y RX6) s) (h2 : Cond.static y ∈ WA) (h4 : Cond.initialized y.cls ∈ WA) (h5 : Cond.code y bytes maxL rt ∈ WA) (hd : y.cls ≠ "java/lang/invoke/MethodHandle" ∧ y.cls ≠ "java/lang/invoke/VarHandle" ∧ (parseMethodDescriptor y.desc).map (fun d => d.parameters.length) = some n) (hrc : rm.cells = 0) (hrs : rm.slots = 0) (hRm : rm.frames + 1 ≤ R.frames ∧ 8 + (maxL + 11) + rm.locals ≤ R.locals) {w1 w2 ws' : va_W} (hc : CTi l D tys y (Cond.code y bytes maxL rt :: WA) rm As w1 r w2) (isC : List Nat) (src : List (Nat ⊕ Nat)) (hC : at_ ws isC w1) (hnC : va_nd isC = true) (hsrc : at2 ws w2 src ws') (hdis : apart isC src = true) (hsa : sameA ws' ws) (hn' : As.length = n) (hst : st0 = As.reverse ++ st) (hlo : (st.map fun v => v.category).sum ≤ 8) (hcl0 : cells ≤ R.cells) (hsl0 : slots ≤ R.slots) (d : decode cc pc = .ok (.invokestatic index, 3)) (k : XI p l e R s m args below meth c D A nL cells slots Qr K t (pc + 3) L (.int r :: st) ws') : XI p l e R s m args below meth c D A nL cells slots Qr K t pc L st0 ws := by
  intro H locs ls hP hD hS hL
  subst hst
  have hF := x_hF C isC hC hD hS
  refine va_calli (mc := 0) (ms := 0) (va_runSN (As := As) (rest := st) C.1 (hc H.size) ⟨va_cnB n C.1.2.2.2.2 (ga_cons h5) rfl hrc hrs h1 (C.1.2.2.2.2 _ h4) hd hRm, C.1.2.2.2.2 _ h2, trivial⟩ ⟨fun a U g mk q => ⟨q.1, q.2.call g mk a⟩, fun U hU hW => ⟨rfl, x_pre C isC hC hnC hP hD hS hF U hU hW⟩⟩ rfl hn' hL.1 rfl (lv_room hlo) d ⟨hcl0, hsl0⟩) hS (fun q _ h => hF q h) hF (fun r1 u t1 H1 locs1 ht hvm hw hB hz1 hk1 hS => ?_)
  obtain ⟨hP1, hK1, hD1⟩ := hB
  rw [ht] at hP1
  subst hw
  obtain ⟨hP2, hD2⟩ := x_back isC src hC hsrc (apart_of hdis) hsa hP hD hk1 hP1
  exact k H1 locs1 ls hP2 hD2 hS hL
theorem x_cNiW (C : XC own cc nL ret nm tys D A p s m args meth c) {y : MethodName} {rm : Room} {bytes : ByteArray} {maxL n index : Nat} {rt : Option FieldType} {As st0 : List Value} {r : Int32} (h1 : va_Nw (.methodLinkNest own index y RX6) s) (h2 : Cond.static y ∈ WA) (h4 : Cond.initialized y.cls ∈ WA) (h5 : Cond.code y bytes maxL rt ∈ WA) (hd : y.cls ≠ "java/lang/invoke/MethodHandle" ∧ y.cls ≠ "java/lang/invoke/VarHandle" ∧ (parseMethodDescriptor y.desc).map (fun d => d.parameters.length) = some n) (hrc : rm.cells = 0) (hrs : rm.slots = 0) (hRm : rm.frames + 1 ≤ R.frames ∧ 8 + (maxL + 11) + rm.locals ≤ R.locals) {w2 : va_W} (hc : CTi l D tys y (Cond.code y bytes maxL rt :: WA) rm As ws r w2)  (hn' : As.length = n) (hst : st0 = As.reverse ++ st) (hlo : (st.map fun v => v.category).sum ≤ 8) (hcl0 : cells ≤ R.cells) (hsl0 : slots ≤ R.slots) (d : decode cc pc = .ok (.invokestatic index, 3)) (k : XI p l e R s m args below meth c D A nL cells slots Qr K t (pc + 3) L (.int r :: st) w2) : XI p l e R s m args below meth c D A nL cells slots Qr K t pc L st0 ws := by
  intro H locs ls hP hD hS hL
  subst hst
  have hF := x_hFW C hD hS
  refine va_calli (mc := 0) (ms := 0) (va_runSN (As := As) (rest := st) C.1 (hc H.size) ⟨va_cnB n C.1.2.2.2.2 (ga_cons h5) rfl hrc hrs h1 (C.1.2.2.2.2 _ h4) hd hRm, C.1.2.2.2.2 _ h2, trivial⟩ ⟨fun a U g mk q => ⟨q.1, q.2.call g mk a⟩, fun U hU hW => ⟨rfl, x_preW C hP hD hS hF U hU hW⟩⟩ rfl hn' hL.1 rfl (lv_room hlo) d ⟨hcl0, hsl0⟩) hS (fun q _ h => hF q h) hF (fun r1 u t1 H1 locs1 ht hvm hw hB hz1 hk1 hS => ?_)
  obtain ⟨hP1, hK1, hD1⟩ := hB
  rw [ht] at hP1
  subst hw
  exact k H1 locs1 ls hP1 (hD1.weaken (fun _ q _ h => hF q.1 h)) hS hL
theorem x_cNv (C : XC own cc nL ret nm tys D A p s m args meth c) {y : MethodName} {rm : Room} {bytes : ByteArray} {maxL n index : Nat} {rt : Option FieldType} {As st0 : List Value} (h1 : va_Nw (.methodLinkNest own index y RX6) s) (h2 : Cond.static y ∈ WA) (h4 : Cond.initialized y.cls ∈ WA) (h5 : Cond.code y bytes maxL rt ∈ WA) (hd : y.cls ≠ "java/lang/invoke/MethodHandle" ∧ y.cls ≠ "java/lang/invoke/VarHandle" ∧ (parseMethodDescriptor y.desc).map (fun d => d.parameters.length) = some n) (hrc : rm.cells = 0) (hrs : rm.slots = 0) (hRm : rm.frames + 1 ≤ R.frames ∧ 8 + (maxL + 11) + rm.locals ≤ R.locals) {w1 w2 ws' : va_W} (hc : CTv l D tys y (Cond.code y bytes maxL rt :: WA) rm As w1 w2) (isC : List Nat) (src : List (Nat ⊕ Nat)) (hC : at_ ws isC w1) (hnC : va_nd isC = true) (hsrc : at2 ws w2 src ws') (hdis : apart isC src = true) (hsa : sameA ws' ws) (hn' : As.length = n) (hst : st0 = As.reverse ++ st) (hlo : (st.map fun v => v.category).sum ≤ 8) (hcl0 : cells ≤ R.cells) (hsl0 : slots ≤ R.slots) (d : decode cc pc = .ok (.invokestatic index, 3)) (k : XI p l e R s m args below meth c D A nL cells slots Qr K t (pc + 3) L st ws') : XI p l e R s m args below meth c D A nL cells slots Qr K t pc L st0 ws := by
  intro H locs ls hP hD hS hL
  subst hst
  have hF := x_hF C isC hC hD hS
  refine va_callv (mc := 0) (ms := 0) (va_runSN (As := As) (rest := st) C.1 (hc H.size) ⟨va_cnB n C.1.2.2.2.2 (ga_cons h5) rfl hrc hrs h1 (C.1.2.2.2.2 _ h4) hd hRm, C.1.2.2.2.2 _ h2, trivial⟩ ⟨fun a U g mk q => ⟨q.1, q.2.call g mk a⟩, fun U hU hW => ⟨rfl, x_pre C isC hC hnC hP hD hS hF U hU hW⟩⟩ rfl hn' hL.1 rfl (lv_room hlo) d ⟨hcl0, hsl0⟩) hS (fun q _ h => hF q h) hF (fun u t1 H1 locs1 ht hvm hw hB hz1 hk1 hS => ?_)
  obtain ⟨hP1, hK1, hD1⟩ := hB
  rw [ht] at hP1
  skip
  obtain ⟨hP2, hD2⟩ := x_back isC src hC hsrc (apart_of hdis) hsa hP hD hk1 hP1
  exact k H1 locs1 ls hP2 hD2 hS hL
theorem x_cNvW (C : XC own cc nL ret nm tys D A p s m args meth c) {y : MethodName} {rm : Room} {bytes : ByteArray} {maxL n index : Nat} {rt : Option FieldType} {As st0 : List Value} (h1 : va_Nw (.methodLinkNest own index y RX6) s) (h2 : Cond.static y ∈ WA) (h4 : Cond.initialized y.cls ∈ WA) (h5 : Cond.code y bytes maxL rt ∈ WA) (hd : y.cls ≠ "java/lang/invoke/MethodHandle" ∧ y.cls ≠ "java/lang/invoke/VarHandle" ∧ (parseMethodDescriptor y.desc).map (fun d => d.parameters.length) = some n) (hrc : rm.cells = 0) (hrs : rm.slots = 0) (hRm : rm.frames + 1 ≤ R.frames ∧ 8 + (maxL + 11) + rm.locals ≤ R.locals) {w2 : va_W} (hc : CTv l D tys y (Cond.code y bytes maxL rt :: WA) rm As ws w2)  (hn' : As.length = n) (hst : st0 = As.reverse ++ st) (hlo : (st.map fun v => v.category).sum ≤ 8) (hcl0 : cells ≤ R.cells) (hsl0 : slots ≤ R.slots) (d : decode cc pc = .ok (.invokestatic index, 3)) (k : XI p l e R s m args below meth c D A nL cells slots Qr K t (pc + 3) L st w2) : XI p l e R s m args below meth c D A nL cells slots Qr K t pc L st0 ws := by
  intro H locs ls hP hD hS hL
  subst hst
  have hF := x_hFW C hD hS
  refine va_callv (mc := 0) (ms := 0) (va_runSN (As := As) (rest := st) C.1 (hc H.size) ⟨va_cnB n C.1.2.2.2.2 (ga_cons h5) rfl hrc hrs h1 (C.1.2.2.2.2 _ h4) hd hRm, C.1.2.2.2.2 _ h2, trivial⟩ ⟨fun a U g mk q => ⟨q.1, q.2.call g mk a⟩, fun U hU hW => ⟨rfl, x_preW C hP hD hS hF U hU hW⟩⟩ rfl hn' hL.1 rfl (lv_room hlo) d ⟨hcl0, hsl0⟩) hS (fun q _ h => hF q h) hF (fun u t1 H1 locs1 ht hvm hw hB hz1 hk1 hS => ?_)
  obtain ⟨hP1, hK1, hD1⟩ := hB
  rw [ht] at hP1
  skip
  exact k H1 locs1 ls hP1 (hD1.weaken (fun _ q _ h => hF q.1 h)) hS hL
theorem x_cSi (C : XC own cc nL ret nm tys D A p s m args meth c) {y : MethodName} {rm : Room} {bytes : ByteArray} {maxL n index : Nat} {rt : Option FieldType} {As st0 : List Value} {r : Int32} (h1 : Cond.methodLink own index y ∈ WA) (h2 : Cond.static y ∈ WA) (h4 : Cond.initialized y.cls ∈ WA) (h5 : Cond.code y bytes maxL rt ∈ WA) (hd : y.cls ≠ "java/lang/invoke/MethodHandle" ∧ y.cls ≠ "java/lang/invoke/VarHandle" ∧ (parseMethodDescriptor y.desc).map (fun d => d.parameters.length) = some n) (hrc : rm.cells = 0) (hrs : rm.slots = 0) (hRm : rm.frames + 1 ≤ R.frames ∧ 8 + (maxL + 11) + rm.locals ≤ R.locals) {w1 w2 ws' : va_W} (hc : CTi l D tys y (Cond.code y bytes maxL rt :: WA) rm As w1 r w2) (isC : List Nat) (src : List (Nat ⊕ Nat)) (hC : at_ ws isC w1) (hnC : va_nd isC = true) (hsrc : at2 ws w2 src ws') (hdis : apart isC src = true) (hsa : sameA ws' ws) (hn' : As.length = n) (hst : st0 = As.reverse ++ st) (hlo : (st.map fun v => v.category).sum ≤ 8) (hcl0 : cells ≤ R.cells) (hsl0 : slots ≤ R.slots) (d : decode cc pc = .ok (.invokestatic index, 3)) (k : XI p l e R s m args below meth c D A nL cells slots Qr K t (pc + 3) L (.int r :: st) ws') : XI p l e R s m args below meth c D A nL cells slots Qr K t pc L st0 ws := by
  intro H locs ls hP hD hS hL
  subst hst
  have hF := x_hF C isC hC hD hS
  refine va_calli (mc := 0) (ms := 0) (va_runS (As := As) (rest := st) C.1 (hc H.size) (va_cwS n C.1.2.2.2.2 (ga_list (l := [.methodLink own index y, .static y, .initialized y.cls]) (fun w hw => by simp only [List.mem_cons, List.not_mem_nil, or_false] at hw; rcases hw with rfl | rfl | rfl <;> assumption) (ga_cons h5)) rfl hrc hrs hd hRm) ⟨fun a U g mk q => ⟨q.1, q.2.call g mk a⟩, fun U hU hW => ⟨rfl, x_pre C isC hC hnC hP hD hS hF U hU hW⟩⟩ rfl hn' hL.1 rfl (lv_room hlo) d ⟨hcl0, hsl0⟩) hS (fun q _ h => hF q h) hF (fun r1 u t1 H1 locs1 ht hvm hw hB hz1 hk1 hS => ?_)
  obtain ⟨hP1, hK1, hD1⟩ := hB
  rw [ht] at hP1
  subst hw
  obtain ⟨hP2, hD2⟩ := x_back isC src hC hsrc (apart_of hdis) hsa hP hD hk1 hP1
  exact k H1 locs1 ls hP2 hD2 hS hL
theorem x_cSiW (C : XC own cc nL ret nm tys D A p s m args meth c) {y : MethodName} {rm : Room} {bytes : ByteArray} {maxL n index : Nat} {rt : Option FieldType} {As st0 : List Value} {r : Int32} (h1 : Cond.methodLink own index y ∈ WA) (h2 : Cond.static y ∈ WA) (h4 : Cond.initialized y.cls ∈ WA) (h5 : Cond.code y bytes maxL rt ∈ WA) (hd : y.cls ≠ "java/lang/invoke/MethodHandle" ∧ y.cls ≠ "java/lang/invoke/VarHandle" ∧ (parseMethodDescriptor y.desc).map (fun d => d.parameters.length) = some n) (hrc : rm.cells = 0) (hrs : rm.slots = 0) (hRm : rm.frames + 1 ≤ R.frames ∧ 8 + (maxL + 11) + rm.locals ≤ R.locals) {w2 : va_W} (hc : CTi l D tys y (Cond.code y bytes maxL rt :: WA) rm As ws r w2)  (hn' : As.length = n) (hst : st0 = As.reverse ++ st) (hlo : (st.map fun v => v.category).sum ≤ 8) (hcl0 : cells ≤ R.cells) (hsl0 : slots ≤ R.slots) (d : decode cc pc = .ok (.invokestatic index, 3)) (k : XI p l e R s m args below meth c D A nL cells slots Qr K t (pc + 3) L (.int r :: st) w2) : XI p l e R s m args below meth c D A nL cells slots Qr K t pc L st0 ws := by
  intro H locs ls hP hD hS hL
  subst hst
  have hF := x_hFW C hD hS
  refine va_calli (mc := 0) (ms := 0) (va_runS (As := As) (rest := st) C.1 (hc H.size) (va_cwS n C.1.2.2.2.2 (ga_list (l := [.methodLink own index y, .static y, .initialized y.cls]) (fun w hw => by simp only [List.mem_cons, List.not_mem_nil, or_false] at hw; rcases hw with rfl | rfl | rfl <;> assumption) (ga_cons h5)) rfl hrc hrs hd hRm) ⟨fun a U g mk q => ⟨q.1, q.2.call g mk a⟩, fun U hU hW => ⟨rfl, x_preW C hP hD hS hF U hU hW⟩⟩ rfl hn' hL.1 rfl (lv_room hlo) d ⟨hcl0, hsl0⟩) hS (fun q _ h => hF q h) hF (fun r1 u t1 H1 locs1 ht hvm hw hB hz1 hk1 hS => ?_)
  obtain ⟨hP1, hK1, hD1⟩ := hB
  rw [ht] at hP1
  subst hw
  exact k H1 locs1 ls hP1 (hD1.weaken (fun _ q _ h => hF q.1 h)) hS hL
theorem x_cSv (C : XC own cc nL ret nm tys D A p s m args meth c) {y : MethodName} {rm : Room} {bytes : ByteArray} {maxL n index : Nat} {rt : Option FieldType} {As st0 : List Value} (h1 : Cond.methodLink own index y ∈ WA) (h2 : Cond.static y ∈ WA) (h4 : Cond.initialized y.cls ∈ WA) (h5 : Cond.code y bytes maxL rt ∈ WA) (hd : y.cls ≠ "java/lang/invoke/MethodHandle" ∧ y.cls ≠ "java/lang/invoke/VarHandle" ∧ (parseMethodDescriptor y.desc).map (fun d => d.parameters.length) = some n) (hrc : rm.cells = 0) (hrs : rm.slots = 0) (hRm : rm.frames + 1 ≤ R.frames ∧ 8 + (maxL + 11) + rm.locals ≤ R.locals) {w1 w2 ws' : va_W} (hc : CTv l D tys y (Cond.code y bytes maxL rt :: WA) rm As w1 w2) (isC : List Nat) (src : List (Nat ⊕ Nat)) (hC : at_ ws isC w1) (hnC : va_nd isC = true) (hsrc : at2 ws w2 src ws') (hdis : apart isC src = true) (hsa : sameA ws' ws) (hn' : As.length = n) (hst : st0 = As.reverse ++ st) (hlo : (st.map fun v => v.category).sum ≤ 8) (hcl0 : cells ≤ R.cells) (hsl0 : slots ≤ R.slots) (d : decode cc pc = .ok (.invokestatic index, 3)) (k : XI p l e R s m args below meth c D A nL cells slots Qr K t (pc + 3) L st ws') : XI p l e R s m args below meth c D A nL cells slots Qr K t pc L st0 ws := by
  intro H locs ls hP hD hS hL
  subst hst
  have hF := x_hF C isC hC hD hS
  refine va_callv (mc := 0) (ms := 0) (va_runS (As := As) (rest := st) C.1 (hc H.size) (va_cwS n C.1.2.2.2.2 (ga_list (l := [.methodLink own index y, .static y, .initialized y.cls]) (fun w hw => by simp only [List.mem_cons, List.not_mem_nil, or_false] at hw; rcases hw with rfl | rfl | rfl <;> assumption) (ga_cons h5)) rfl hrc hrs hd hRm) ⟨fun a U g mk q => ⟨q.1, q.2.call g mk a⟩, fun U hU hW => ⟨rfl, x_pre C isC hC hnC hP hD hS hF U hU hW⟩⟩ rfl hn' hL.1 rfl (lv_room hlo) d ⟨hcl0, hsl0⟩) hS (fun q _ h => hF q h) hF (fun u t1 H1 locs1 ht hvm hw hB hz1 hk1 hS => ?_)
  obtain ⟨hP1, hK1, hD1⟩ := hB
  rw [ht] at hP1
  skip
  obtain ⟨hP2, hD2⟩ := x_back isC src hC hsrc (apart_of hdis) hsa hP hD hk1 hP1
  exact k H1 locs1 ls hP2 hD2 hS hL
theorem x_cSvW (C : XC own cc nL ret nm tys D A p s m args meth c) {y : MethodName} {rm : Room} {bytes : ByteArray} {maxL n index : Nat} {rt : Option FieldType} {As st0 : List Value} (h1 : Cond.methodLink own index y ∈ WA) (h2 : Cond.static y ∈ WA) (h4 : Cond.initialized y.cls ∈ WA) (h5 : Cond.code y bytes maxL rt ∈ WA) (hd : y.cls ≠ "java/lang/invoke/MethodHandle" ∧ y.cls ≠ "java/lang/invoke/VarHandle" ∧ (parseMethodDescriptor y.desc).map (fun d => d.parameters.length) = some n) (hrc : rm.cells = 0) (hrs : rm.slots = 0) (hRm : rm.frames + 1 ≤ R.frames ∧ 8 + (maxL + 11) + rm.locals ≤ R.locals) {w2 : va_W} (hc : CTv l D tys y (Cond.code y bytes maxL rt :: WA) rm As ws w2)  (hn' : As.length = n) (hst : st0 = As.reverse ++ st) (hlo : (st.map fun v => v.category).sum ≤ 8) (hcl0 : cells ≤ R.cells) (hsl0 : slots ≤ R.slots) (d : decode cc pc = .ok (.invokestatic index, 3)) (k : XI p l e R s m args below meth c D A nL cells slots Qr K t (pc + 3) L st w2) : XI p l e R s m args below meth c D A nL cells slots Qr K t pc L st0 ws := by
  intro H locs ls hP hD hS hL
  subst hst
  have hF := x_hFW C hD hS
  refine va_callv (mc := 0) (ms := 0) (va_runS (As := As) (rest := st) C.1 (hc H.size) (va_cwS n C.1.2.2.2.2 (ga_list (l := [.methodLink own index y, .static y, .initialized y.cls]) (fun w hw => by simp only [List.mem_cons, List.not_mem_nil, or_false] at hw; rcases hw with rfl | rfl | rfl <;> assumption) (ga_cons h5)) rfl hrc hrs hd hRm) ⟨fun a U g mk q => ⟨q.1, q.2.call g mk a⟩, fun U hU hW => ⟨rfl, x_preW C hP hD hS hF U hU hW⟩⟩ rfl hn' hL.1 rfl (lv_room hlo) d ⟨hcl0, hsl0⟩) hS (fun q _ h => hF q h) hF (fun u t1 H1 locs1 ht hvm hw hB hz1 hk1 hS => ?_)
  obtain ⟨hP1, hK1, hD1⟩ := hB
  rw [ht] at hP1
  skip
  exact k H1 locs1 ls hP1 (hD1.weaken (fun _ q _ h => hF q.1 h)) hS hL
theorem x_nret {h : Nat} {wf : (Nat → Nat) → Ω → va_W} {mc ms : Nat} (C : XC own cc nL ret nm tys D A p s m args meth c) (hr : ret = none) (qv : Nat → Nat) (h0 : qv 0 = h) (d : decode cc pc = .ok (.return_, 1)) (h2 : wf qv (K t) = ws) : XI p l e R s m args below meth c D A nL mc ms (QN h wf mc ms below args s D A tys) K t pc L [] ws := by
  intro H locs ls hP hD hS hL
  subst h2
  exact W.vret (hlocks := C.2.2.2.2.2.2.1) C.1.1 C.1.2.1 (C.2.2.2.2.2.1.trans hr) (fun t' ht hW => ⟨⟨qv, rfl, h0, by rw [ht]; exact hP, va_K.moved hW.alike C.2.1, hD⟩, hS.F ht⟩) hS.2.2 d
theorem x_perm {ws' : va_W} (perm : List Nat) (hp : at_ ws perm ws') (hn : va_nd perm = true) (k : XI p l e R s m args below meth c D A nL cells slots Qr K t pc L st ws') : XI p l e R s m args below meth c D A nL cells slots Qr K t pc L st ws := fun H locs ls hP hD hS hL => k H locs ls (hP.sub perm (fm_of (at_map hp))) (hD.sub perm hn (at_map hp)) hS hL
theorem x_new (C : XC own cc nL ret nm tys D A p s m args meth c) {index ci : Nat} {Cn : String} {T : u_T} {N : Nat} {fs : List Value} {ws' : Nat → va_W} (hin : ∀ w ∈ u_ws Cn T N, w ∈ WA) (ty : Nat → FieldType) (hty : ∀ k, k < N → parseFieldDescriptor (T k).2.2.1 = some (ty k)) (h1 : Cond.classLink own index Cn ∈ WA) (h2 : Cond.instantiable Cn N ∈ WA) (h3 : Cond.initialized Cn ∈ WA) (hc : vwCl[ci]? = some (Cn, T, N)) (hfs : (List.range N).map (fun j => defaultValue (ty j)) = fs) (hcells : cells + 1 ≤ R.cells) (hslots : slots + N ≤ R.slots) (d : decode cc pc = .ok (.new index, 3)) (hw : ∀ q : Nat, ws ++ [(q, .inr (ci, fs))] = ws' q) (k : ∀ q : Nat, XI p l e R s m args below meth c D A nL (cells + 1) (slots + N) Qr K t (pc + 3) L (.ref q :: st) (ws' q)) : XI p l e R s m args below meth c D A nL cells slots Qr K t pc L st ws := fun H locs ls hP hD hS hL => va_new (D := D) C.1.1 C.1.2.1 C.1.2.2.2.2 hin ty hty C.1.2.2.2.1 (C.1.2.2.2.2 _ h1) (C.1.2.2.2.2 _ h2) (C.1.2.2.2.2 _ h3) C.2.1 hP hD hS C.2.2.1 hc (fs_of hfs) hcells hslots d (fun q H hP hD hS => k q H locs ls (hw q ▸ hP) (hw q ▸ hD) hS hL)
theorem x_newI (C : XC own cc nL ret nm tys D A p s m args meth c) {n : Int32} {N : Nat} {c0 : ClassId} {ws' : Nat → va_W} (h1 : Cond.arrayClass .int ∈ WA) (t0 : Nat) (ht : tys[t0]? = some (c0, .int)) (hn : ¬ n < 0) (hN : n.toNatClampNeg = N) (hb : N * componentBytes .int ≤ 536870912) (hcells : cells + 1 ≤ R.cells) (hslots : slots + N ≤ R.slots) (d : decode cc pc = .ok (.newarray .int, 2)) (hw : ∀ q : Nat, ws ++ [(q, .inl (c0, N, .inl (fun _ => 0)))] = ws' q) (k : ∀ q : Nat, XI p l e R s m args below meth c D A nL (cells + 1) (slots + N) Qr K t (pc + 2) L (.ref q :: st) (ws' q)) : XI p l e R s m args below meth c D A nL cells slots Qr K t pc L (.int n :: st) ws := by
  intro H locs ls hP hD hS hL
  refine va_newa (D := D) (atype := .int) (ty := .int) (a0 := (N, .inl (fun _ => 0))) C.1.1 C.1.2.1 (C.1.2.2.2.2 _ h1) rfl C.2.1 hP hD hS C.2.2.1 (fun _ => rfl) hn hN hb hcells hslots d (fun q cA H hK hP hD hS => ?_)
  have e1 : s.vm.findClass ("[" ++ FieldType.toString .int) = some c0 := (C.2.1.2 t0 _ ht).2
  have e2 : s.vm.findClass ("[" ++ FieldType.toString .int) = some cA := (hK.2 tys.length (cA, .int) (by simp)).2
  obtain rfl : c0 = cA := Option.some.inj (e1.symm.trans e2)
  exact k q H locs ls (hw q ▸ hP) (hw q ▸ hD) hS hL
theorem x_newZ (C : XC own cc nL ret nm tys D A p s m args meth c) {n : Int32} {N : Nat} {c0 : ClassId} {ws' : Nat → va_W} (h1 : Cond.arrayClass .boolean ∈ WA) (t0 : Nat) (ht : tys[t0]? = some (c0, .boolean)) (hn : ¬ n < 0) (hN : n.toNatClampNeg = N) (hb : N * componentBytes .boolean ≤ 536870912) (hcells : cells + 1 ≤ R.cells) (hslots : slots + N ≤ R.slots) (d : decode cc pc = .ok (.newarray .boolean, 2)) (hw : ∀ q : Nat, ws ++ [(q, .inl (c0, N, .inl (fun _ => 0)))] = ws' q) (k : ∀ q : Nat, XI p l e R s m args below meth c D A nL (cells + 1) (slots + N) Qr K t (pc + 2) L (.ref q :: st) (ws' q)) : XI p l e R s m args below meth c D A nL cells slots Qr K t pc L (.int n :: st) ws := by
  intro H locs ls hP hD hS hL
  refine va_newa (D := D) (atype := .boolean) (ty := .boolean) (a0 := (N, .inl (fun _ => 0))) C.1.1 C.1.2.1 (C.1.2.2.2.2 _ h1) rfl C.2.1 hP hD hS C.2.2.1 (fun _ => rfl) hn hN hb hcells hslots d (fun q cA H hK hP hD hS => ?_)
  have e1 : s.vm.findClass ("[" ++ FieldType.toString .boolean) = some c0 := (C.2.1.2 t0 _ ht).2
  have e2 : s.vm.findClass ("[" ++ FieldType.toString .boolean) = some cA := (hK.2 tys.length (cA, .boolean) (by simp)).2
  obtain rfl : c0 = cA := Option.some.inj (e1.symm.trans e2)
  exact k q H locs ls (hw q ▸ hP) (hw q ▸ hD) hS hL
theorem x_newQ (C : XC own cc nL ret nm tys D A p s m args meth c) {n : Int32} {N index : Nat} {c0 : ClassId} {ws' : Nat → va_W} (h1 : Cond.classLink own index RX0 ∈ WA) (t0 : Nat) (ht : tys[t0]? = some (c0, .object RX0)) (hn : ¬ n < 0) (hN : n.toNatClampNeg = N) (hb : N * 4 ≤ 536870912) (hcells : cells + 1 ≤ R.cells) (hslots : slots + N ≤ R.slots) (d : decode cc pc = .ok (.anewarray index, 3)) (hw : ∀ q : Nat, ws ++ [(q, .inl (c0, N, .inr (.inr (.inr (.inr (fun _ => none))))))] = ws' q) (k : ∀ q : Nat, XI p l e R s m args below meth c D A nL (cells + 1) (slots + N) Qr K t (pc + 3) L (.ref q :: st) (ws' q)) : XI p l e R s m args below meth c D A nL cells slots Qr K t pc L (.int n :: st) ws := by
  intro H locs ls hP hD hS hL
  refine va_newq (D := D) (C := RX0) C.1.1 C.1.2.1 C.1.2.2.2.1 (C.1.2.2.2.2 _ h1) C.2.2.2.1.2.2.2.2.2.2.2.2 C.2.1 hP hD hS C.2.2.1 hn hN hb hcells hslots d (fun q cA H hK hP hD hS => ?_)
  obtain ⟨k1, m1, -, -, -, e1⟩ := (C.2.1.2 t0 _ ht).2
  obtain ⟨k2, m2, -, -, -, e2⟩ := (hK.2 tys.length (cA, .object RX0) (by simp)).2
  obtain rfl : c0 = cA := Option.some.inj (e1.symm.trans e2)
  exact k q H locs ls (hw q ▸ hP) (hw q ▸ hD) hS hL
theorem x_aast (C : XC own cc nL ret nm tys D A p s m args meth c) {a n v : Nat} {cA : ClassId} {r : vw_C} {f : Nat → Option Nat} {vs : List Value} {i : Int32} {ci : Nat} {ws' : va_W} (q0 t0 qk : Nat) (ha : ws[q0]? = some (a, .inl (cA, n, .inr (.inr (.inr (.inr f)))))) (ht : tys[t0]? = some (cA, .object r.1)) (hv : ws[qk]? = some (v, .inr (ci, vs))) (hc : vwCl[ci]? = some r) (j : Nat) (hi : i = nI j) (hj : j < n) (hn : n < 2 ^ 31) (d : decode cc pc = .ok (.aastore, 1)) (hw : ws.set q0 (a, .inl (cA, n, .inr (.inr (.inr (.inr (va_up f j (some v))))))) = ws') (k : XI p l e R s m args below meth c D A nL cells slots Qr K t (pc + 1) L st ws') : XI p l e R s m args below meth c D A nL cells slots Qr K t pc L (.ref v :: .int i :: .ref a :: st) ws := fun H locs ls hP hD hS hL => va_astq (D := D) C.1.1 C.1.2.1 C.2.1 hP hD hS q0 t0 qk ci ha ht hv hc (by rw [hi]; exact vp_in_nI hj hn) d (fun H locs hP hD hS => by rw [hi, nI_clamp (Nat.lt_trans hj hn), hw] at hP hD; exact k H locs ls hP hD hS hL)
theorem x_cI (C : XC own cc nL ret nm tys D A p s m args meth c) {y : MethodName} {rm : Room} {bytes : ByteArray} {maxL n index mc ms b : Nat} {As st0 : List Value} {w1 : va_W} {w2 ws' : (Nat → Nat) → va_W} (h1 : Cond.methodLink own index y ∈ WA) (h2 : Cond.instanceMethod y ∈ WA) (h4 : Cond.initialized y.cls ∈ WA) (h5 : Cond.code y bytes maxL none ∈ WA) (hy1 : y.name = "<init>") (hd : y.cls ≠ "java/lang/invoke/MethodHandle" ∧ y.cls ≠ "java/lang/invoke/VarHandle" ∧ (parseMethodDescriptor y.desc).map (fun d => d.parameters.length) = some n) (hrc : rm.cells = mc) (hrs : rm.slots = ms) (hRm : rm.frames + 1 ≤ R.frames ∧ 8 + (maxL + 11) + rm.locals ≤ R.locals) (hc : CTn l D tys y (Cond.code y bytes maxL none :: WA) rm (.ref b :: As) w1 b w2 mc ms)
    (isC isR : List Nat) (hC : at_ ws isC w1) (hnC : va_nd isC = true) (hR2 : isR.all (fun i => decide (i < ws.length)) = true) (hnR : va_nd isR = true) (hdis : isR.all (fun i => !isC.contains i) = true) (perm : List Nat) (hp : ∀ q : Nat → Nat, at_ (isR.filterMap (fun i => ws[i]?) ++ w2 q) perm (ws' q)) (hpn : va_nd perm = true)
    (hn' : As.length = n) (hst : st0 = As.reverse ++ .ref b :: st) (hlo : (st.map fun v => v.category).sum ≤ 8) (hf : cells + mc ≤ R.cells ∧ slots + ms ≤ R.slots) (d : decode cc pc = .ok (.invokespecial index, 3)) (k : ∀ q : Nat → Nat, q 0 = b → XI p l e R s m args below meth c D A nL (cells + mc) (slots + ms) Qr K t (pc + 3) L st (ws' q)) : XI p l e R s m args below meth c D A nL cells slots Qr K t pc L st0 ws := by
  intro H locs ls hP hD hS hL
  subst hst
  have hF := x_hF C isC hC hD hS
  have hdis2 : ∀ i ∈ isR, i ∉ isC := fun i hi hz => by
    have h := List.all_eq_true.mp hdis i hi
    simp [hz] at h
  refine va_callv (mc := mc) (ms := ms) (va_runI (As := As) (rest := st) C.1 (hc H.size) (cwI n C.1.2.2.2.2 (ga_cons h5) rfl hrc hrs (C.1.2.2.2.2 _ h4) (C.1.2.2.2.2 _ h1) (C.1.2.2.2.2 _ h2) hy1 hd hRm) ⟨fun a U g mk q => ⟨q.1, q.2.call g mk a⟩, fun U hU hW => ⟨rfl, x_pre C isC hC hnC hP hD hS hF U hU hW⟩⟩ rfl hn' hL.1 rfl (lv_room hlo) d hf) hS (fun q _ h => hF q h) hF (fun q t1 H1 locs1 ht hvm hw hB hz1 hk1 hS => ?_)
  obtain ⟨hP1, hK1, hD1⟩ := hB
  rw [ht] at hP1
  obtain ⟨hP2, hD2⟩ := va_join hP hD isC isR (at_map hC) (fm_all hR2) hnR hdis2 hk1 hF hP1 hD1
  exact k q hw H1 locs1 ls (hP2.sub perm (fm_of (at_map (hp q)))) (hD2.sub perm hpn (at_map (hp q))) hS hL
theorem x_join {β : Type} (K2 : β → τ) (pcJ : Nat) (LJ : β → List (Nat × Value)) (sJ : β → List Value) (wJ : β → va_W) (hJ : ∀ b : β, XI p l e R s m args below meth c D A nL cells slots Qr K (K2 b) pcJ (LJ b) (sJ b) (wJ b)) (b0 : β) (main : (∀ b : β, XI p l e R s m args below meth c D A nL cells slots Qr (fun z => K (K2 z)) b pcJ (LJ b) (sJ b) (wJ b)) → XI p l e R s m args below meth c D A nL cells slots Qr (fun z => K (K2 z)) b0 pc L st ws) : XI p l e R s m args below meth c D A nL cells slots Qr K (K2 b0) pc L st ws := main hJ
theorem x_lab {β : Type} (K2 : β → τ) (pcJ : Nat) (LJ : β → List (Nat × Value)) (sJ : β → List Value) (wJ : β → va_W) (hJ : ∀ b : β, XI p l e R s m args below meth c D A nL cells slots Qr K (K2 b) pcJ (LJ b) (sJ b) (wJ b)) (main : (∀ b : β, XI p l e R s m args below meth c D A nL cells slots Qr K (K2 b) pcJ (LJ b) (sJ b) (wJ b)) → XI p l e R s m args below meth c D A nL cells slots Qr K t pc L st ws) : XI p l e R s m args below meth c D A nL cells slots Qr K t pc L st ws := main hJ
theorem x_joinI {β : Type} (K2 : β → τ) (I : β → Prop) (pcJ : Nat) (LJ : β → List (Nat × Value)) (sJ : β → List Value) (wJ : β → va_W) (hJ : ∀ b : β, I b → XI p l e R s m args below meth c D A nL cells slots Qr K (K2 b) pcJ (LJ b) (sJ b) (wJ b)) (b0 : β) (main : (∀ b : β, I b → XI p l e R s m args below meth c D A nL cells slots Qr (fun z => K (K2 z)) b pcJ (LJ b) (sJ b) (wJ b)) → XI p l e R s m args below meth c D A nL cells slots Qr (fun z => K (K2 z)) b0 pc L st ws) : XI p l e R s m args below meth c D A nL cells slots Qr K (K2 b0) pc L st ws := main hJ
theorem x_loopI {α : Type} (f : Nat → α → α) (K2 : α → τ) (I : Nat → α → Prop) (N : Nat) (pcH : Nat) (LH : Nat → α → List (Nat × Value)) (sH : Nat → α → List Value) (wH : Nat → α → va_W)
    (hx : ∀ a : α, I N a → XI p l e R s m args below meth c D A nL cells slots Qr K (K2 a) pcH (LH N a) (sH N a) (wH N a))
    (hs : ∀ (k : Nat) (a : α) (K3 : α → τ), k < N → I k a → (∀ a' : α, I (k + 1) a' → XI p l e R s m args below meth c D A nL cells slots Qr (fun z => K (K3 z)) a' pcH (LH (k + 1) a') (sH (k + 1) a') (wH (k + 1) a')) → XI p l e R s m args below meth c D A nL cells slots Qr (fun z => K (K3 z)) (f k a) pcH (LH k a) (sH k a) (wH k a)) :
    ∀ (n k : Nat) (a : α), k + n = N → I k a → XI p l e R s m args below meth c D A nL cells slots Qr K (K2 (up f k n a)) pcH (LH k a) (sH k a) (wH k a) := by
  intro n
  induction n with
  | zero =>
    intro k a h hI
    have h1 : k = N := h
    subst h1
    exact hx a hI
  | succ n ih =>
    intro k a h hI
    exact hs k a (fun z => K2 (up f (k + 1) n z)) (by omega) hI (fun a' hI' => ih (k + 1) a' (by omega) hI')
theorem x_loopRI {α : Type} (f : Nat → α → (α → τ) → τ) (ex : α → τ) (I : Nat → α → Prop) (N : Nat) (pcH : Nat) (LH : Nat → α → List (Nat × Value)) (sH : Nat → α → List Value) (wH : Nat → α → va_W)
    (hx : ∀ a : α, I N a → XI p l e R s m args below meth c D A nL cells slots Qr K (ex a) pcH (LH N a) (sH N a) (wH N a))
    (hs : ∀ (k : Nat) (a : α) (g : α → τ), k < N → I k a → (∀ a' : α, I (k + 1) a' → XI p l e R s m args below meth c D A nL cells slots Qr K (g a') pcH (LH (k + 1) a') (sH (k + 1) a') (wH (k + 1) a')) → XI p l e R s m args below meth c D A nL cells slots Qr K (f k a g) pcH (LH k a) (sH k a) (wH k a)) :
    ∀ (n k : Nat) (a : α), k + n = N → I k a → XI p l e R s m args below meth c D A nL cells slots Qr K (upr f ex k n a) pcH (LH k a) (sH k a) (wH k a) := by
  intro n
  induction n with
  | zero =>
    intro k a h hI
    have h1 : k = N := h
    subst h1
    exact hx a hI
  | succ n ih =>
    intro k a h hI
    exact hs k a (fun a' => upr f ex (k + 1) n a') (by omega) hI (fun a' hI' => ih (k + 1) a' (by omega) hI')
theorem x_icmp_eqN (C : XC own cc nL ret nm tys D A p s m args meth c) (a b : Nat) {x y : Int32} {off : Int} (tgt : Nat) (d : decode cc pc = .ok (.if_icmp .eq off, 3)) (ht : (pc : Int) + off = (tgt : Int)) (hx : x = nI a) (hy : y = nI b) (ha : a < 2 ^ 31) (hb : b < 2 ^ 31) {u v : τ} [hd : Decidable (a = b)] (kt : a = b → XI p l e R s m args below meth c D A nL cells slots Qr K u tgt L st ws) (kf : ¬ a = b → XI p l e R s m args below meth c D A nL cells slots Qr K v (pc + 3) L st ws) : XI p l e R s m args below meth c D A nL cells slots Qr K (if a = b then u else v) pc L (.int y :: .int x :: st) ws := by
  subst hx; subst hy
  have e : (nI a = nI b) ↔ (a = b) := nI_eq ha hb
  by_cases h : a = b
  · rw [if_pos h]; exact x_icmp_eq_t C tgt d ht (e.mpr h) (kt h)
  · rw [if_neg h]; exact x_icmp_eq_f C tgt d ht (fun z => h (e.mp z)) (kf h)
theorem x_icmp_neN (C : XC own cc nL ret nm tys D A p s m args meth c) (a b : Nat) {x y : Int32} {off : Int} (tgt : Nat) (d : decode cc pc = .ok (.if_icmp .ne off, 3)) (ht : (pc : Int) + off = (tgt : Int)) (hx : x = nI a) (hy : y = nI b) (ha : a < 2 ^ 31) (hb : b < 2 ^ 31) {u v : τ} [hd : Decidable (a = b)] (kf : a = b → XI p l e R s m args below meth c D A nL cells slots Qr K u (pc + 3) L st ws) (kt : ¬ a = b → XI p l e R s m args below meth c D A nL cells slots Qr K v tgt L st ws) : XI p l e R s m args below meth c D A nL cells slots Qr K (if a = b then u else v) pc L (.int y :: .int x :: st) ws := by
  subst hx; subst hy
  have e : (nI a = nI b) ↔ (a = b) := nI_eq ha hb
  by_cases h : a = b
  · rw [if_pos h]; exact x_icmp_ne_f C tgt d ht (e.mpr h) (kf h)
  · rw [if_neg h]; exact x_icmp_ne_t C tgt d ht (fun z => h (e.mp z)) (kt h)
theorem x_icmp_ltN (C : XC own cc nL ret nm tys D A p s m args meth c) (a b : Nat) {x y : Int32} {off : Int} (tgt : Nat) (d : decode cc pc = .ok (.if_icmp .lt off, 3)) (ht : (pc : Int) + off = (tgt : Int)) (hx : x = nI a) (hy : y = nI b) (ha : a < 2 ^ 31) (hb : b < 2 ^ 31) {u v : τ} [hd : Decidable (a < b)] (kt : a < b → XI p l e R s m args below meth c D A nL cells slots Qr K u tgt L st ws) (kf : ¬ a < b → XI p l e R s m args below meth c D A nL cells slots Qr K v (pc + 3) L st ws) : XI p l e R s m args below meth c D A nL cells slots Qr K (if a < b then u else v) pc L (.int y :: .int x :: st) ws := by
  subst hx; subst hy
  have e : (nI a < nI b) ↔ (a < b) := nI_ltI ha hb
  by_cases h : a < b
  · rw [if_pos h]; exact x_icmp_lt_t C tgt d ht (e.mpr h) (kt h)
  · rw [if_neg h]; exact x_icmp_lt_f C tgt d ht (fun z => h (e.mp z)) (kf h)
theorem x_icmp_geN (C : XC own cc nL ret nm tys D A p s m args meth c) (a b : Nat) {x y : Int32} {off : Int} (tgt : Nat) (d : decode cc pc = .ok (.if_icmp .ge off, 3)) (ht : (pc : Int) + off = (tgt : Int)) (hx : x = nI a) (hy : y = nI b) (ha : a < 2 ^ 31) (hb : b < 2 ^ 31) {u v : τ} [hd : Decidable (a < b)] (kf : a < b → XI p l e R s m args below meth c D A nL cells slots Qr K u (pc + 3) L st ws) (kt : ¬ a < b → XI p l e R s m args below meth c D A nL cells slots Qr K v tgt L st ws) : XI p l e R s m args below meth c D A nL cells slots Qr K (if a < b then u else v) pc L (.int y :: .int x :: st) ws := by
  subst hx; subst hy
  have e : (nI a < nI b) ↔ (a < b) := nI_ltI ha hb
  by_cases h : a < b
  · rw [if_pos h]; exact x_icmp_ge_f C tgt d ht (e.mpr h) (kf h)
  · rw [if_neg h]; exact x_icmp_ge_t C tgt d ht (fun z => h (e.mp z)) (kt h)
theorem x_icmp_gtN (C : XC own cc nL ret nm tys D A p s m args meth c) (a b : Nat) {x y : Int32} {off : Int} (tgt : Nat) (d : decode cc pc = .ok (.if_icmp .gt off, 3)) (ht : (pc : Int) + off = (tgt : Int)) (hx : x = nI a) (hy : y = nI b) (ha : a < 2 ^ 31) (hb : b < 2 ^ 31) {u v : τ} [hd : Decidable (b < a)] (kt : b < a → XI p l e R s m args below meth c D A nL cells slots Qr K u tgt L st ws) (kf : ¬ b < a → XI p l e R s m args below meth c D A nL cells slots Qr K v (pc + 3) L st ws) : XI p l e R s m args below meth c D A nL cells slots Qr K (if b < a then u else v) pc L (.int y :: .int x :: st) ws := by
  subst hx; subst hy
  have e : (nI b < nI a) ↔ (b < a) := nI_ltI hb ha
  by_cases h : b < a
  · rw [if_pos h]; exact x_icmp_gt_t C tgt d ht (e.mpr h) (kt h)
  · rw [if_neg h]; exact x_icmp_gt_f C tgt d ht (fun z => h (e.mp z)) (kf h)
theorem x_icmp_leN (C : XC own cc nL ret nm tys D A p s m args meth c) (a b : Nat) {x y : Int32} {off : Int} (tgt : Nat) (d : decode cc pc = .ok (.if_icmp .le off, 3)) (ht : (pc : Int) + off = (tgt : Int)) (hx : x = nI a) (hy : y = nI b) (ha : a < 2 ^ 31) (hb : b < 2 ^ 31) {u v : τ} [hd : Decidable (b < a)] (kf : b < a → XI p l e R s m args below meth c D A nL cells slots Qr K u (pc + 3) L st ws) (kt : ¬ b < a → XI p l e R s m args below meth c D A nL cells slots Qr K v tgt L st ws) : XI p l e R s m args below meth c D A nL cells slots Qr K (if b < a then u else v) pc L (.int y :: .int x :: st) ws := by
  subst hx; subst hy
  have e : (nI b < nI a) ↔ (b < a) := nI_ltI hb ha
  by_cases h : b < a
  · rw [if_pos h]; exact x_icmp_le_f C tgt d ht (e.mpr h) (kf h)
  · rw [if_neg h]; exact x_icmp_le_t C tgt d ht (fun z => h (e.mp z)) (kt h)
end XF
