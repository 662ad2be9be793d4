/-! A tick of the whole class and of the reference, alike -/
/-- class and reference alike, but for the lights; n0, n1: how many ticks the modules' ages have room for -/
def RQ (n0 n1 : Nat) (x : Sy) (u : St) : Prop := RP (x 1) u ∧ RS (x 2) u ∧ RM 0 n0 (x 3) (x 4) (x 5) u ∧ RM 1 n1 (x 6) (x 7) (x 8) u ∧ RG (x 9) u ∧ x 0 4 0 = u 6 0 ∧ x 0 6 0 = u 9 0 ∧ rg 1 (u 9 0)
theorem RQ.mk {n0 n1 : Nat} {x : Sy} {u : St} (a : RP (x 1) u) (b : RS (x 2) u) (c : RM 0 n0 (x 3) (x 4) (x 5) u) (d : RM 1 n1 (x 6) (x 7) (x 8) u) (e : RG (x 9) u) (f : x 0 4 0 = u 6 0) (g : x 0 6 0 = u 9 0) (h : rg 1 (u 9 0)) : RQ n0 n1 x u := ⟨a, b, c, d, e, f, g, h⟩
theorem RQ.p {n0 n1 : Nat} {x : Sy} {u : St} (h : RQ n0 n1 x u) : RP (x 1) u := h.1
theorem RQ.s {n0 n1 : Nat} {x : Sy} {u : St} (h : RQ n0 n1 x u) : RS (x 2) u := h.2.1
theorem RQ.m0 {n0 n1 : Nat} {x : Sy} {u : St} (h : RQ n0 n1 x u) : RM 0 n0 (x 3) (x 4) (x 5) u := h.2.2.1
theorem RQ.m1 {n0 n1 : Nat} {x : Sy} {u : St} (h : RQ n0 n1 x u) : RM 1 n1 (x 6) (x 7) (x 8) u := h.2.2.2.1
theorem RQ.g {n0 n1 : Nat} {x : Sy} {u : St} (h : RQ n0 n1 x u) : RG (x 9) u := h.2.2.2.2.1
theorem RQ.t {n0 n1 : Nat} {x : Sy} {u : St} (h : RQ n0 n1 x u) : x 0 4 0 = u 6 0 := h.2.2.2.2.2.1
theorem RQ.b {n0 n1 : Nat} {x : Sy} {u : St} (h : RQ n0 n1 x u) : x 0 6 0 = u 9 0 := h.2.2.2.2.2.2.1
theorem RQ.bB {n0 n1 : Nat} {x : Sy} {u : St} (h : RQ n0 n1 x u) : rg 1 (u 9 0) := h.2.2.2.2.2.2.2
theorem RQ_ord {n0 n1 : Nat} {x : Sy} {u : St} (h : RQ n0 n1 x u) : f_X6_ordered x = f_X7_ordered u ∧ inO (f_X7_orders u 0) ∧ inO (f_X7_orders u 1) := by
  obtain ⟨a, a2⟩ := ord_eq (v := x 4) (w := x 5) h.m0.ded h.m0.stg h.m0.bG h.m0.cau h.m0.bC (fun z => (h.m0.liv z).gol)
  obtain ⟨b, b2⟩ := ord_eq (v := x 7) (w := x 8) h.m1.ded h.m1.stg h.m1.bG h.m1.cau h.m1.bC (fun z => (h.m1.liv z).gol)
  refine ⟨?_, a2, b2⟩
  unfold f_X6_ordered f_X6_ordered_k21 f_X7_ordered
  rw [a, b, Int32.zero_or]
theorem both_eq {a b : Int32} (ha : inO a) (hb : inO b) : (if f_X6_both (a ||| b) 1 2 = true then true else if f_X6_both (a ||| b) 3 4 = true then true else false) = (if ((a ||| b) &&& 6) = 6 then true else (if ((a ||| b) &&& 24) = 24 then true else false)) := by
  unfold inO at ha hb
  rcases ha with e | e | e | e | e | e <;> rcases hb with e2 | e2 | e2 | e2 | e2 | e2 <;> subst e <;> subst e2 <;> decide
/-- the class' flag, ticks, plant and sensors: the tick ahead of its modules -/
def flC (x : Sy) : Sy := if (f_X6_both (f_X6_ordered x) 1 2) = true then (upY x 0 (put (x 0) 6 0 1)) else (if (f_X6_both (f_X6_ordered x) 3 4) = true then (upY x 0 (put (x 0) 6 0 1)) else x)
def preC (x : Sy) : Sy := upY (upY (upY (flC x) 0 (put (flC x 0) 4 0 ((flC x 0 4 0) + 1))) 1 (f_X2_move (x 1) (f_X6_ordered x))) 2 (f_X3_feel (x 2) (f_X2_move (x 1) (f_X6_ordered x)))
def preM (u : St) : St := f_X7_feel (plM u (bothM u))
theorem upY_at (x : Sy) (i : Nat) (v : St) : upY x i v i = v := if_pos rfl
theorem upY_n (x : Sy) {i a : Nat} (v : St) (h : ¬ a = i) : upY x i v a = x a := if_neg h
theorem flC_n (x : Sy) {a : Nat} (h : ¬ a = 0) : flC x a = x a := by
  unfold flC; split
  · exact upY_n _ _ h
  · split
    · exact upY_n _ _ h
    · rfl
theorem flC_4 (x : Sy) {f : Nat} (h : ¬ f = 6) : flC x 0 f = x 0 f := by
  unfold flC; split
  · rw [upY_at, put_n _ _ _ h]
  · split
    · rw [upY_at, put_n _ _ _ h]
    · rfl
theorem flC_6 {n0 n1 : Nat} {x : Sy} {u : St} (h : RQ n0 n1 x u) : flC x 0 6 0 = b2i (bothM u) := by
  obtain ⟨o, a, b⟩ := RQ_ord h
  have e := both_eq a b
  rw [show (f_X7_orders u 0 ||| f_X7_orders u 1) = f_X7_ordered u from rfl] at e
  have hb := h.b
  have r := rg1 h.bB
  unfold flC bothM
  rw [o]
  generalize f_X7_ordered u = z at *
  rw [← e]
  by_cases q : f_X6_both z 1 2 = true
  · rw [if_pos q, if_pos q, upY_at, put_at]; split <;> rfl
  · rw [if_neg q, if_neg q]
    by_cases q2 : f_X6_both z 3 4 = true
    · rw [if_pos q2, if_pos q2, upY_at, put_at]; split <;> rfl
    · rw [if_neg q2, if_neg q2, hb]
      rcases r with r | r <;> rw [r] <;> decide
theorem RQ_pre {n0 n1 : Nat} {x : Sy} {u : St} (h : RQ n0 n1 x u) : RQ n0 n1 (preC x) (preM u) := by
  have o := (RQ_ord h).1
  have hp := RP_plant h.p (bothM u) (f_X6_ordered x) o
  have k1 : ∀ f, ¬ f = 13 → ¬ f = 7 → ¬ f = 10 → ¬ f = 2 → ¬ f = 3 → ¬ f = 6 → ¬ f = 9 → plM u (bothM u) f = u f := fun f a1 a2 a3 a4 a5 a6 a7 => by
    rw [plM_fr0 _ _ _ a1 a2 a3, swM_fr _ _ _ a4 a5 a6 a7]
  have k2 : ∀ f, ¬ f = 28 → preM u f = plM u (bothM u) f := fun f a => feel_fr _ _ a
  have k3 : ∀ f, 14 ≤ f → ¬ f = 28 → preM u f = u f := fun f a b => by
    rw [k2 f b]; exact k1 f (by omega) (by omega) (by omega) (by omega) (by omega) (by omega) (by omega)
  have s9 : preM u 9 0 = b2i (bothM u) := by
    rw [k2 9 (by decide), plM_fr0 _ _ _ (by decide) (by decide) (by decide), swM_9, upd_at]
  have s6 : preM u 6 0 = u 6 0 + 1 := by
    rw [k2 6 (by decide), plM_fr0 _ _ _ (by decide) (by decide) (by decide), swM_6, upd_at]
  have c0 : preC x 0 = put (flC x 0) 4 0 ((flC x 0 4 0) + 1) := by
    unfold preC; rw [upY_n _ _ (by decide), upY_n _ _ (by decide), upY_at]
  have c1 : preC x 1 = f_X2_move (x 1) (f_X6_ordered x) := by
    unfold preC; rw [upY_n _ _ (by decide), upY_at]
  have c2 : preC x 2 = f_X3_feel (x 2) (f_X2_move (x 1) (f_X6_ordered x)) := by
    unfold preC; rw [upY_at]
  have cn : ∀ a, 3 ≤ a → preC x a = x a := fun a ha => by
    unfold preC; rw [upY_n _ _ (by omega), upY_n _ _ (by omega), upY_n _ _ (by omega), flC_n _ (by omega)]
  refine RQ.mk ?_ ?_ ?_ ?_ ?_ ?_ ?_ ?_
  · rw [c1]; exact RP_fr hp (fun f _ a _ _ _ => k2 f (by omega))
  · rw [c2]; exact RS_feel hp (RS_fr h.s (k1 15 (by decide) (by decide) (by decide) (by decide) (by decide) (by decide) (by decide)) (k1 28 (by decide) (by decide) (by decide) (by decide) (by decide) (by decide) (by decide)))
  · rw [cn 3 (by decide), cn 4 (by decide), cn 5 (by decide)]; exact RM_same h.m0 (Nat.le_refl _) (fun f a b => k3 f (by omega) (by omega))
  · rw [cn 6 (by decide), cn 7 (by decide), cn 8 (by decide)]; exact RM_same h.m1 (Nat.le_refl _) (fun f a b => k3 f (by omega) (by omega))
  · rw [cn 9 (by decide)]; exact RG_fr h.g (k3 29 (by decide) (by decide)) (k3 30 (by decide) (by decide))
  · rw [c0, put_at, flC_4 _ (by decide), s6, h.t]
  · rw [c0, put_n _ _ _ (by decide), flC_6 h, s9]
  · rw [s9]; exact rg_b _
/-- module 0's turn in a tick: what is shown, and the state -/
def st0C (y : Sy) : Int32 × Sy := if (y 3) 8 0 = 0 then (fun o12 : St × St × St × St => (0 ||| (f_X0_shows o12.1 o12.2.1 o12.2.2.1), upY (upY (upY (upY y 3 o12.1) 4 o12.2.1) 5 o12.2.2.1) 9 o12.2.2.2)) (f_X0_act (y 3) (y 4) (y 5) (y 2) (y 9) (y 0 4 0)) else (0, y)
def st1C (b6 : Int32 × Sy) : Int32 × Sy := if ((b6.2 6) 8 0) = 0 then (f_X6_tick_o96 b6 (f_X0_act (b6.2 6) (b6.2 7) (b6.2 8) (b6.2 2) (b6.2 9) ((b6.2 0) 4 0))) else (b6.1, b6.2)
theorem X6_tick_eq (x : Sy) : f_X6_tick x = f_X6_tick_k111 (st1C (st0C (preC x))) := by
  have p0 : preC x 0 = put (flC x 0) 4 0 ((flC x 0 4 0) + 1) := by
    unfold preC; rw [upY_n _ _ (by decide), upY_n _ _ (by decide), upY_at]
  have p2 : preC x 2 = f_X3_feel (x 2) (f_X2_move (x 1) (f_X6_ordered x)) := by
    unfold preC; rw [upY_at]
  have pn : ∀ a, 3 ≤ a → preC x a = x a := fun a ha => by
    unfold preC; rw [upY_n _ _ (by omega), upY_n _ _ (by omega), upY_n _ _ (by omega), flC_n _ (by omega)]
  have e : f_X6_tick x = f_X6_tick_k28 x (flC x) := rfl
  rw [e]
  unfold f_X6_tick_k28 f_X6_tick_o43
  rw [flC_n x (a := 1) (by decide), flC_n x (a := 2) (by decide)]
  unfold f_X6_tick_o54
  rw [flC_n x (a := 3) (by decide), flC_n x (a := 4) (by decide), flC_n x (a := 5) (by decide), flC_n x (a := 9) (by decide)]
  unfold st0C
  rw [pn 3 (by decide), pn 4 (by decide), pn 5 (by decide), pn 9 (by decide), p2, p0, put_at]
  rfl
