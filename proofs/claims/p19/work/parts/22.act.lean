/-- a module while it has no cause -/
abbrev RLv (m n : Nat) (c w u : St) : Prop := (c 5 0 = u 18 m) ∧ (u 18 m = u 25 (18 * m)) ∧ (c 6 0 = u 20 m) ∧ (rg 1 (u 20 m)) ∧ (u 17 m = imn (c 4 0) 99) ∧ (0 ≤ (c 4 0).toInt ∧ (c 4 0).toInt + n < 2 ^ 31) ∧ (WR m w u) ∧ (rgC (u 22 m))
theorem RLv.gol {m n : Nat} {c w u : St} (h : RLv m n c w u) : c 5 0 = u 18 m := h.1
theorem RLv.see {m n : Nat} {c w u : St} (h : RLv m n c w u) : u 18 m = u 25 (18 * m) := h.2.1
theorem RLv.aga {m n : Nat} {c w u : St} (h : RLv m n c w u) : c 6 0 = u 20 m := h.2.2.1
theorem RLv.bA {m n : Nat} {c w u : St} (h : RLv m n c w u) : rg 1 (u 20 m) := h.2.2.2.1
theorem RLv.age {m n : Nat} {c w u : St} (h : RLv m n c w u) : u 17 m = imn (c 4 0) 99 := h.2.2.2.2.1
theorem RLv.bg {m n : Nat} {c w u : St} (h : RLv m n c w u) : 0 ≤ (c 4 0).toInt ∧ (c 4 0).toInt + n < 2 ^ 31 := h.2.2.2.2.2.1
theorem RLv.wr {m n : Nat} {c w u : St} (h : RLv m n c w u) : WR m w u := h.2.2.2.2.2.2.1
theorem RLv.bW {m n : Nat} {c w u : St} (h : RLv m n c w u) : rgC (u 22 m) := h.2.2.2.2.2.2.2
abbrev RM (m n : Nat) (c v w u : St) : Prop := (c 0 0 = nI m) ∧ (c 3 0 = u 16 m) ∧ (rg 7 (u 16 m)) ∧ (c 7 0 = u 19 m) ∧ (rg 9 (u 19 m)) ∧ (c 8 0 = u 21 m) ∧ (rg 1 (u 21 m)) ∧ (RV m v u) ∧ (u 19 m = 0 → RLv m n c w u)
theorem RM.num {m n : Nat} {c v w u : St} (h : RM m n c v w u) : c 0 0 = nI m := h.1
theorem RM.stg {m n : Nat} {c v w u : St} (h : RM m n c v w u) : c 3 0 = u 16 m := h.2.1
theorem RM.bG {m n : Nat} {c v w u : St} (h : RM m n c v w u) : rg 7 (u 16 m) := h.2.2.1
theorem RM.cau {m n : Nat} {c v w u : St} (h : RM m n c v w u) : c 7 0 = u 19 m := h.2.2.2.1
theorem RM.bC {m n : Nat} {c v w u : St} (h : RM m n c v w u) : rg 9 (u 19 m) := h.2.2.2.2.1
theorem RM.ded {m n : Nat} {c v w u : St} (h : RM m n c v w u) : c 8 0 = u 21 m := h.2.2.2.2.2.1
theorem RM.bD {m n : Nat} {c v w u : St} (h : RM m n c v w u) : rg 1 (u 21 m) := h.2.2.2.2.2.2.1
theorem RM.vts {m n : Nat} {c v w u : St} (h : RM m n c v w u) : RV m v u := h.2.2.2.2.2.2.2.1
theorem RM.liv {m n : Nat} {c v w u : St} (h : RM m n c v w u) : u 19 m = 0 → RLv m n c w u := h.2.2.2.2.2.2.2.2
def b5C (c1 v w : St) (b3 : Bool) : Int32 × St := if b3 = true then f_X0_turn c1 v w else (f_X0_nextStage c1 v w, c1)
theorem k57_eq (w g o1 : St) (t : Int32) (b3 : Bool) (b5 : Int32 × St) : f_X0_act_k57 w g t o1 b3 b5 = f_X0_act_k92 w t o1 b3 (stp o1 w g t b5) := rfl
theorem k39_eq (c w g o1 : St) (t : Int32) (b3 : Bool) : f_X0_act_k39 c w g t o1 b3 = f_X0_act_k57 w g t o1 b3 (b5C (put c 4 0 (c 4 0 + 1)) o1 w b3) := by
  unfold f_X0_act_k39 b5C
  cases b3 <;> rfl
theorem act_split (c v w sS g : St) (t : Int32) : f_X0_act c v w sS g t = f_X0_act_o102 t (f_X4_take v sS) (stp (f_X4_take v sS) w g t (b5C (put c 4 0 (c 4 0 + 1)) (f_X4_take v sS) w (if (f_X4_take v sS 0 0) = (c 5 0) then false else true))) (f_X5_count w (f_X0_orders (stp (f_X4_take v sS) w g t (b5C (put c 4 0 (c 4 0 + 1)) (f_X4_take v sS) w (if (f_X4_take v sS 0 0) = (c 5 0) then false else true))).1 (f_X4_take v sS) w) (if (f_X4_take v sS 0 0) = (c 5 0) then false else true)) := by
  unfold f_X0_act f_X0_act_o5
  rw [k39_eq, k57_eq]
  unfold f_X0_act_k92
  rfl
theorem b5C_fr (c1 v w : St) (b3 : Bool) (f : Nat) (h5 : ¬ f = 5) (h6 : ¬ f = 6) : (b5C c1 v w b3).2 f = c1 f := by
  unfold b5C
  cases b3
  · rfl
  · show (f_X0_turn c1 v w).2 f = c1 f
    unfold f_X0_turn
    repeat' split
    all_goals first | exact put_n _ _ _ h5 | (show put (put c1 5 0 (v 0 0)) 6 0 1 f = c1 f; rw [put_n _ _ _ h6, put_n _ _ _ h5])
theorem RV_fr {m : Nat} {v u u' : St} (h : RV m v u) (h25 : u' 25 = u 25) (h26 : u' 26 = u 26) (h27 : u' 27 = u 27) : RV m v u' := fun k hk => by
  have r := h k hk
  exact ⟨by rw [h25]; exact r.see, by rw [h26]; exact r.inn, by rw [h27, h26]; exact r.inv, by rw [h25]; exact r.bS, by rw [h26]; exact r.bI⟩
/-- act, of a module that has a cause -/
theorem RM_act1 {m n : Nat} {c v w u sS g : St} {t : Int32} (h : RM m (n + 1) c v w u) (hS : RS sS u) (hg : RG g u) (al : u 21 m = 0) (hc : ¬ u 19 m = 0) :
    RM m n (f_X0_act c v w sS g t).1 (f_X0_act c v w sS g t).2.1 (f_X0_act c v w sS g t).2.2.1 (f_X7_act u m) ∧ RG (f_X0_act c v w sS g t).2.2.2 (f_X7_act u m) := by
  obtain ⟨hv, hf, _⟩ := RV_take hS h.vts
  have fr : ∀ f, ¬ f = 25 ∧ ¬ f = 26 ∧ ¬ f = 27 → up (f_X7_act_t23 m) 0 18 u f = u f := fun f q => FrV_f hf f q
  rw [act_split]
  generalize f_X4_take v sS = o1 at *
  generalize (if (o1 0 0) = (c 5 0) then false else true) = b3
  have c7 : ¬ (b5C (put c 4 0 (c 4 0 + 1)) o1 w b3).2 7 0 = 0 := by
    rw [b5C_fr _ _ _ _ _ (by decide) (by decide), put_n _ _ _ (by decide), h.cau]; exact hc
  have e1 : stp o1 w g t (b5C (put c 4 0 (c 4 0 + 1)) o1 w b3) = ((b5C (put c 4 0 (c 4 0 + 1)) o1 w b3).2, g) := by unfold stp; rw [if_neg c7]
  rw [e1]
  have e2 : ∀ o8, f_X0_act_o102 t o1 ((b5C (put c 4 0 (c 4 0 + 1)) o1 w b3).2, g) o8 = ((b5C (put c 4 0 (c 4 0 + 1)) o1 w b3).2, o1, o8, g) := fun o8 => by
    unfold f_X0_act_o102; rw [if_neg c7]
  rw [e2]
  have cf : ∀ f, ¬ f = 4 → ¬ f = 5 → ¬ f = 6 → (b5C (put c 4 0 (c 4 0 + 1)) o1 w b3).2 f = c f := fun f a b d => by rw [b5C_fr _ _ _ _ _ b d, put_n _ _ _ a]
  have e3 : ∃ x, f_X7_act u m = put (up (f_X7_act_t23 m) 0 18 u) 22 m x := by
    have q19 : 0 < up (f_X7_act_t23 m) 0 18 u 19 m := by rw [fr 19 (by decide)]; exact (rg9_pos h.bC).mpr hc
    have k : ∀ z, f_X7_act_k102 m (up (f_X7_act_t23 m) 0 18 u) z = put (up (f_X7_act_t23 m) 0 18 u) 22 m z := fun z => if_pos q19
    have k2 : f_X7_act u m = f_X7_act_x23 u m (up (f_X7_act_t23 m) 0 18 u) := if_neg (by rw [al]; decide)
    rw [k2]
    unfold f_X7_act_x23
    rw [k]
    exact ⟨_, rfl⟩
  obtain ⟨x, e3⟩ := e3
  rw [e3]
  generalize up (f_X7_act_t23 m) 0 18 u = u3 at *
  have pf : ∀ f, ¬ f = 22 → put u3 22 m x f = u3 f := fun f q => put_n _ _ _ q
  generalize (b5C (put c 4 0 (c 4 0 + 1)) o1 w b3).2 = cc at *
  refine ⟨⟨?_, ?_, ?_, ?_, ?_, ?_, ?_, ?_, ?_⟩, ?_, ?_⟩
  · show cc 0 0 = _; rw [cf 0 (by decide) (by decide) (by decide)]; exact h.num
  · show cc 3 0 = _; rw [cf 3 (by decide) (by decide) (by decide), pf 16 (by decide), fr 16 (by decide)]; exact h.stg
  · rw [pf 16 (by decide), fr 16 (by decide)]; exact h.bG
  · show cc 7 0 = _; rw [cf 7 (by decide) (by decide) (by decide), pf 19 (by decide), fr 19 (by decide)]; exact h.cau
  · rw [pf 19 (by decide), fr 19 (by decide)]; exact h.bC
  · show cc 8 0 = _; rw [cf 8 (by decide) (by decide) (by decide), pf 21 (by decide), fr 21 (by decide)]; exact h.ded
  · rw [pf 21 (by decide), fr 21 (by decide)]; exact h.bD
  · exact RV_fr hv (pf 25 (by decide)) (pf 26 (by decide)) (pf 27 (by decide))
  · intro q
    rw [pf 19 (by decide), fr 19 (by decide)] at q
    exact absurd q hc
  · show g 0 = _; rw [pf 30 (by decide), fr 30 (by decide)]; exact hg.num
  · show g 1 0 = _; rw [pf 29 (by decide), fr 29 (by decide)]; exact hg.cnt
