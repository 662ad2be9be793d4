/-- 0 .. n -/
def rg (n : Nat) (x : Int32) : Prop := ∃ k : Nat, k ≤ n ∧ x = nI k
theorem rg_all {n : Nat} {P : Int32 → Prop} [∀ x, Decidable (P x)] (h : ∀ k : Fin (n + 1), P (nI k.1)) {x : Int32} (hx : rg n x) : P x := by
  obtain ⟨k, hk, rfl⟩ := hx
  exact h ⟨k, Nat.lt_succ_of_le hk⟩
theorem rg1 {x : Int32} (h : rg 1 x) : x = 0 ∨ x = 1 := rg_all (P := fun x => x = 0 ∨ x = 1) (by decide) h
theorem rg2 {x : Int32} (h : rg 2 x) : x = 0 ∨ x = 1 ∨ x = 2 := rg_all (P := fun x => x = 0 ∨ x = 1 ∨ x = 2) (by decide) h
theorem rg3 {x : Int32} (h : rg 3 x) : x = 0 ∨ x = 1 ∨ x = 2 ∨ x = 3 := rg_all (P := fun x => x = 0 ∨ x = 1 ∨ x = 2 ∨ x = 3) (by decide) h
theorem rg_k {n : Nat} (k : Nat) (h : k ≤ n) : rg n (nI k) := ⟨k, h, rfl⟩
theorem rg_b (b : Bool) : rg 1 (b2i b) := by cases b; exact ⟨0, by decide, rfl⟩; exact ⟨1, by decide, rfl⟩
theorem sw_dn {x : Int32} (h : rg 24 x) : imx (x - 2) 0 = (if x < 2 then 0 else x - 2) ∧ rg 24 (imx (x - 2) 0) := by
  obtain ⟨k, hk, rfl⟩ := h
  have h : ∀ k : Fin 25, imx (nI k.1 - 2) 0 = (if nI k.1 < 2 then 0 else nI k.1 - 2) ∧ imx (nI k.1 - 2) 0 = nI (k.1 - 2) := by decide
  exact ⟨(h ⟨k, by omega⟩).1, k - 2, by omega, (h ⟨k, by omega⟩).2⟩
theorem sw_up {x : Int32} (h : rg 24 x) : (x < 24 ↔ ¬ x = 24) ∧ imn (x + 3) 24 = (if 21 < x then 24 else x + 3) ∧ rg 24 (imn (x + 3) 24) := by
  obtain ⟨k, hk, rfl⟩ := h
  have h : ∀ k : Fin 25, (nI k.1 < 24 ↔ ¬ nI k.1 = 24) ∧ imn (nI k.1 + 3) 24 = (if 21 < nI k.1 then 24 else nI k.1 + 3) ∧ imn (nI k.1 + 3) 24 = nI (min (k.1 + 3) 24) := by decide
  exact ⟨(h ⟨k, by omega⟩).1, (h ⟨k, by omega⟩).2.1, min (k + 3) 24, by omega, (h ⟨k, by omega⟩).2.2⟩
theorem pr_up {x : Int32} (h : rg 360 x) : imn (x + 36) 360 = (if 360 < x + 36 then 360 else (if x + 36 < 0 then 0 else x + 36)) ∧ rg 360 (imn (x + 36) 360) := by
  obtain ⟨k, hk, rfl⟩ := h
  have h : ∀ k : Fin 361, imn (nI k.1 + 36) 360 = (if 360 < nI k.1 + 36 then 360 else (if nI k.1 + 36 < 0 then 0 else nI k.1 + 36)) ∧ imn (nI k.1 + 36) 360 = nI (min (k.1 + 36) 360) := by decide +kernel
  exact ⟨(h ⟨k, by omega⟩).1, min (k + 36) 360, by omega, (h ⟨k, by omega⟩).2⟩
theorem pr_dn {x : Int32} (h : rg 360 x) : imx (x - 10) 0 = (if 360 < x - 10 then 360 else (if x - 10 < 0 then 0 else x - 10)) ∧ rg 360 (imx (x - 10) 0) := by
  obtain ⟨k, hk, rfl⟩ := h
  have h : ∀ k : Fin 361, imx (nI k.1 - 10) 0 = (if 360 < nI k.1 - 10 then 360 else (if nI k.1 - 10 < 0 then 0 else nI k.1 - 10)) ∧ imx (nI k.1 - 10) 0 = nI (k.1 - 10) := by decide +kernel
  exact ⟨(h ⟨k, by omega⟩).1, k - 10, by omega, (h ⟨k, by omega⟩).2⟩
/-- the plant of both -/
abbrev RPb (p u : St) : Prop := (p 0 = u 12) ∧ (p 1 = u 13) ∧ (p 2 = u 14) ∧ (p 3 = u 10) ∧ (p 4 = u 11) ∧ (p 5 0 = u 1 0) ∧ (p 6 0 = u 2 0) ∧ (p 7 0 = u 3 0) ∧ (p 8 0 = u 4 0) ∧ (p 9 0 = u 5 0) ∧ (p 10 0 = u 7 0) ∧ (rg 1 (u 1 0)) ∧ (rg 24 (u 2 0)) ∧ (∀ k < 5, rg 360 (u 10 k)) ∧ (∀ k < 5, rg 2 (u 11 k)) ∧ (∀ k < 6, rg 1 (u 14 k))
def RP (p u : St) : Prop := RPb p u
theorem RP.b {p u : St} (h : RP p u) : RPb p u := h
theorem RP.mk {p u : St} (h : RPb p u) : RP p u := h
theorem RP.len {p u : St} (h : RP p u) : p 0 = u 12 := h.b.1
theorem RP.plc {p u : St} (h : RP p u) : p 1 = u 13 := h.b.2.1
theorem RP.cyl {p u : St} (h : RP p u) : p 2 = u 14 := h.b.2.2.1
theorem RP.prs {p u : St} (h : RP p u) : p 3 = u 10 := h.b.2.2.2.1
theorem RP.vlv {p u : St} (h : RP p u) : p 4 = u 11 := h.b.2.2.2.2.1
theorem RP.hnd {p u : St} (h : RP p u) : p 5 0 = u 1 0 := h.b.2.2.2.2.2.1
theorem RP.lev {p u : St} (h : RP p u) : p 6 0 = u 2 0 := h.b.2.2.2.2.2.2.1
theorem RP.hld {p u : St} (h : RP p u) : p 7 0 = u 3 0 := h.b.2.2.2.2.2.2.2.1
theorem RP.stk {p u : St} (h : RP p u) : p 8 0 = u 4 0 := h.b.2.2.2.2.2.2.2.2.1
theorem RP.gnd {p u : St} (h : RP p u) : p 9 0 = u 5 0 := h.b.2.2.2.2.2.2.2.2.2.1
theorem RP.scr {p u : St} (h : RP p u) : p 10 0 = u 7 0 := h.b.2.2.2.2.2.2.2.2.2.2.1
theorem RP.bH {p u : St} (h : RP p u) : rg 1 (u 1 0) := h.b.2.2.2.2.2.2.2.2.2.2.2.1
theorem RP.bL {p u : St} (h : RP p u) : rg 24 (u 2 0) := h.b.2.2.2.2.2.2.2.2.2.2.2.2.1
theorem RP.bP {p u : St} (h : RP p u) : ∀ k < 5, rg 360 (u 10 k) := h.b.2.2.2.2.2.2.2.2.2.2.2.2.2.1
theorem RP.bV {p u : St} (h : RP p u) : ∀ k < 5, rg 2 (u 11 k) := h.b.2.2.2.2.2.2.2.2.2.2.2.2.2.2.1
theorem RP.bC {p u : St} (h : RP p u) : ∀ k < 6, rg 1 (u 14 k) := h.b.2.2.2.2.2.2.2.2.2.2.2.2.2.2.2
theorem b2i_bit (b : Bool) : f_X6_bit b = b2i b := by cases b <;> rfl
theorem push_eq (p : St) (o i : Nat) : f_X2_push p o i = b2i (if p 3 o = 360 then true else false) - b2i (if p 3 i = 360 then true else false) := by
  unfold f_X2_push f_X2_full; rw [b2i_bit, b2i_bit]
/-- pressures -/
theorem RP_press {p u : St} (h : RP p u) {k : Nat} (hk : k < 5) (b : Bool) : RP (f_X2_changePressure p k b) (f_X7_press u k b) := by
  have e : f_X2_changePressure p k b 3 = f_X7_press u k b 10 ∧ rg 360 (f_X7_press u k b 10 k) := by
    have hb := h.bP k hk
    have hp : p 3 k = u 10 k := by rw [h.prs]
    unfold f_X2_changePressure f_X2_changePressure_k40 f_X7_press f_X7_press_k25 f_X7_press_k53
    rw [put_s, put_s, hp, h.prs]
    cases b
    · have := pr_dn hb
      simp only [if_neg Bool.false_ne_true]
      rw [this.1]
      exact ⟨rfl, by unfold upd; rw [if_pos rfl, ← this.1]; exact this.2⟩
    · have := pr_up hb
      simp only [if_pos]
      rw [this.1]
      exact ⟨rfl, by unfold upd; rw [if_pos rfl, ← this.1]; exact this.2⟩
  have f1 : ∀ f, ¬ f = 3 → f_X2_changePressure p k b f = p f := fun f hf => put_n _ _ _ hf
  have f2 : ∀ f, ¬ f = 10 → f_X7_press u k b f = u f := fun f hf => put_n _ _ _ hf
  have f3 : ∀ j, ¬ j = k → f_X7_press u k b 10 j = u 10 j := fun j hj => by
    unfold f_X7_press f_X7_press_k25 f_X7_press_k53; rw [put_s]; exact if_neg hj
  refine RP.mk ⟨?_, ?_, ?_, e.1, ?_, ?_, ?_, ?_, ?_, ?_, ?_, ?_, ?_, ?_, ?_, ?_⟩
  all_goals try rw [f1 _ (by decide)]
  all_goals try rw [f2 _ (by decide)]
  · exact h.len
  · exact h.plc
  · exact h.cyl
  · exact h.vlv
  · exact h.hnd
  · exact h.lev
  · exact h.hld
  · exact h.stk
  · exact h.gnd
  · exact h.scr
  · exact h.bH
  · exact h.bL
  · intro j hj
    by_cases q : j = k
    · subst q; exact e.2
    · rw [f3 j q]; exact h.bP j hj
  · exact h.bV
  · exact h.bC
theorem RP_mv {p u p' u' : St} (h : RP p u) (hp : ∀ f, ¬ f = 1 → ¬ f = 10 → p' f = p f) (hu : ∀ f, ¬ f = 13 → ¬ f = 7 → u' f = u f) (e : p' 1 = u' 13) (e2 : p' 10 0 = u' 7 0) : RP p' u' := by
  refine RP.mk ⟨?_, e, ?_, ?_, ?_, ?_, ?_, ?_, ?_, ?_, e2, ?_, ?_, ?_, ?_, ?_⟩
  all_goals try rw [hp _ (by decide) (by decide)]
  all_goals try rw [hu _ (by decide) (by decide)]
  · exact h.len
  · exact h.cyl
  · exact h.prs
  · exact h.vlv
  · exact h.hnd
  · exact h.lev
  · exact h.hld
  · exact h.stk
  · exact h.gnd
  · exact h.bH
  · exact h.bL
  · exact h.bP
  · exact h.bV
  · exact h.bC
/-- a move of a cylinder by d, and the count of scrapes -/
def mvc (k : Nat) (r : Bool × St) : St := if k < 3 then r.2 else (if r.1 = true then (if r.2 1 (k - 3) = r.2 0 (k - 3) then r.2 else put r.2 10 0 (r.2 10 0 + 1)) else r.2)
theorem i_p1 (x : Int32) : x + b2i true - b2i false = x + (b2i true - b2i false) := by
  show x + 1 - 0 = x + (1 - 0)
  rw [Int32.sub_zero]; rfl
theorem i_m1 (x : Int32) : x + b2i false - b2i true = x + (b2i false - b2i true) := by
  show x + 0 - 1 = x + (0 - 1)
  rw [Int32.add_zero, Int32.sub_eq_add_neg]; rfl
theorem i_nex {x d : Int32} (h : ¬ d = 0) : ¬ x + d = x := fun e => h (by
  have := congrArg (fun z => z - x) e
  simp only [Int32.add_comm x d, Int32.add_sub_cancel, Int32.sub_self] at this
  exact this)
theorem up_same (f : Nat → Int32) (i : Nat) : upd f i (f i) = f := by
  funext j; unfold upd; split
  · next h => rw [h]
  · rfl
theorem RP_go {p u : St} (h : RP p u) {k : Nat} (hk : k < 6) (b6 b8 : Bool) (d : Int32) (hd : ∀ x, x + b2i b6 - b2i b8 = x + d) (hd0 : d = 0 ∨ ¬ d = 0 ) : RP (mvc k (f_X2_shift p k d)) (f_X7_move_k89 u k b6 b8) := by
  unfold f_X2_shift f_X7_move_k89
  rw [hd]
  have hc := rg1 (h.bC k hk)
  have ec : p 2 k = u 14 k := by rw [h.cyl]
  have ep : p 1 k = u 13 k := by rw [h.plc]
  have el : p 0 k = u 12 k := by rw [h.len]
  have triv : ∀ b, mvc k (b, p) = p ∨ b = true := fun b => by
    cases b
    · left; unfold mvc; split
      · rfl
      · rw [if_neg Bool.false_ne_true]
    · right; rfl
  have tr : mvc k (false, p) = p := (triv false).resolve_right Bool.false_ne_true
  rcases hd0 with hd0 | hd0
  · subst hd0
    rw [if_pos rfl, tr, Int32.add_zero, if_pos (c := u 13 k = u 13 k) rfl]
    split <;> (try split) <;> exact h
  · rw [if_neg hd0]
    rcases hc with hc | hc
    · rw [if_neg (by rw [ec, hc]; decide), if_pos hc, ep, el]
      unfold f_X7_in
      by_cases h1 : u 13 k + d < 0
      · rw [if_pos h1, if_pos h1, tr, if_neg Bool.false_ne_true]; exact h
      · rw [if_neg h1, if_neg h1]
        by_cases h2 : u 12 k < u 13 k + d
        · rw [if_pos h2, if_pos h2, tr, if_neg Bool.false_ne_true]; exact h
        · rw [if_neg h2, if_neg h2, if_pos rfl, if_neg (i_nex hd0)]
          unfold mvc f_X7_move_k169
          rw [hd]
          by_cases h3 : k < 3
          · rw [if_pos h3, if_neg (c := 2 < k) (by omega)]
            dsimp only
            refine RP_mv h (fun f a b => put_n _ _ _ a) (fun f a b => by rw [put_n _ _ _ b, put_n _ _ _ a]) ?_ ?_
            · rw [put_s, put_n _ _ _ (by decide), put_s, h.plc]
            · rw [put_n _ _ _ (by decide), h.scr, put_s]
              show _ = upd _ 0 (u 7 0 + 0) 0
              unfold upd; rw [if_pos rfl, Int32.add_zero]
          · rw [if_neg h3, if_pos (c := (true, put p 1 k (u 13 k + d)).1 = true) rfl, if_pos (c := 2 < k) (by omega)]
            have e1 : put p 1 k (u 13 k + d) 1 (k - 3) = put u 13 k (u 13 k + d) 13 (k - 3) := by rw [put_s, put_s, h.plc]
            have e2 : put p 1 k (u 13 k + d) 0 (k - 3) = u 12 (k - 3) := by rw [put_n _ _ _ (by decide), h.len]
            have e3 : put p 1 k (u 13 k + d) 10 0 = u 7 0 := by rw [put_n _ _ _ (by decide), h.scr]
            dsimp only
            by_cases h4 : put u 13 k (u 13 k + d) 13 (k - 3) = u 12 (k - 3)
            · rw [if_pos (c := put p 1 k (u 13 k + d) 1 (k - 3) = put p 1 k (u 13 k + d) 0 (k - 3)) (by rw [e1, e2]; exact h4), if_pos h4]
              refine RP_mv h (fun f a b => put_n _ _ _ a) (fun f a b => by rw [put_n _ _ _ b, put_n _ _ _ a]) ?_ ?_
              · rw [put_s, put_n _ _ _ (by decide), put_s, h.plc]
              · rw [put_n _ _ _ (by decide), h.scr, put_s]
                show _ = upd _ 0 (u 7 0 + 0) 0
                unfold upd; rw [if_pos rfl, Int32.add_zero]
            · rw [if_neg (c := put p 1 k (u 13 k + d) 1 (k - 3) = put p 1 k (u 13 k + d) 0 (k - 3)) (by rw [e1, e2]; exact h4), if_neg h4, e3]
              refine RP_mv h (fun f a b => by rw [put_n _ _ _ b, put_n _ _ _ a]) (fun f a b => by rw [put_n _ _ _ b, put_n _ _ _ a]) ?_ ?_
              · rw [put_n _ _ _ (by decide), put_s, put_n _ _ _ (by decide), put_s, h.plc]
              · rw [put_s, put_s]
                show upd _ 0 _ 0 = upd _ 0 (u 7 0 + 1) 0
                unfold upd; rw [if_pos rfl, if_pos rfl]
    · rw [if_pos (by rw [ec, hc]), if_neg (by rw [hc]; decide), tr]; exact h
theorem RP_move {p u : St} (h : RP p u) {k : Nat} (hk : k < 6) (o i : Nat) : RP (mvc k (f_X2_shift p k (f_X2_push p o i))) (f_X7_move u k o i) := by
  rw [push_eq]
  unfold f_X7_move f_X7_move_k29 f_X7_move_k60 f_X7_move_k78
  rw [h.prs]
  by_cases ho : u 10 o = 360 <;> by_cases hi : u 10 i = 360 <;> simp only [ho, hi, if_pos, if_neg, Bool.false_ne_true, if_false, if_true, ite_true, ite_false]
  · exact RP_go h hk _ _ _ (fun x => by show x + 0 - 0 = x + (1 - 1); rw [Int32.add_zero, Int32.sub_zero]; exact (Int32.add_zero x).symm) (Or.inl (by decide))
  · exact RP_go h hk _ _ _ (fun x => i_p1 x) (Or.inr (by decide))
  · exact RP_go h hk _ _ _ (fun x => i_m1 x) (Or.inr (by decide))
  · exact RP_go h hk _ _ _ (fun x => by show x + 0 - 0 = x + (0 - 0); rw [Int32.add_zero, Int32.sub_zero]; exact (Int32.add_zero x).symm) (Or.inl (by decide))
theorem RP_sw {p u p' u' : St} (h : RP p u) (hp : ∀ f, ¬ f = 6 → ¬ f = 7 → p' f = p f) (hu : ∀ f, ¬ f = 2 → ¬ f = 3 → ¬ f = 6 → ¬ f = 9 → u' f = u f) (e : p' 6 0 = u' 2 0) (e2 : p' 7 0 = u' 3 0) (b : rg 24 (u' 2 0)) : RP p' u' := by
  refine RP.mk ⟨?_, ?_, ?_, ?_, ?_, ?_, e, e2, ?_, ?_, ?_, ?_, b, ?_, ?_, ?_⟩
  all_goals try rw [hp _ (by decide) (by decide)]
  all_goals try rw [hu _ (by decide) (by decide) (by decide) (by decide)]
  · exact h.len
  · exact h.plc
  · exact h.cyl
  · exact h.prs
  · exact h.vlv
  · exact h.hnd
  · exact h.stk
  · exact h.gnd
  · exact h.scr
  · exact h.bH
  · exact h.bP
  · exact h.bV
  · exact h.bC
/-- the switch's own part of a tick -/
def swC (p : St) : St := if p 8 0 = 0 then f_X2_moveSwitch p else p
def swM (u : St) (b2 : Bool) : St := if (u 4 0) = 0 then (if (u 3 0) = 0 then (f_X7_tick_k82 u b2 (if (u 2 0) < 2 then 0 else ((u 2 0) - 2))) else (if (u 2 0) = 24 then (put (put (put u 9 0 (b2i b2)) 6 0 ((u 6 0) + 1)) 3 0 ((u 3 0) - 1)) else (f_X7_tick_k131 u b2 (if 21 < (u 2 0) then 24 else ((u 2 0) + 3))))) else (put (put u 9 0 (b2i b2)) 6 0 ((u 6 0) + 1))
theorem upd_at (f : Nat → Int32) (i : Nat) (x : Int32) : upd f i x i = x := if_pos rfl
theorem put_at (u : St) (k i : Nat) (x : Int32) : put u k i x k i = x := by rw [put_s, upd_at]
theorem swM_fr (u : St) (b : Bool) (f : Nat) (h1 : ¬ f = 2) (h2 : ¬ f = 3) (h3 : ¬ f = 6) (h4 : ¬ f = 9) : swM u b f = u f := by
  unfold swM f_X7_tick_k82 f_X7_tick_k131
  split
  · split
    · rw [put_n _ _ _ h1, put_n _ _ _ h3, put_n _ _ _ h4]
    · split
      · rw [put_n _ _ _ h2, put_n _ _ _ h3, put_n _ _ _ h4]
      · rw [put_n _ _ _ h1, put_n _ _ _ h3, put_n _ _ _ h4]
  · rw [put_n _ _ _ h3, put_n _ _ _ h4]
theorem swM_9 (u : St) (b : Bool) : swM u b 9 = upd (u 9) 0 (b2i b) := by
  unfold swM f_X7_tick_k82 f_X7_tick_k131
  split
  · split
    · rw [put_n _ _ _ (by decide), put_n _ _ _ (by decide), put_s]
    · split
      · rw [put_n _ _ _ (by decide), put_n _ _ _ (by decide), put_s]
      · rw [put_n _ _ _ (by decide), put_n _ _ _ (by decide), put_s]
  · rw [put_n _ _ _ (by decide), put_s]
theorem swM_6 (u : St) (b : Bool) : swM u b 6 = upd (u 6) 0 (u 6 0 + 1) := by
  unfold swM f_X7_tick_k82 f_X7_tick_k131
  split
  · split
    · rw [put_n _ _ _ (by decide), put_s, put_n _ _ _ (by decide)]
    · split
      · rw [put_n _ _ _ (by decide), put_s, put_n _ _ _ (by decide)]
      · rw [put_n _ _ _ (by decide), put_s, put_n _ _ _ (by decide)]
  · rw [put_s, put_n _ _ _ (by decide)]
theorem RP_switch {p u : St} (h : RP p u) (b : Bool) : RP (swC p) (swM u b) := by
  have hf : ∀ f, ¬ f = 6 → ¬ f = 7 → swC p f = p f := fun f h6 h7 => by
    unfold swC f_X2_moveSwitch
    split
    · split
      · exact put_n _ _ _ h6
      · split
        · exact put_n _ _ _ h6
        · exact put_n _ _ _ h7
    · rfl
  refine RP_sw h hf (fun f a b' c d => swM_fr u b f a b' c d) ?_ ?_ ?_
  all_goals unfold swM f_X7_tick_k82 f_X7_tick_k131
  all_goals try unfold swC f_X2_moveSwitch
  all_goals try rw [h.stk, h.hld]
  all_goals by_cases h4 : u 4 0 = 0
  all_goals first | rw [if_pos h4, if_pos h4] | rw [if_neg h4, if_neg h4] | rw [if_pos h4] | rw [if_neg h4]
  all_goals try (rw [put_n _ _ _ (by decide), put_n _ _ _ (by decide)]; first | exact h.lev | exact h.hld | exact h.bL; done)
  all_goals by_cases h3 : u 3 0 = 0
  all_goals first | rw [if_pos h3, if_pos h3] | rw [if_neg h3, if_neg h3] | rw [if_pos h3] | rw [if_neg h3]
  all_goals try (rw [put_at, put_at, h.lev]; exact (sw_dn h.bL).1)
  all_goals try (rw [put_n _ _ _ (by decide), put_n _ _ _ (by decide), put_n _ _ _ (by decide), put_n _ _ _ (by decide)]; exact h.hld)
  all_goals try (rw [put_at, ← (sw_dn h.bL).1]; exact (sw_dn h.bL).2)
  all_goals by_cases h2 : u 2 0 = 24
  all_goals have hq := (sw_up h.bL).1
  all_goals try have hq2 : ¬ u 2 0 < 24 := fun z => hq.mp z h2
  all_goals try have hq3 : u 2 0 < 24 := hq.mpr h2
  all_goals try rw [h.lev]
  all_goals try rw [if_neg hq2]
  all_goals try rw [if_pos hq3]
  all_goals first | rw [if_pos h2] | rw [if_neg h2]
  · rw [put_n _ _ _ (by decide), put_n _ _ _ (by decide), put_n _ _ _ (by decide), put_n _ _ _ (by decide)]; exact h.lev
  · rw [put_at, put_at]; exact (sw_up h.bL).2.1
  · rw [put_at, put_at]
  · rw [put_n _ _ _ (by decide), put_n _ _ _ (by decide), put_n _ _ _ (by decide), put_n _ _ _ (by decide)]; exact h.hld
  · rw [put_n _ _ _ (by decide), put_n _ _ _ (by decide), put_n _ _ _ (by decide)]; exact h.bL
  · rw [put_at, ← (sw_up h.bL).2.1]; exact (sw_up h.bL).2.2
theorem up_rel {α β : Type} {R : α → β → Prop} {f : Nat → α → α} {g : Nat → β → β} (lo hi : Nat) (h : ∀ k a b, lo ≤ k → k < hi → R a b → R (f k a) (g k b)) : ∀ (n k : Nat) (a : α) (b : β), lo ≤ k → k + n ≤ hi → R a b → R (up f k n a) (up g k n b)
  | 0, _, _, _, _, _, r => r
  | n + 1, k, a, b, h1, h2, r => up_rel lo hi h n (k + 1) (f k a) (g k b) (by omega) (by omega) (h k a b h1 (by omega) r)
theorem up_inv {α : Type} {I : α → Prop} {f : Nat → α → α} (lo hi : Nat) (h : ∀ k a, lo ≤ k → k < hi → I a → I (f k a)) : ∀ (n k : Nat) (a : α), lo ≤ k → k + n ≤ hi → I a → I (up f k n a)
  | 0, _, _, _, _, r => r
  | n + 1, k, a, h1, h2, r => up_inv lo hi h n (k + 1) (f k a) (by omega) (by omega) (h k a h1 (by omega) r)
def mvC (k o i : Nat) (p : St) : St := mvc k (f_X2_shift p k (f_X2_push p o i))
theorem mv_5 (r : Bool × St) : f_X2_move_o58 r = mvc 5 r := rfl
theorem mv_4 (r : Bool × St) : f_X2_move_o58_2 r = mvC 5 3 4 (mvc 4 r) := mv_5 _
theorem mv_3 (r : Bool × St) : f_X2_move_o58_3 r = mvC 5 3 4 (mvC 4 3 4 (mvc 3 r)) := mv_4 _
theorem mv_2 (p : St) : f_X2_move_o13 p = mvC 5 3 4 (mvC 4 3 4 (mvC 3 3 4 (mvC 2 1 2 (mvC 1 1 2 (mvC 0 1 2 p))))) := by
  unfold f_X2_move_o13 f_X2_move_o31_3 f_X2_move_o31_2 f_X2_move_o31
  rw [mv_3]
  have e : ∀ k, k < 3 → ∀ o i p, mvC k o i p = (f_X2_shift p k (f_X2_push p o i)).2 := fun k hk o i p => if_pos hk
  rw [e 0 (by decide), e 1 (by decide), e 2 (by decide)]
  rfl
theorem X2_move_eq (p : St) (o : Int32) : f_X2_move p o = mvC 5 3 4 (mvC 4 3 4 (mvC 3 3 4 (mvC 2 1 2 (mvC 1 1 2 (mvC 0 1 2 (f_X2_movePressures (swC p) o)))))) := by
  unfold f_X2_move f_X2_move_k11
  rw [mv_2]
  rfl
def sup0 (u b4 : St) : Bool := if (b4 11 0) = 2 then true else (if (b4 11 0) = 0 then (if ((f_X7_ordered u) &&& 1) = 1 then (if (b4 2 0) = 24 then true else false) else false) else false)
def prM (u b4 : St) : St := up (f_X7_tick_t199 u (if (b4 10 0) = 360 then true else false)) 1 (5 - 1) (f_X7_press b4 0 (sup0 u b4))
def plM (u : St) (b : Bool) : St := f_X7_move (f_X7_move (f_X7_move (f_X7_move (f_X7_move (f_X7_move (prM u (swM u b)) 0 1 2) 1 1 2) 2 1 2) 3 3 4) 4 3 4) 5 3 4
def bothM (u : St) : Bool := if (u 9 0) = 0 then (if ((f_X7_ordered u) &&& 6) = 6 then true else (if ((f_X7_ordered u) &&& 24) = 24 then true else false)) else true
theorem X7_tick_eq (u : St) : f_X7_tick u = f_X7_tick_o284 (plM u (bothM u)) := rfl
theorem has0 (o : Int32) : f_X6_has o 0 = (if (o &&& 1) = 1 then true else false) := by
  unfold f_X6_has
  rw [show (0 : Int32) &&& 31 = 0 from by decide, Int32.shiftRight_zero]
theorem fed_eq {p u : St} (h : RP p u) {i : Nat} (hi : i < 5) (a b : Bool) : f_X2_fed p i a b = (if u 11 i = 2 then b else (if u 11 i = 0 then a else false)) := by
  unfold f_X2_fed
  rw [h.vlv]
  rcases rg2 (h.bV i hi) with e | e | e <;> rw [e] <;> rfl
theorem RP_press4 {u p1 u1 : St} (hs : RP p1 u1) (o : Int32) (ho : o = f_X7_ordered u) : RP (f_X2_movePressures p1 o) (prM u u1) := by
  unfold f_X2_movePressures f_X2_movePressures_k32 f_X2_movePressures_o36 f_X2_movePressures_x41 prM
  have hfull : f_X2_full p1 0 = (if (u1 10 0) = 360 then true else false) := by unfold f_X2_full; rw [hs.prs]
  refine up_rel (R := RP) 1 5 ?_ (5 - 1) 1 _ _ (by decide) (by decide) ?_
  · intro k a b h1 h2 r
    unfold f_X2_movePressures_t41 f_X2_movePressures_k67 f_X2_movePressures_o71 f_X7_tick_t199 f_X7_tick_k243 f_X7_tick_o243
    rw [fed_eq r h2, hfull]
    have e : (if (b 11 k) = 2 then (if (u1 10 0) = 360 then true else false) else (if (b 11 k) = 0 then (if (f_X6_has o (nI k)) = true then (if (if (u1 10 0) = 360 then true else false) = true then true else false) else false) else false)) = (if (if (u1 10 0) = 360 then true else false) = true then (if (b 11 k) = 2 then true else (if (b 11 k) = 0 then (if (((f_X7_ordered u) >>> ((nI k) &&& 31)) &&& 1) = 1 then true else false) else false)) else false) := by
      unfold f_X6_has
      rw [ho]
      by_cases q : u1 10 0 = 360 <;> simp [q]
    rw [e]
    exact RP_press r h2 _
  · have e : f_X2_fed p1 0 (if (f_X6_has o 0) = true then (if (p1 6 0) = 24 then true else false) else false) true = sup0 u u1 := by
      rw [fed_eq hs (by decide), has0, hs.lev, ho]
      unfold sup0
      simp
    rw [e]
    exact RP_press hs (by decide) _
theorem RP_plant {p u : St} (h : RP p u) (b : Bool) (o : Int32) (ho : o = f_X7_ordered u) : RP (f_X2_move p o) (plM u b) := by
  have mv : ∀ {q v : St}, RP q v → ∀ {k : Nat}, k < 6 → ∀ o i, RP (mvC k o i q) (f_X7_move v k o i) := fun h _ hk o i => RP_move h hk o i
  rw [X2_move_eq]
  unfold plM
  exact mv (mv (mv (mv (mv (mv (RP_press4 (RP_switch h b) o ho) (by decide) 1 2) (by decide) 1 2) (by decide) 1 2) (by decide) 3 4) (by decide) 3 4) (by decide) 3 4
theorem press_fr (u : St) (k : Nat) (b : Bool) (f : Nat) (h : ¬ f = 10) : f_X7_press u k b f = u f := put_n _ _ _ h
theorem move_fr (u : St) (k o i f : Nat) (h : ¬ f = 13) (h7 : ¬ f = 7) : f_X7_move u k o i f = u f := by
  have key : ∀ b6 b8, f_X7_move_k89 u k b6 b8 f = u f := fun b6 b8 => by
    unfold f_X7_move_k89 f_X7_move_k169
    split
    · split
      · split
        · rfl
        · rw [put_n _ _ _ h7, put_n _ _ _ h]
      · rfl
    · rfl
  exact key _ _
theorem prM_fr (u b4 : St) (f : Nat) (h : ¬ f = 10) : prM u b4 f = b4 f := by
  unfold prM
  refine up_inv (I := fun (a : St) => a f = b4 f) 1 5 ?_ 4 1 _ (by decide) (by decide) ?_
  · intro k a _ _ r
    exact (press_fr a k _ f h).trans r
  · exact press_fr _ _ _ f h
theorem plM_fr0 (u : St) (b : Bool) (f : Nat) (h : ¬ f = 13) (h7 : ¬ f = 7) (h10 : ¬ f = 10) : plM u b f = swM u b f := by
  unfold plM
  rw [move_fr _ _ _ _ f h h7, move_fr _ _ _ _ f h h7, move_fr _ _ _ _ f h h7, move_fr _ _ _ _ f h h7, move_fr _ _ _ _ f h h7, move_fr _ _ _ _ f h h7, prM_fr _ _ f h10]
