/-! The calls that read, alike -/
theorem CK_rd {n r : Nat} {x : Sy} {u : St} (h : RT n x u) (hl : LB r u) {a b : Int32} (e : a = b) : CK n r (a, x) (b, put u 0 0 0) := ⟨e, RT_p0 h, LB_put (by decide) hl⟩
theorem CK_plant {n r : Nat} {x : Sy} {u : St} (h : RT n x u) (hl : LB r u) (w : Int32) : CK n r (f_X6_plant x w, x) (f_X7_plant u w) := by
  unfold f_X6_plant f_X6_plant_l20 f_X6_plant_l45 f_X7_plant
  have p := h.1.p
  by_cases k : f_X7_in w 0 17 = true
  · rw [if_pos k]
    obtain ⟨e, hk⟩ := in0_nat 17 (by decide) rfl k
    have h0 : ¬ w < 0 := fun z => by
      unfold f_X7_in at k; rw [if_pos z] at k; cases k
    rw [if_neg h0]
    by_cases h6 : w < 6
    · rw [if_pos h6, if_pos (Int32.lt_trans h6 (by decide)), if_pos h6]; exact CK_rd h hl (congrFun p.plc _)
    · rw [if_neg h6, if_neg h6, if_neg h6]
      by_cases h11 : w < 11
      · rw [if_pos h11, if_pos h11]; exact CK_rd h hl (congrFun p.prs _)
      · rw [if_neg h11, if_neg h11]
        by_cases c11 : w = 11
        · rw [if_pos c11, if_pos c11]; exact CK_rd h hl p.lev
        · rw [if_neg c11, if_neg c11]
          by_cases c12 : w = 12
          · rw [if_pos c12, if_pos c12]; exact CK_rd h hl p.hld
          · rw [if_neg c12, if_neg c12]
            by_cases c13 : w = 13
            · rw [if_pos c13, if_pos c13]; exact CK_rd h hl p.hnd
            · rw [if_neg c13, if_neg c13]
              by_cases c14 : w = 14
              · rw [if_pos c14, if_pos c14]; exact CK_rd h hl p.gnd
              · rw [if_neg c14, if_neg c14]
                by_cases c15 : w = 15
                · rw [if_pos c15, if_pos c15]; exact CK_rd h hl h.1.t
                · rw [if_neg c15, if_neg c15]
                  by_cases c16 : w = 16
                  · rw [if_pos c16, if_pos c16]; exact CK_rd h hl p.scr
                  · rw [if_neg c16, if_neg c16]
                    have c17 : w = 17 := by
                      generalize ixn w = j at e hk
                      subst e
                      have q : j = 0 ∨ j = 1 ∨ j = 2 ∨ j = 3 ∨ j = 4 ∨ j = 5 ∨ j = 6 ∨ j = 7 ∨ j = 8 ∨ j = 9 ∨ j = 10 ∨ j = 11 ∨ j = 12 ∨ j = 13 ∨ j = 14 ∨ j = 15 ∨ j = 16 ∨ j = 17 := by omega
                      rcases q with q | q | q | q | q | q | q | q | q | q | q | q | q | q | q | q | q | q <;> subst q
                      all_goals first | rfl | exact absurd (by decide) h11 | exact absurd rfl c11 | exact absurd rfl c12 | exact absurd rfl c13 | exact absurd rfl c14 | exact absurd rfl c15 | exact absurd rfl c16
                    rw [if_pos c17]; exact CK_rd h hl ((RQ_ord h.1).1)
  · have k' := k
    rw [if_neg k]
    have ne : ∀ j : Nat, j ≤ 17 → ¬ w = nI j := fun j hj z => by
      subst z
      have q : j = 0 ∨ j = 1 ∨ j = 2 ∨ j = 3 ∨ j = 4 ∨ j = 5 ∨ j = 6 ∨ j = 7 ∨ j = 8 ∨ j = 9 ∨ j = 10 ∨ j = 11 ∨ j = 12 ∨ j = 13 ∨ j = 14 ∨ j = 15 ∨ j = 16 ∨ j = 17 := by omega
      rcases q with q | q | q | q | q | q | q | q | q | q | q | q | q | q | q | q | q | q <;> subst q <;> exact absurd (by decide) k'
    have l45 : (if w = 11 then ((x 1) 6 0) else (if w = 12 then ((x 1) 7 0) else (if w = 13 then ((x 1) 5 0) else (if w = 14 then ((x 1) 9 0) else (if w = 15 then ((x 0) 4 0) else (if w = 16 then ((x 1) 10 0) else (if w = 17 then (f_X6_ordered x) else (-2)))))))) = -2 := by
      rw [if_neg (show ¬ w = 11 from ne 11 (by decide)), if_neg (show ¬ w = 12 from ne 12 (by decide)), if_neg (show ¬ w = 13 from ne 13 (by decide)), if_neg (show ¬ w = 14 from ne 14 (by decide)), if_neg (show ¬ w = 15 from ne 15 (by decide)), if_neg (show ¬ w = 16 from ne 16 (by decide)), if_neg (show ¬ w = 17 from ne 17 (by decide))]
    rw [l45]
    by_cases h0 : w < 0
    · rw [if_pos h0, if_pos (Int32.lt_trans h0 (by decide))]; exact CK_bad h hl
    · have h17 : ¬ w < 11 := fun z => k (by
        unfold f_X7_in; rw [if_neg h0, if_neg (fun y => by have := Int32.lt_trans z (Int32.lt_trans (show (11 : Int32) < 17 by decide) y); exact absurd this Int32.lt_irrefl)])
      have h6 : ¬ w < 6 := fun z => h17 (Int32.lt_trans z (by decide))
      rw [if_neg h0, if_neg h6, if_neg h6, if_neg h17]; exact CK_bad h hl
theorem CK_sees {n r : Nat} {x : Sy} {u : St} (h : RT n x u) (hl : LB r u) (a b w : Int32) : CK n r (f_X6_sees x a b w, x) (f_X7_sees u a b w) := by
  unfold f_X6_sees f_X7_sees
  have oc := @case01 a
  rw [out_in] at oc
  rw [out_in, out_in, out_in]
  by_cases k : f_X7_in a 0 1 = true
  · rw [k] at oc ⊢
    rw [if_pos rfl]
    by_cases k2 : f_X7_in b 0 17 = true
    · have hb := (in0_nat 17 (by decide) rfl k2).2
      have hb' : ixn b < 18 := by omega
      rw [k2, if_pos rfl]
      by_cases k3 : f_X7_in w 0 1 = true
      · rw [k3, if_pos rfl]
        by_cases a0 : a = 0
        · subst a0
          have q := h.1.m0.vts (ixn b) hb'
          have e0 : ixn 0 = 0 := by decide
          rw [e0, if_neg (c := (!true) = true) (by decide), if_neg (c := (!true) = true) (by decide), if_neg (c := (!true) = true) (by decide), if_pos rfl]
          by_cases w0 : w = 0
          · rw [if_pos w0, if_pos w0]; exact CK_rd h hl q.see
          · rw [if_neg w0, if_neg w0]; exact CK_rd h hl q.inn
        · have a1 := oc rfl a0
          subst a1
          have q := h.1.m1.vts (ixn b) hb'
          have e0 : ixn 1 = 1 := by decide
          rw [e0, if_neg (c := (!true) = true) (by decide), if_neg (c := (!true) = true) (by decide), if_neg (c := (!true) = true) (by decide), if_neg a0]
          by_cases w0 : w = 0
          · rw [if_pos w0, if_pos w0]; exact CK_rd h hl q.see
          · rw [if_neg w0, if_neg w0]; exact CK_rd h hl q.inn
      · rw [Bool.not_eq_true] at k3
        rw [k3]; exact CK_bad h hl
    · rw [Bool.not_eq_true] at k2
      rw [k2]; exact CK_bad h hl
  · rw [Bool.not_eq_true] at k
    rw [k]; exact CK_bad h hl
theorem CK_tells {n r : Nat} {x : Sy} {u : St} (h : RT n x u) (hl : LB r u) (a b : Int32) : CK n r (f_X6_tells x a b, x) (f_X7_tells u a b) := by
  unfold f_X6_tells f_X7_tells
  rw [out_in, out_in]
  by_cases k : f_X7_in a 0 17 = true
  · rw [k, if_pos rfl]
    by_cases k2 : f_X7_in b 0 2 = true
    · rw [k2, if_pos rfl]
      have ha := (in0_nat 17 (by decide) rfl k).2
      have hb := (in0_nat 2 (by decide) rfl k2).2
      exact CK_rd h hl (told_eq h.1.s (by omega) (by omega)).1
    · rw [Bool.not_eq_true] at k2
      rw [k2]; exact CK_bad h hl
  · rw [Bool.not_eq_true] at k
    rw [k]; exact CK_bad h hl
theorem CK_lights {n r : Nat} {x : Sy} {u : St} (h : RT n x u) (hl : LB r u) : CK n r (f_X6_lights x, x) (f_X7_lights u) := CK_rd h hl h.2
theorem CK_logged {n r : Nat} {x : Sy} {u : St} (h : RT n x u) (hl : LB r u) : CK n r (f_X6_logged x, x) (f_X7_logged u) := CK_rd h hl h.1.g.cnt
theorem CK_log {n r : Nat} {x : Sy} {u : St} (h : RT n x u) (hl : LB r u) (a b : Int32) : CK n r (f_X6_log x a b, x) (f_X7_log u a b) := by
  unfold f_X6_log f_X7_log f_X1_number
  rw [out_in]
  by_cases k : f_X7_in b 0 2 = true
  · rw [k, if_pos rfl]
    rw [if_neg (c := (!true) = true) (by decide), h.1.g.cnt, h.1.g.num]
    by_cases h0 : a < 0
    · rw [if_pos h0, if_pos h0]; exact CK_rd h hl rfl
    · rw [if_neg h0, if_neg h0, fm_nn h0, Nat.mul_comm 3]
      by_cases h1 : a < u 29 0
      · rw [if_pos h1, if_pos h1]
        by_cases h2 : a < u 29 0 - 64
        · rw [if_pos h2, if_pos h2]; exact CK_rd h hl rfl
        · rw [if_neg h2, if_neg h2]; exact CK_rd h hl rfl
      · rw [if_neg h1, if_neg h1]; exact CK_rd h hl rfl
  · rw [Bool.not_eq_true] at k
    rw [k]; exact CK_bad h hl
theorem imx_eq (a b : Int32) : imx a b = (if b < a then a else b) := by
  unfold imx
  by_cases h : a < b
  · rw [if_pos h, if_neg (fun z => Int32.lt_irrefl (Int32.lt_trans h z))]
  · rw [if_neg h]
    by_cases h2 : b < a
    · rw [if_pos h2]
    · rw [if_neg h2]
      exact Int32.le_antisymm (Int32.not_lt.mp h2) (Int32.not_lt.mp h)
theorem CK_bound {n r : Nat} {x : Sy} {u : St} (h : RT n x u) (hl : LB r u) : CK n r (f_X6_bound x, x) (f_X7_bound u) := by
  refine CK_rd h hl ?_
  unfold f_X6_bound f_X2_greatestLength
  rw [imx_eq, imx_eq, h.1.p.len]
/-- the same of a call that answers a boolean -/
def CKb (n r : Nat) (a : Bool × Sy) (b : Bool × St) : Prop := a.1 = b.1 ∧ RT n a.2 b.2 ∧ LB r b.2
theorem CK_safe {n r : Nat} {x : Sy} {u : St} (h : RT n x u) (hl : LB r u) : CKb n r (f_X6_safe x, x) (f_X7_safe u) := by
  unfold f_X6_safe f_X7_safe
  rw [h.1.p.scr, h.1.b]
  by_cases a : u 7 0 = 0
  · rw [if_pos a, if_pos a]
    by_cases b : u 9 0 = 0
    · rw [if_pos b, if_pos b]; exact ⟨rfl, RT_p0 h, LB_put (by decide) hl⟩
    · rw [if_neg b, if_neg b]; exact ⟨rfl, RT_p0 h, LB_put (by decide) hl⟩
  · rw [if_neg a, if_neg a]; exact ⟨rfl, RT_p0 h, LB_put (by decide) hl⟩
/-- about: what it answers is not said; it changes nothing but the reference's field 0 -/
theorem about_st (u : St) (a w : Int32) : (f_X7_about u a w).2 = put u 0 0 0 := by
  unfold f_X7_about
  repeat' split
  all_goals rfl
theorem CS_about {n r : Nat} {x : Sy} {u : St} (h : RT n x u) (hl : LB r u) (a w : Int32) : RT n x (f_X7_about u a w).2 ∧ LB r (f_X7_about u a w).2 := by
  rw [about_st]; exact ⟨RT_p0 h, LB_put (by decide) hl⟩
/-- about of modules without a cause -/
theorem fact_eq {m n : Nat} {c v ww u : St} (h : RM m n c v ww u) (z : u 19 m = 0) (w : Int32) (k : f_X7_in w 0 6 = true) : f_X0_fact c v ww w = (if w = 0 then u 16 m else if w = 1 then u 17 m else if w = 2 then u 18 m else if w = 3 then f_X7_orders u m else if w = 4 then u 19 m else if w = 5 then (if u 20 m = 0 then 0 else 1) else u 21 m) := by
  have L := h.liv z
  have o := (ord_eq (v := v) (w := ww) h.ded h.stg h.bG h.cau h.bC (fun _ => L.gol)).1
  unfold f_X0_fact
  rw [h.stg, L.gol, o, h.cau, L.aga, h.ded, ← L.age]
  have e5 : (if u 20 m = 0 then (0 : Int32) else 1) = u 20 m := by
    rcases rg1 L.bA with q | q <;> rw [q] <;> decide
  rw [e5]
  obtain ⟨e, hk⟩ := in0_nat 6 (by decide) rfl k
  generalize ixn w = j at e hk
  subst e
  have q : j = 0 ∨ j = 1 ∨ j = 2 ∨ j = 3 ∨ j = 4 ∨ j = 5 ∨ j = 6 := by omega
  rcases q with q | q | q | q | q | q | q <;> subst q <;> rfl
theorem fact_bad {c v ww : St} (w : Int32) (k : ¬ f_X7_in w 0 6 = true) : f_X0_fact c v ww w = -2 := by
  have ne : ∀ j : Nat, j ≤ 6 → ¬ w = nI j := fun j hj z => by
    subst z
    have q : j = 0 ∨ j = 1 ∨ j = 2 ∨ j = 3 ∨ j = 4 ∨ j = 5 ∨ j = 6 := by omega
    rcases q with q | q | q | q | q | q | q <;> subst q <;> exact absurd (by decide) k
  unfold f_X0_fact
  rw [if_neg (show ¬ w = 0 from ne 0 (by decide)), if_neg (show ¬ w = 1 from ne 1 (by decide)), if_neg (show ¬ w = 2 from ne 2 (by decide)), if_neg (show ¬ w = 3 from ne 3 (by decide)), if_neg (show ¬ w = 4 from ne 4 (by decide)), if_neg (show ¬ w = 5 from ne 5 (by decide)), if_neg (show ¬ w = 6 from ne 6 (by decide))]
theorem CK_about0 {n r : Nat} {x : Sy} {u : St} (h : RT n x u) (hl : LB r u) (z0 : u 19 0 = 0) (z1 : u 19 1 = 0) (a w : Int32) : CK n r (f_X6_about x a w, x) (f_X7_about u a w) := by
  refine ⟨?_, CS_about h hl a w⟩
  dsimp only
  unfold f_X6_about f_X7_about
  have oc := @case01 a
  rw [out_in] at oc
  rw [out_in]
  by_cases k : f_X7_in a 0 1 = true
  · rw [k] at oc ⊢
    rw [if_pos rfl, if_neg (c := (!true) = true) (by decide)]
    have key : ∀ m : Nat, ∀ (s : Int32), s = (if w = 0 then u 16 m else if w = 1 then u 17 m else if w = 2 then u 18 m else if w = 3 then f_X7_orders u m else if w = 4 then u 19 m else if w = 5 then (if u 20 m = 0 then 0 else 1) else u 21 m) → s = ((if w = 0 then (u 16 m, put u 0 0 0) else (if w = 1 then (u 17 m, put u 0 0 0) else (if w = 2 then (u 18 m, put u 0 0 0) else (if w = 3 then ((f_X7_orders (put u 0 0 0) m), put u 0 0 0) else (if w = 4 then (u 19 m, put u 0 0 0) else (if w = 5 then (if (u 20 m) = 0 then (0, put u 0 0 0) else (1, put u 0 0 0)) else (u 21 m, put u 0 0 0)))))))).1 := fun m s e => by
      rw [e]
      repeat' split
      all_goals rfl
    by_cases k2 : f_X7_in w 0 6 = true
    · rw [if_pos k2]
      by_cases a0 : a = 0
      · subst a0
        rw [if_pos rfl]
        exact key 0 _ (fact_eq h.1.m0 z0 w k2)
      · have a1 := oc rfl a0
        subst a1
        rw [if_neg a0]
        exact key 1 _ (fact_eq h.1.m1 z1 w k2)
    · rw [if_neg k2]
      by_cases a0 : a = 0
      · rw [if_pos a0]; exact fact_bad w k2
      · rw [if_neg a0]; exact fact_bad w k2
  · rw [if_neg k]
    rw [Bool.not_eq_true] at k
    rw [k]; rfl
