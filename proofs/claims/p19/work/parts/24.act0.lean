theorem age_next {a : Int32} {n : Nat} (h0 : 0 ≤ a.toInt) (h1 : a.toInt + (n + 1 : Nat) < 2 ^ 31) : (if imn a 99 < 99 then imn a 99 + 1 else 99) = imn (a + 1) 99 ∧ 1 ≤ (a + 1).toInt ∧ (a + 1).toInt + n < 2 ^ 31 := by
  have z : (99 : Int32).toInt = 99 := by decide
  have o : (1 : Int32).toInt = 1 := by decide
  have e : (a + 1).toInt = a.toInt + 1 := by
    rw [Int32.toInt_add, o, Int.bmod_eq_of_le (by omega) (by omega)]
  refine ⟨?_, by omega, by omega⟩
  unfold imn
  by_cases h : 99 < a
  · have h' := Int32.lt_iff_toInt_lt.mp h
    rw [if_pos h, if_neg (by decide), if_pos (Int32.lt_iff_toInt_lt.mpr (by rw [e]; omega))]
  · rw [if_neg h]
    have h' : ¬ (99 : Int32).toInt < a.toInt := fun q => h (Int32.lt_iff_toInt_lt.mpr q)
    by_cases h2 : a < 99
    · have h2' := Int32.lt_iff_toInt_lt.mp h2
      rw [if_pos h2, if_neg (fun q => by have := Int32.lt_iff_toInt_lt.mp q; omega)]
    · have h2' : ¬ a.toInt < (99 : Int32).toInt := fun q => h2 (Int32.lt_iff_toInt_lt.mpr q)
      rw [if_neg h2, if_pos (Int32.lt_iff_toInt_lt.mpr (by rw [e]; omega))]
theorem advance_g (u : St) (m f : Nat) (h : ¬ f = 29) (h2 : ¬ f = 30) (h3 : ¬ f = 16) (h4 : ¬ f = 17) (h5 : ¬ f = 20) : f_X7_advance u m f = u f := by
  have key : ∀ b2, f_X7_advance_k22 u m b2 f = u f := fun b2 => by
    have c : ∀ x, f_X7_come u m x f = u f := fun x => come_g u m x f h h2 h3 h4
    have c2 : ∀ x, f_X7_come (put u 20 m 0) m x f = u f := fun x => by rw [come_g _ m x f h h2 h3 h4, put_n _ _ _ h5]
    unfold f_X7_advance_k22
    split
    · split; rfl; exact c _
    · split
      · split; exact c _; rfl
      · split
        · cases b2; rfl; exact c _
        · split
          · by_cases q : u 17 m < 1
            · rw [if_pos q]
            · rw [if_neg q]; exact c _
          · split
            · by_cases q : u 17 m < 1
              · rw [if_pos q]
              · rw [if_neg q]; exact c2 _
            · split
              · split; exact c _; rfl
              · split
                · split; rfl; exact c _
                · rfl
  exact key _
theorem change_any (u : St) (m : Nat) : ∃ x, ∀ f, ¬ f = 29 → ¬ f = 30 → ¬ f = 16 → ¬ f = 17 → f_X7_change u m f = put (put u 18 m (u 25 (18 * m))) 20 m x f := by
  have key : ∀ b2, ∀ f, ¬ f = 29 → ¬ f = 30 → ¬ f = 16 → ¬ f = 17 → f_X7_change_k58 u m b2 f = put (put u 18 m (u 25 (18 * m))) 20 m (b2i b2) f := fun b2 f a b c d => by
    unfold f_X7_change_k58 f_X7_change_o66 f_X7_change_o80
    split
    · exact come_g _ m _ f a b c d
    · split
      · exact come_g _ m _ f a b c d
      · split
        · exact come_g _ m _ f a b c d
        · split
          · exact come_g _ m _ f a b c d
          · rfl
  exact ⟨_, key _⟩
theorem RM_act0 {m n : Nat} {c v w u sS g : St} {t : Int32} (h : RM m (n + 1) c v w u) (hS : RS sS u) (hg : RG g u) (al : u 21 m = 0) (hc : u 19 m = 0) (hn : n < 2 ^ 31) (hL : LB 2 u) (ht : t = u 6 0) :
    RM m n (f_X0_act c v w sS g t).1 (f_X0_act c v w sS g t).2.1 (f_X0_act c v w sS g t).2.2.1 (f_X7_act u m) ∧ RG (f_X0_act c v w sS g t).2.2.2 (f_X7_act u m) := by
  obtain ⟨hv, hf, _⟩ := RV_take hS h.vts
  have L := h.liv hc
  have fr : ∀ f, ¬ f = 25 ∧ ¬ f = 26 ∧ ¬ f = 27 → up (f_X7_act_t23 m) 0 18 u f = u f := fun f q => FrV_f hf f q
  rw [act_split]
  generalize f_X4_take v sS = o1 at *
  have k2 : f_X7_act u m = f_X7_act_x23 u m (up (f_X7_act_t23 m) 0 18 u) := if_neg (by rw [al]; decide)
  rw [k2]
  generalize up (f_X7_act_t23 m) 0 18 u = u3 at *
  have o10 : o1 0 0 = u3 25 (18 * m) := (hv 0 (by decide)).see
  have hgo : c 5 0 = u 25 (18 * m) := L.gol.trans L.see
  unfold f_X7_act_x23 f_X7_act_k102
  rw [if_neg (c := 0 < u3 19 m) (by rw [fr 19 (by decide), hc]; decide)]
  unfold f_X7_act_k142
  obtain ⟨ag, ag1, ag2⟩ := age_next L.bg.1 L.bg.2
  have e17 : (if u3 17 m < 99 then u3 17 m + 1 else 99) = imn (c 4 0 + 1) 99 := by rw [fr 17 (by decide), L.age]; exact ag
  rw [e17, fr 18 (by decide), fr 22 (by decide), ← L.see, o10, L.gol]
  have y0 : ∀ x, ∀ f, ¬ f = 22 → ¬ f = 17 → put (put u3 22 m x) 17 m (imn (c 4 0 + 1) 99) f = u3 f := fun x f a b => by rw [put_n _ _ _ b, put_n _ _ _ a]
  have yu : ∀ x, ∀ f, ¬ f = 22 → ¬ f = 17 → (¬ f = 25 ∧ ¬ f = 26 ∧ ¬ f = 27) → put (put u3 22 m x) 17 m (imn (c 4 0 + 1) 99) f = u f := fun x f a b d => (y0 x f a b).trans (fr f d)
  have y22 : ∀ x, put (put u3 22 m x) 17 m (imn (c 4 0 + 1) 99) 22 m = x := fun x => by rw [put_n _ _ _ (by decide), put_at]
  have y17 : ∀ x, put (put u3 22 m x) 17 m (imn (c 4 0 + 1) 99) 17 m = imn (c 4 0 + 1) 99 := fun x => put_at _ _ _ _
  have c4 : ∀ f, ¬ f = 4 → put c 4 0 (c 4 0 + 1) f = c f := fun f q => put_n _ _ _ q
  have c44 : put c 4 0 (c 4 0 + 1) 4 0 = c 4 0 + 1 := put_at _ _ _ _
  have one : LB 2 u := hL
  have nn0 : ¬ u 29 0 < 0 := LB_nn hL
  have Ly : ∀ x, LB 2 (put (put u3 22 m x) 17 m (imn (c 4 0 + 1) 99)) := fun x => LB_fr hL (yu x 29 (by decide) (by decide) (by decide))
  have RGy : ∀ x, RG g (put (put u3 22 m x) 17 m (imn (c 4 0 + 1) 99)) := fun x => ⟨by rw [yu x 30 (by decide) (by decide) (by decide)]; exact hg.num, by rw [yu x 29 (by decide) (by decide) (by decide)]; exact hg.cnt⟩
  have hvy : ∀ x, RV m o1 (put (put u3 22 m x) 17 m (imn (c 4 0 + 1) 99)) := fun x => RV_fr hv (y0 x 25 (by decide) (by decide)) (y0 x 26 (by decide) (by decide)) (y0 x 27 (by decide) (by decide))
  have nno : ∀ b : St, LB 1 b → ¬ b 29 0 < 0 := fun b q => LB_nn q
  by_cases T : u3 25 (18 * m) = u 18 m
  · rw [if_pos T, if_pos T, if_pos T]
    have e : (if u 22 m < 0 then (-1 : Int32) else (if u 22 m < 1000 then (u 22 m + 1) else 1000)) = nxC (u 22 m) := rfl
    rw [e]
    obtain ⟨nx1, nx2⟩ := nxC_ok L.bW
    have Ky : K m n (put c 4 0 (c 4 0 + 1)) (put (put u3 22 m (nxC (u 22 m))) 17 m (imn (c 4 0 + 1) 99)) := by
      refine ⟨?_, ?_, ?_, ?_, ?_, ?_, ?_, ?_, ?_, ?_, ?_⟩
      · rw [c4 0 (by decide)]; exact h.num
      · rw [c4 3 (by decide), yu _ 16 (by decide) (by decide) (by decide)]; exact h.stg
      · rw [yu _ 16 (by decide) (by decide) (by decide)]; exact h.bG
      · rw [c4 7 (by decide)]; exact h.cau.trans hc
      · rw [yu _ 19 (by decide) (by decide) (by decide)]; exact hc
      · rw [c4 8 (by decide), yu _ 21 (by decide) (by decide) (by decide)]; exact h.ded
      · rw [c4 5 (by decide), yu _ 18 (by decide) (by decide) (by decide)]; exact L.gol
      · rw [c4 6 (by decide), yu _ 20 (by decide) (by decide) (by decide)]; exact L.aga
      · rw [yu _ 20 (by decide) (by decide) (by decide)]; exact L.bA
      · rw [y17, c44]
      · rw [c44]; exact ⟨by omega, ag2⟩
    have KA := K_adv (w := w) (g := g) (t := t) Ky (by rw [c44]; exact ag1) hn (hvy _) (RGy _) (nno _ (LB_fr hL (yu _ 29 (by decide) (by decide) (by decide)) |> fun q => LB_lo q (by decide))) (by rw [yu _ 6 (by decide) (by decide) (by decide)]; exact ht)
    have LA := LB_advance (n := 1) (m := m) (Ly (nxC (u 22 m)))
    have G : ∀ f : Nat, ¬ f = 29 → ¬ f = 30 → ¬ f = 16 → ¬ f = 17 → ¬ f = 20 → f_X7_advance (put (put u3 22 m (nxC (u 22 m))) 17 m (imn (c 4 0 + 1) 99)) m f = put (put u3 22 m (nxC (u 22 m))) 17 m (imn (c 4 0 + 1) 99) f := fun f a1 a2 a3 a4 a5 => advance_g _ m f a1 a2 a3 a4 a5
    rw [show b5C (put c 4 0 (c 4 0 + 1)) o1 w false = (f_X0_nextStage (put c 4 0 (c 4 0 + 1)) o1 w, put c 4 0 (c 4 0 + 1)) from rfl]
    generalize stp o1 w g t (f_X0_nextStage (put c 4 0 (c 4 0 + 1)) o1 w, put c 4 0 (c 4 0 + 1)) = P at KA ⊢
    obtain ⟨c', g'⟩ := P
    dsimp only at KA ⊢
    refine RM_tail (tb := false) KA.1 (RV_fr (hvy _) (G 25 (by decide) (by decide) (by decide) (by decide) (by decide)) (G 26 (by decide) (by decide) (by decide) (by decide) (by decide)) (G 27 (by decide) (by decide) (by decide) (by decide) (by decide))) ?_ ?_ ?_ ?_ ?_ KA.2 (nno _ LA) ?_ ?_
    · rw [G 18 (by decide) (by decide) (by decide) (by decide) (by decide), G 25 (by decide) (by decide) (by decide) (by decide) (by decide), yu _ 18 (by decide) (by decide) (by decide), y0 _ 25 (by decide) (by decide)]; exact T.symm
    · intro j hj
      rw [G 23 (by decide) (by decide) (by decide) (by decide) (by decide), yu _ 23 (by decide) (by decide) (by decide)]; exact L.wr.ord j hj
    · rw [G 24 (by decide) (by decide) (by decide) (by decide) (by decide), yu _ 24 (by decide) (by decide) (by decide)]; exact L.wr.idl
    · rw [G 22 (by decide) (by decide) (by decide) (by decide) (by decide), y22, if_neg Bool.false_ne_true, L.wr.cha]; exact nx2
    · rw [G 22 (by decide) (by decide) (by decide) (by decide) (by decide), y22]; exact nx1
    · rw [G 6 (by decide) (by decide) (by decide) (by decide) (by decide), yu _ 6 (by decide) (by decide) (by decide)]; exact ht
    · rw [G 21 (by decide) (by decide) (by decide) (by decide) (by decide), yu _ 21 (by decide) (by decide) (by decide)]; exact h.bD
  · rw [if_neg T, if_neg T, if_neg T]
    unfold f_X7_act_o163
    have KC := K_chg (n := n) (c := put c 4 0 (c 4 0 + 1)) (u := put (put u3 22 m 0) 17 m (imn (c 4 0 + 1) 99)) (v := o1) (w := w) (g := g) (t := t)
      (by rw [c4 0 (by decide)]; exact h.num) (by rw [c4 3 (by decide), yu _ 16 (by decide) (by decide) (by decide)]; exact h.stg) (by rw [yu _ 16 (by decide) (by decide) (by decide)]; exact h.bG)
      (by rw [c4 7 (by decide)]; exact h.cau.trans hc) (by rw [yu _ 19 (by decide) (by decide) (by decide)]; exact hc) (by rw [c4 8 (by decide), yu _ 21 (by decide) (by decide) (by decide)]; exact h.ded)
      (by rw [c4 6 (by decide), yu _ 20 (by decide) (by decide) (by decide)]; exact L.aga) (by rw [yu _ 20 (by decide) (by decide) (by decide)]; exact L.bA) (by rw [y17, c44]) (by rw [c44]; exact ⟨by omega, ag2⟩) hn (hvy _) (RGy _) (nno _ (LB_lo (Ly 0) (by decide))) (by rw [yu _ 6 (by decide) (by decide) (by decide)]; exact ht)
    have LA := LB_change (n := 1) (m := m) (Ly 0)
    obtain ⟨x, G⟩ := change_any (put (put u3 22 m 0) 17 m (imn (c 4 0 + 1) 99)) m
    have G2 : ∀ f : Nat, ¬ f = 29 → ¬ f = 30 → ¬ f = 16 → ¬ f = 17 → ¬ f = 18 → ¬ f = 20 → f_X7_change (put (put u3 22 m 0) 17 m (imn (c 4 0 + 1) 99)) m f = put (put u3 22 m 0) 17 m (imn (c 4 0 + 1) 99) f := fun f a b c d e i => by rw [G f a b c d, put_n _ _ _ i, put_n _ _ _ e]
    rw [show b5C (put c 4 0 (c 4 0 + 1)) o1 w true = f_X0_turn (put c 4 0 (c 4 0 + 1)) o1 w from rfl]
    generalize stp o1 w g t (f_X0_turn (put c 4 0 (c 4 0 + 1)) o1 w) = P at KC ⊢
    obtain ⟨c', g'⟩ := P
    dsimp only at KC ⊢
    refine RM_tail (tb := true) KC.1 (RV_fr (hvy _) (G2 25 (by decide) (by decide) (by decide) (by decide) (by decide) (by decide)) (G2 26 (by decide) (by decide) (by decide) (by decide) (by decide) (by decide)) (G2 27 (by decide) (by decide) (by decide) (by decide) (by decide) (by decide))) ?_ ?_ ?_ ?_ ?_ KC.2 (nno _ LA) ?_ ?_
    · rw [G 18 (by decide) (by decide) (by decide) (by decide), G2 25 (by decide) (by decide) (by decide) (by decide) (by decide) (by decide), put_n _ _ _ (by decide), put_at]
    · intro j hj
      rw [G2 23 (by decide) (by decide) (by decide) (by decide) (by decide) (by decide), yu _ 23 (by decide) (by decide) (by decide)]; exact L.wr.ord j hj
    · rw [G2 24 (by decide) (by decide) (by decide) (by decide) (by decide) (by decide), yu _ 24 (by decide) (by decide) (by decide)]; exact L.wr.idl
    · rw [G2 22 (by decide) (by decide) (by decide) (by decide) (by decide) (by decide), y22, if_pos rfl]; decide
    · rw [G2 22 (by decide) (by decide) (by decide) (by decide) (by decide) (by decide), y22]; exact Or.inr ⟨0, by decide, rfl⟩
    · rw [G2 6 (by decide) (by decide) (by decide) (by decide) (by decide) (by decide), yu _ 6 (by decide) (by decide) (by decide)]; exact ht
    · rw [G2 21 (by decide) (by decide) (by decide) (by decide) (by decide) (by decide), yu _ 21 (by decide) (by decide) (by decide)]; exact h.bD
