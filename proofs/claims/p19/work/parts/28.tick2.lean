/-! A tick, second half: the modules, the lights -/
theorem RM_act {m n : Nat} {c v w u sS g : St} {t : Int32} (h : RM m (n + 1) c v w u) (hS : RS sS u) (hg : RG g u) (al : u 21 m = 0) (hn : n < 2 ^ 31) (hL : LB 2 u) (ht : t = u 6 0) :
    RM m n (f_X0_act c v w sS g t).1 (f_X0_act c v w sS g t).2.1 (f_X0_act c v w sS g t).2.2.1 (f_X7_act u m) ∧ RG (f_X0_act c v w sS g t).2.2.2 (f_X7_act u m) := by
  by_cases hc : u 19 m = 0
  · exact RM_act0 h hS hg al hc hn hL ht
  · exact RM_act1 h hS hg al hc
theorem act_frm {m n : Nat} {c v w u sS : St} (h : RM m n c v w u) (hS : RS sS u) : FrM m u (f_X7_act u m) := act_fr (RV_take hS h.vts).2.1
theorem act_dead {u : St} {m : Nat} (h : u 21 m = 1) : f_X7_act u m = u := if_pos h
/-- what the lights of the modules up to m are -/
def li0 (u : St) : Int32 := if u 21 0 = 0 then 0 ||| shM u 0 else 0
def li1 (u : St) : Int32 := if u 21 1 = 0 then li0 u ||| shM u 1 else li0 u
theorem RQ_frm {n0 n1 : Nat} {m : Nat} {x : Sy} {u v : St} (h : RQ n0 n1 x u) (e : FrM m u v) : RP (x 1) v ∧ RS (x 2) v ∧ v 6 = u 6 ∧ v 9 = u 9 ∧ v 21 = u 21 :=
  ⟨RP_fr h.p (fun f _ b _ _ _ => FrM_f e f (by omega)), RS_fr h.s (FrM_f e 15 (by decide)) (FrM_f e 28 (by decide)), FrM_f e 6 (by decide), FrM_f e 9 (by decide), FrM_f e 21 (by decide)⟩
theorem RQ_st0 {n n1 : Nat} {y : Sy} {u : St} (h : RQ (n + 1) n1 y u) (hn : n < 2 ^ 31) (hL : LB 2 u) : RQ n n1 (st0C y).2 (f_X7_act u 0) ∧ (st0C y).1 = li0 (f_X7_act u 0) ∧ FrM 0 u (f_X7_act u 0) := by
  have hF : FrM 0 u (f_X7_act u 0) := act_frm h.m0 h.s
  obtain ⟨fp, fs, f6, f9, f21⟩ := RQ_frm h hF
  have hd := h.m0.ded
  unfold st0C
  by_cases al : u 21 0 = 0
  · rw [if_pos (hd.trans al)]
    have A := RM_act (t := y 0 4 0) h.m0 h.s h.g al hn hL h.t
    have B := RM_other h.m1 (Nat.le_refl n1) (by decide) hF
    generalize f_X0_act (y 3) (y 4) (y 5) (y 2) (y 9) (y 0 4 0) = o at A ⊢
    generalize f_X7_act u 0 = w at *
    dsimp only
    refine ⟨?_, ?_, hF⟩
    · have z : ∀ a, ¬ a = 3 → ¬ a = 4 → ¬ a = 5 → ¬ a = 9 → upY (upY (upY (upY y 3 o.1) 4 o.2.1) 5 o.2.2.1) 9 o.2.2.2 a = y a := fun a p q r s => by
        rw [upY_n _ _ s, upY_n _ _ r, upY_n _ _ q, upY_n _ _ p]
      refine RQ.mk ?_ ?_ ?_ ?_ ?_ ?_ ?_ ?_
      · rw [z 1 (by decide) (by decide) (by decide) (by decide)]; exact fp
      · rw [z 2 (by decide) (by decide) (by decide) (by decide)]; exact fs
      · rw [upY_n _ (i := 9) (a := 3) _ (by decide), upY_n _ (i := 5) (a := 3) _ (by decide), upY_n _ (i := 4) (a := 3) _ (by decide), upY_at, upY_n _ (i := 9) (a := 4) _ (by decide), upY_n _ (i := 5) (a := 4) _ (by decide), upY_at, upY_n _ (i := 9) (a := 5) _ (by decide), upY_at]; exact A.1
      · rw [z 6 (by decide) (by decide) (by decide) (by decide), z 7 (by decide) (by decide) (by decide) (by decide), z 8 (by decide) (by decide) (by decide) (by decide)]; exact B
      · rw [upY_at]; exact A.2
      · rw [z 0 (by decide) (by decide) (by decide) (by decide), f6]; exact h.t
      · rw [z 0 (by decide) (by decide) (by decide) (by decide), f9]; exact h.b
      · rw [f9]; exact h.bB
    · unfold li0
      rw [f21, if_pos al, shows_eq A.1]
  · have d1 : u 21 0 = 1 := (rg1 h.m0.bD).resolve_left al
    rw [if_neg (fun q => al (hd.symm.trans q)), act_dead d1]
    refine ⟨RQ.mk h.p h.s (RM_same h.m0 (Nat.le_succ n) (fun _ _ _ => rfl)) h.m1 h.g h.t h.b h.bB, ?_, FrM_r _ _⟩
    unfold li0
    rw [if_neg al]
theorem li0_fr {n0 n1 : Nat} {y : Sy} {u v : St} (h : RQ n0 n1 y u) (h' : RM 0 n0 (y 3) (y 4) (y 5) v) (e : v 21 = u 21) : li0 v = li0 u := by
  unfold li0
  rw [e, ← shows_eq h.m0, ← shows_eq h']
theorem RQ_st1 {n0 n : Nat} {y : Sy} {u : St} {r : Int32} (h : RQ n0 (n + 1) y u) (hr : r = li0 u) (hn : n < 2 ^ 31) (hL : LB 2 u) : RQ n0 n (st1C (r, y)).2 (f_X7_act u 1) ∧ (st1C (r, y)).1 = li1 (f_X7_act u 1) ∧ FrM 1 u (f_X7_act u 1) := by
  have hF : FrM 1 u (f_X7_act u 1) := act_frm h.m1 h.s
  obtain ⟨fp, fs, f6, f9, f21⟩ := RQ_frm h hF
  have hd := h.m1.ded
  unfold st1C f_X6_tick_o96
  dsimp only
  have B := RM_other h.m0 (Nat.le_refl n0) (by decide) hF
  have l0 := li0_fr h B f21
  by_cases al : u 21 1 = 0
  · rw [if_pos (hd.trans al)]
    have A := RM_act (t := y 0 4 0) h.m1 h.s h.g al hn hL h.t
    generalize f_X0_act (y 6) (y 7) (y 8) (y 2) (y 9) (y 0 4 0) = o at A ⊢
    generalize f_X7_act u 1 = w at *
    dsimp only
    refine ⟨?_, ?_, hF⟩
    · have z : ∀ a, ¬ a = 6 → ¬ a = 7 → ¬ a = 8 → ¬ a = 9 → upY (upY (upY (upY y 6 o.1) 7 o.2.1) 8 o.2.2.1) 9 o.2.2.2 a = y a := fun a p q r s => by
        rw [upY_n _ _ s, upY_n _ _ r, upY_n _ _ q, upY_n _ _ p]
      refine RQ.mk ?_ ?_ ?_ ?_ ?_ ?_ ?_ ?_
      · rw [z 1 (by decide) (by decide) (by decide) (by decide)]; exact fp
      · rw [z 2 (by decide) (by decide) (by decide) (by decide)]; exact fs
      · rw [z 3 (by decide) (by decide) (by decide) (by decide), z 4 (by decide) (by decide) (by decide) (by decide), z 5 (by decide) (by decide) (by decide) (by decide)]; exact B
      · rw [upY_n _ (i := 9) (a := 6) _ (by decide), upY_n _ (i := 8) (a := 6) _ (by decide), upY_n _ (i := 7) (a := 6) _ (by decide), upY_at, upY_n _ (i := 9) (a := 7) _ (by decide), upY_n _ (i := 8) (a := 7) _ (by decide), upY_at, upY_n _ (i := 9) (a := 8) _ (by decide), upY_at]; exact A.1
      · rw [upY_at]; exact A.2
      · rw [z 0 (by decide) (by decide) (by decide) (by decide), f6]; exact h.t
      · rw [z 0 (by decide) (by decide) (by decide) (by decide), f9]; exact h.b
      · rw [f9]; exact h.bB
    · unfold li1
      rw [f21, if_pos al, shows_eq A.1, hr, l0]
  · have d1 : u 21 1 = 1 := (rg1 h.m1.bD).resolve_left al
    rw [if_neg (fun q => al (hd.symm.trans q)), act_dead d1]
    refine ⟨RQ.mk h.p h.s h.m0 (RM_same h.m1 (Nat.le_succ n) (fun _ _ _ => rfl)) h.g h.t h.b h.bB, ?_, FrM_r _ _⟩
    unfold li1
    rw [if_neg al]; exact hr
theorem or4 (a b c d e f : Int32) : ((((a ||| b) ||| c) ||| d) ||| e) ||| f = a ||| ((b ||| ((c ||| d) ||| e)) ||| f) := by
  simp only [Int32.or_assoc]
theorem or3_eq {p q r : Prop} [Decidable p] [Decidable q] [Decidable r] : ((if p then (2 : Int32) else 0) ||| (if q then 2 else 0)) ||| (if r then 2 else 0) = (if p then 2 else if q then 2 else if r then 2 else 0) := by
  by_cases hp : p <;> by_cases hq : q <;> by_cases hr : r <;> simp [hp, hq, hr]
theorem ite_b (b : Bool) : (if b = true then true else false) = b := by cases b <;> rfl
theorem all_8 (u : St) (m k : Nat) (x : Int32) : f_X7_all (put u 8 0 x) m k = f_X7_all u m k := by
  unfold f_X7_all
  rw [put_n _ _ _ (show ¬ 25 = 8 by decide)]
theorem k434_8 (v : St) (b : Bool) (c d e f : Int32) : f_X7_tick_k434 v b c d e f 8 0 = v 8 0 ||| ((b2i b ||| ((c ||| d) ||| e)) ||| f) := by
  unfold f_X7_tick_k434; rw [put_at, or4]
theorem k434_28 (v : St) (b : Bool) (c d e f : Int32) : f_X7_tick_k434_2 v b c d e f 8 0 = 0 ||| ((b2i b ||| ((c ||| d) ||| e)) ||| f) := by
  unfold f_X7_tick_k434_2; rw [put_at, or4]
theorem o304_8 (u : St) : f_X7_tick_o304 u 8 0 = li1 u := by
  unfold f_X7_tick_o304
  generalize hb : (if (u 21 0) = 0 then (f_X7_tick_k348_2 u (if (f_X7_all (put u 8 0 0) 0 9) = true then true else false)) else (put u 8 0 0)) = b
  have b8 : b 8 0 = li0 u := by
    rw [← hb]
    unfold li0
    by_cases q : u 21 0 = 0
    · rw [if_pos q, if_pos q]
      unfold f_X7_tick_k348_2 f_X7_tick_k405_6 f_X7_tick_k405_5 f_X7_tick_k405_4 shM
      rw [k434_28, or3_eq, all_8, ite_b]
    · rw [if_neg q, if_neg q, put_at]
  have bf : ∀ f, ¬ f = 8 → b f = u f := fun f hf => by
    rw [← hb]
    by_cases q : u 21 0 = 0
    · rw [if_pos q]
      unfold f_X7_tick_k348_2 f_X7_tick_k405_6 f_X7_tick_k405_5 f_X7_tick_k405_4 f_X7_tick_k434_2
      rw [put_n _ _ _ hf, put_n _ _ _ hf, put_n _ _ _ hf, put_n _ _ _ hf, put_n _ _ _ hf, put_n _ _ _ hf]
    · rw [if_neg q, put_n _ _ _ hf]
  have sh : shM b 1 = shM u 1 := by
    unfold shM f_X7_all
    rw [bf 25 (by decide), bf 19 (by decide)]
  unfold f_X7_tick_k438_2 f_X7_tick_k438 li1
  rw [bf 21 (by decide)]
  by_cases q : u 21 1 = 0
  · rw [if_pos q, if_pos q]
    unfold f_X7_tick_k348 f_X7_tick_k405_3 f_X7_tick_k405_2 f_X7_tick_k405
    rw [k434_8, or3_eq, ite_b, b8, ← sh]
    rfl
  · rw [if_neg q, if_neg q, b8]
/-- class and reference alike: n ticks are left for the ages -/
def RT (n : Nat) (x : Sy) (u : St) : Prop := RQ n n x u ∧ x 0 5 0 = u 8 0
theorem RQ_o304 {n : Nat} {x : Sy} {u : St} (h : RQ n n x u) : RQ n n x (f_X7_tick_o304 u) := by
  have e : ∀ f, ¬ f = 8 → f_X7_tick_o304 u f = u f := fun f hf => o304_fr u f hf
  refine RQ.mk (RP_fr h.p (fun f _ _ _ a _ => e f a)) (RS_fr h.s (e 15 (by decide)) (e 28 (by decide))) (RM_same h.m0 (Nat.le_refl _) (fun f a _ => e f (by omega))) (RM_same h.m1 (Nat.le_refl _) (fun f a _ => e f (by omega))) (RG_fr h.g (e 29 (by decide)) (e 30 (by decide))) ?_ ?_ ?_
  · rw [e 6 (by decide)]; exact h.t
  · rw [e 9 (by decide)]; exact h.b
  · rw [e 9 (by decide)]; exact h.bB
theorem LB_pre {n : Nat} {u : St} (h : LB n u) : LB n (preM u) := LB_fr h (by
  unfold preM
  rw [feel_fr _ _ (by decide), plM_fr0 _ _ _ (by decide) (by decide) (by decide), swM_fr _ _ _ (by decide) (by decide) (by decide) (by decide)])
theorem RT_tick {n : Nat} {x : Sy} {u : St} (h : RT (n + 1) x u) (hn : n < 2 ^ 31) (hL : LB 4 u) : RT n (f_X6_tick x) (f_X7_tick u) := by
  have h1 := RQ_pre h.1
  have L1 : LB 4 (preM u) := LB_pre hL
  have L2 : LB 2 (f_X7_act (preM u) 0) := LB_act L1
  obtain ⟨h2, r2, _⟩ := RQ_st0 h1 hn (LB_lo L1 (by decide))
  obtain ⟨h3, r3, _⟩ := RQ_st1 h2 r2 hn L2
  rw [X6_tick_eq]
  rw [show f_X7_tick u = f_X7_tick_o304 (f_X7_act (f_X7_act (preM u) 0) 1) from rfl]
  rw [show st0C (preC x) = ((st0C (preC x)).1, (st0C (preC x)).2) from rfl]
  generalize st1C ((st0C (preC x)).1, (st0C (preC x)).2) = z at *
  generalize f_X7_act (f_X7_act (preM u) 0) 1 = w at *
  unfold f_X6_tick_k111
  have h4 := RQ_o304 h3
  refine ⟨?_, ?_⟩
  · have e : ∀ a, ¬ a = 0 → upY z.2 0 (put (z.2 0) 5 0 z.1) a = z.2 a := fun a q => upY_n _ _ q
    refine RQ.mk ?_ ?_ ?_ ?_ ?_ ?_ ?_ h4.bB
    · rw [e 1 (by decide)]; exact h4.p
    · rw [e 2 (by decide)]; exact h4.s
    · rw [e 3 (by decide), e 4 (by decide), e 5 (by decide)]; exact h4.m0
    · rw [e 6 (by decide), e 7 (by decide), e 8 (by decide)]; exact h4.m1
    · rw [e 9 (by decide)]; exact h4.g
    · rw [upY_at, put_n _ _ _ (by decide)]; exact h4.t
    · rw [upY_at, put_n _ _ _ (by decide)]; exact h4.b
  · rw [upY_at, put_at, o304_8, r3]
