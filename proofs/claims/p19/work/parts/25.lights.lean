theorem isSeen_eq {m k : Nat} {v u : St} (h : RV m v u) (hk : k < 18) : f_X4_isSeen v k = (if u 25 (18 * m + k) = 1 then true else false) := by
  unfold f_X4_isSeen; rw [(h k hk).see]
/-- what a module's act shows -/
def shM (u : St) (m : Nat) : Int32 := ((b2i (f_X7_all u m 9)) ||| (if (u 25 (18 * m + 9) + u 25 (18 * m + 12)) = 0 then 2 else if (u 25 (18 * m + 10) + u 25 (18 * m + 13)) = 0 then 2 else if (u 25 (18 * m + 11) + u 25 (18 * m + 14)) = 0 then 2 else 0)) ||| (if 0 < u 19 m then 4 else 0)
theorem pair_eq {a b : Int32} (ha : rg 1 a) (hb : rg 1 b) : (if (if a = 1 then true else false) = true then false else (if (if b = 1 then true else false) = true then false else true)) = (if a + b = 0 then true else false) := by
  rcases rg1 ha with e | e <;> rcases rg1 hb with e2 | e2 <;> subst e e2 <;> decide
theorem shows_eq {m n : Nat} {c v w u : St} (h : RM m n c v w u) : f_X0_shows c v w = shM u m := by
  unfold f_X0_shows f_X0_shows_k46_3 f_X0_shows_k46_2 f_X0_shows_k46 f_X0_shows_k70 f_X0_shows_k79 f_X0_shows_k92 shM
  have b := fun k hk => (h.vts k hk).bS
  rw [isSeen_eq h.vts (by decide), isSeen_eq h.vts (by decide), isSeen_eq h.vts (by decide), isSeen_eq h.vts (by decide), isSeen_eq h.vts (by decide), isSeen_eq h.vts (by decide), all_eq h.vts (by decide), h.cau, pair_eq (b 9 (by decide)) (b 12 (by decide)), pair_eq (b 10 (by decide)) (b 13 (by decide)), pair_eq (b 11 (by decide)) (b 14 (by decide))]
  have q := rg9_pos h.bC
  by_cases e : u 19 m = 0
  · rw [if_pos e, if_neg (fun z => q.mp z e)]
    by_cases e1 : u 25 (18 * m + 9) + u 25 (18 * m + 12) = 0 <;> by_cases e2 : u 25 (18 * m + 10) + u 25 (18 * m + 13) = 0 <;> by_cases e3 : u 25 (18 * m + 11) + u 25 (18 * m + 14) = 0 <;> cases f_X7_all u m 9 <;> simp [e1, e2, e3]
  · rw [if_neg e, if_pos (q.mpr e)]
    by_cases e1 : u 25 (18 * m + 9) + u 25 (18 * m + 12) = 0 <;> by_cases e2 : u 25 (18 * m + 10) + u 25 (18 * m + 13) = 0 <;> by_cases e3 : u 25 (18 * m + 11) + u 25 (18 * m + 14) = 0 <;> cases f_X7_all u m 9 <;> simp [e1, e2, e3]
theorem o304_fr (u : St) (f : Nat) (h : ¬ f = 8) : f_X7_tick_o304 u f = u f := by
  have p : ∀ (v : St) x, put v 8 0 x f = v f := fun v x => put_n _ _ _ h
  have k1 : ∀ a b c d e, f_X7_tick_k434_2 u a b c d e f = u f := fun a b c d e => by
    unfold f_X7_tick_k434_2; rw [p, p, p, p, p, p]
  have k2 : ∀ v a b c d e, f_X7_tick_k434 v a b c d e f = v f := fun v a b c d e => by
    unfold f_X7_tick_k434; rw [p, p, p, p, p]
  have k3 : ∀ v, f_X7_tick_k438_2 v f = v f := fun v => by
    unfold f_X7_tick_k438_2 f_X7_tick_k438
    split
    · exact k2 _ _ _ _ _ _
    · rfl
  unfold f_X7_tick_o304
  rw [k3]
  by_cases q : u 21 0 = 0
  · rw [if_pos q]; exact k1 _ _ _ _ _
  · rw [if_neg q]; exact p _ _
