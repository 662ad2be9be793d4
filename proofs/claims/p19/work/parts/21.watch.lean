def inO (o : Int32) : Prop := o = 0 ∨ o = 1 ∨ o = 3 ∨ o = 5 ∨ o = 11 ∨ o = 19
theorem rg9_pos {x : Int32} (h : rg 9 x) : 0 < x ↔ ¬ x = 0 := by
  obtain ⟨k, hk, rfl⟩ := h
  have h : ∀ k : Fin 10, 0 < nI k.1 ↔ ¬ nI k.1 = 0 := by decide
  exact h ⟨k, by omega⟩
theorem ord_eq {m : Nat} {c v w u : St} (ded : c 8 0 = u 21 m) (stg' : c 3 0 = u 16 m) (bG : rg 7 (u 16 m)) (cau : c 7 0 = u 19 m) (bC : rg 9 (u 19 m)) (gol : u 19 m = 0 → c 5 0 = u 18 m) :
    f_X0_orders c v w = f_X7_orders u m ∧ inO (f_X7_orders u m) := by
  unfold f_X0_orders f_X7_orders
  rw [ded, stg', cau]
  by_cases h1 : u 21 m = 1
  · rw [if_pos h1, if_pos h1]; exact ⟨rfl, Or.inl rfl⟩
  · rw [if_neg h1, if_neg h1]
    by_cases h2 : u 19 m = 0
    · rw [if_pos h2, if_neg (fun z => (rg9_pos bC).mp z h2)]
      obtain ⟨s, hs, e⟩ := bG
      have e8 : s = 0 ∨ s = 1 ∨ s = 2 ∨ s = 3 ∨ s = 4 ∨ s = 5 ∨ s = 6 ∨ s = 7 := by omega
      unfold f_X0_orders_k64 f_X0_orders_k61
      rw [e, stg', e, gol h2]
      by_cases h5 : u 18 m = 1
      · rw [if_pos h5, if_pos h5]
        rcases e8 with q | q | q | q | q | q | q | q <;> subst q <;> refine ⟨by decide, by unfold inO; decide⟩
      · rw [if_neg h5, if_neg h5]
        rcases e8 with q | q | q | q | q | q | q | q <;> subst q <;> refine ⟨by decide, by unfold inO; decide⟩
    · rw [if_neg h2, if_pos ((rg9_pos bC).mpr h2)]; exact ⟨rfl, Or.inl rfl⟩
def chg (x : Int32) : Int32 := if x < 0 then 216 else imn x 216
/-- the watch -/
abbrev WR (m : Nat) (w u : St) : Prop := (∀ k < 5, w 0 k = u 23 (5 * m + k)) ∧ (w 1 0 = u 24 m) ∧ (w 2 0 = chg (u 22 m))
theorem WR.ord {m : Nat} {w u : St} (h : WR m w u) : ∀ k < 5, w 0 k = u 23 (5 * m + k) := h.1
theorem WR.idl {m : Nat} {w u : St} (h : WR m w u) : w 1 0 = u 24 m := h.2.1
theorem WR.cha {m : Nat} {w u : St} (h : WR m w u) : w 2 0 = chg (u 22 m) := h.2.2
/-- since the turn: -1 .. 1000 -/
def rgC (x : Int32) : Prop := x = -1 ∨ rg 1000 x
def nxC (x : Int32) : Int32 := if x < 0 then (-1) else (if x < 1000 then (x + 1) else 1000)
theorem nxC_ok {x : Int32} (h : rgC x) : rgC (nxC x) ∧ imn (chg x + 1) 216 = chg (nxC x) := by
  rcases h with h | ⟨k, hk, rfl⟩
  · subst h; exact ⟨Or.inl (by decide), by decide⟩
  · have h : ∀ k : Fin 1001, nxC (nI k.1) = nI (min (k.1 + 1) 1000) ∧ imn (chg (nI k.1) + 1) 216 = chg (nxC (nI k.1)) := by decide +kernel
    obtain ⟨a, b⟩ := h ⟨k, by omega⟩
    exact ⟨Or.inr ⟨min (k + 1) 1000, by omega, a⟩, b⟩
theorem chg_10 {x : Int32} (h : rgC x) : (chg x = 10 ↔ x = 10) ∧ (¬ chg x < 216 ↔ (x < 0 ∨ ¬ x < 216)) := by
  rcases h with h | ⟨k, hk, rfl⟩
  · subst h; decide
  · have h : ∀ k : Fin 1001, (chg (nI k.1) = 10 ↔ nI k.1 = 10) ∧ (¬ chg (nI k.1) < 216 ↔ (nI k.1 < 0 ∨ ¬ nI k.1 < 216)) := by decide +kernel
    exact h ⟨k, by omega⟩
theorem bit_0 {o : Int32} (h : inO o) : ((o &&& 1) = 1 ↔ ¬ (o &&& 1) = 0) := by
  rcases h with q | q | q | q | q | q <;> subst q <;> decide
/-- the counters: b the reference's behind the stage, o the orders -/
theorem WR_count {m : Nat} {w b : St} {o : Int32} {t : Bool} (ho : inO o) (hoe : f_X7_orders b m = o) (h1 : ∀ k < 5, w 0 k = b 23 (5 * m + k)) (h2 : w 1 0 = b 24 m) (h3 : (if t = true then 0 else imn (w 2 0 + 1) 216) = chg (b 22 m)) :
    WR m (f_X5_count w o t) (put (up (f_X7_act_t183 m b) 0 5 b) 24 m (if ((f_X7_orders b m) &&& 1) = 0 then ((up (f_X7_act_t183 m b) 0 5 b 24 m) + 1) else 0)) := by
  unfold f_X5_count f_X5_count_k21 f_X5_count_x26 f_X5_count_k82
  rw [h3]
  have L : (∀ k < 5, up (f_X5_count_t26 o) 0 5 (put w 2 0 (chg (b 22 m))) 0 k = up (f_X7_act_t183 m b) 0 5 b 23 (5 * m + k)) ∧ (∀ f, ¬ f = 0 → up (f_X5_count_t26 o) 0 5 (put w 2 0 (chg (b 22 m))) f = put w 2 0 (chg (b 22 m)) f) ∧ (∀ f, ¬ f = 23 → up (f_X7_act_t183 m b) 0 5 b f = b f) := by
    refine up_rel (R := fun (x y : St) => (∀ k < 5, x 0 k = y 23 (5 * m + k)) ∧ (∀ f, ¬ f = 0 → x f = put w 2 0 (chg (b 22 m)) f) ∧ (∀ f, ¬ f = 23 → y f = b f)) 0 5 ?_ 5 0 _ _ (by decide) (by decide) ⟨fun k hk => by rw [put_n _ _ _ (by decide)]; exact h1 k hk, fun _ _ => rfl, fun _ _ => rfl⟩
    intro k x y _ hk r
    unfold f_X5_count_t26 f_X5_count_k56 f_X7_act_t183 f_X7_act_k226 f_X6_has
    rw [hoe]
    refine ⟨fun j hj => ?_, fun f hf => by rw [put_n _ _ _ hf]; exact r.2.1 f hf, fun f hf => by rw [put_n _ _ _ hf]; exact r.2.2 f hf⟩
    rw [put_s, put_s]
    by_cases q : j = k
    · subst q
      rw [upd_at, upd_at, r.1 j hj]
      simp
    · rw [show upd (x 0) k _ j = x 0 j from if_neg q, show upd (y 23) (5 * m + k) _ (5 * m + j) = y 23 (5 * m + j) from if_neg (by omega)]
      exact r.1 j hj
  obtain ⟨L1, L2, L3⟩ := L
  refine ⟨fun k hk => ?_, ?_, ?_⟩
  · rw [put_n _ _ _ (by decide), put_n _ _ _ (by decide)]; exact L1 k hk
  · rw [put_at, put_at, has0, hoe, L2 1 (by decide), L3 24 (by decide), put_n _ _ _ (by decide), h2]
    by_cases q : (o &&& 1) = 0
    · rw [if_pos q, if_neg (fun z => (bit_0 ho).mp z q), if_neg Bool.false_ne_true]
    · rw [if_neg q, if_pos ((bit_0 ho).mpr q), if_pos rfl]
  · rw [put_n _ _ _ (by decide), put_n _ _ _ (by decide), L2 2 (by decide), L3 22 (by decide), put_at]
theorem inv_eq {m : Nat} {v u : St} (h : RV m v u) : ∀ (n k : Nat) (b : Bool), k + n ≤ 18 → up (f_X7_watch_t4 u m) k n b = (if b = true then true else upr (f_X4_someInvalid_t2 v) (fun (a2 : Unit) => f_X4_someInvalid_x2 a2) k n ())
  | 0, _, b, _ => by cases b <;> rfl
  | n + 1, k, b, hk => by
    show up (f_X7_watch_t4 u m) (k + 1) n (f_X7_watch_t4 u m k b) = _
    rw [inv_eq h n (k + 1) _ (by omega)]
    unfold f_X7_watch_t4 f_X7_watch_k33
    cases b
    · rw [if_neg Bool.false_ne_true, if_neg Bool.false_ne_true]
      have r := h k (by omega)
      show _ = f_X4_someInvalid_t2 v k () (fun a' => upr (f_X4_someInvalid_t2 v) (fun (a2 : Unit) => f_X4_someInvalid_x2 a2) (k + 1) n a')
      unfold f_X4_someInvalid_t2
      rw [r.inv, r.inn]
      by_cases q : u 26 (18 * m + k) = 0
      · rw [if_pos q, if_pos q]; rfl
      · rw [if_neg q, if_neg q]; rfl
    · rfl
theorem pow_eq {m : Nat} {v w u : St} (hw : WR m w u) (hc : rgC (u 22 m)) (s1 : v 0 1 = u 25 (18 * m + 1)) (s2 : v 0 2 = u 25 (18 * m + 2)) :
    f_X7_watch_k81 u m false (if (u 25 ((18 * m) + 1)) = 1 then true else false) (if (u 25 ((18 * m) + 2)) = 1 then true else false) = if f_X5_causeOfPower w v = 0 then f_X7_watch_l185 u m () else f_X5_causeOfPower w v := by
  unfold f_X7_watch_k81 f_X7_watch_l115 f_X7_watch_l136 f_X7_watch_l144 f_X7_watch_l165 f_X5_causeOfPower f_X5_causeOfPower_l21 f_X5_causeOfPower_l37 f_X5_causeOfPower_l60 f_X4_isSeen
  have h0 := hw.ord 0 (by decide)
  rw [Nat.add_zero] at h0
  have c1 := (chg_10 hc).1
  have c2 := (chg_10 hc).2
  rw [hw.cha, hw.idl, h0, s1, s2]
  generalize f_X7_watch_l185 u m () = Z
  generalize u 23 (5 * m) = D
  generalize u 24 m = F
  generalize u 25 (18 * m + 1) = S1
  generalize u 25 (18 * m + 2) = S2
  generalize u 22 m = x at *
  by_cases q1 : x = 10
  · have e1 := c1.mpr q1
    have nx : x < 0 ↔ False := by subst q1; decide
    have nx2 : x < 216 ↔ True := by subst q1; decide
    have e2 : chg x < 216 := by
      by_cases z : chg x < 216
      · exact z
      · have := c2.mp z; rw [nx, nx2] at this; simp at this
    by_cases q2 : S1 = 1 <;> by_cases q3 : S2 = 1 <;> by_cases q4 : D < 30 <;> by_cases q5 : F < 100 <;> simp (decide := true) [q1, q2, q3, q4, q5, e1, e2, nx, nx2]
  · have e1 : ¬ chg x = 10 := fun z => q1 (c1.mp z)
    by_cases q6 : x < 0
    · have e2 : ¬ chg x < 216 := c2.mpr (Or.inl q6)
      by_cases q2 : S1 = 1 <;> by_cases q3 : S2 = 1 <;> by_cases q4 : D < 30 <;> by_cases q5 : F < 100 <;> simp (decide := true) [q1, q2, q3, q4, q5, e1, e2, q6]
    · by_cases q7 : x < 216
      · have e2 : chg x < 216 := by
          by_cases z : chg x < 216
          · exact z
          · rcases c2.mp z with z | z
            · exact absurd z q6
            · exact absurd q7 z
        by_cases q2 : S1 = 1 <;> by_cases q3 : S2 = 1 <;> by_cases q4 : D < 30 <;> by_cases q5 : F < 100 <;> simp (decide := true) [q1, q2, q3, q4, q5, e1, e2, q6, q7]
      · have e2 : ¬ chg x < 216 := c2.mpr (Or.inr q7)
        by_cases q2 : S1 = 1 <;> by_cases q3 : S2 = 1 <;> by_cases q4 : D < 30 <;> by_cases q5 : F < 100 <;> simp (decide := true) [q1, q2, q3, q4, q5, e1, e2, q6, q7]
theorem dr_eq {m : Nat} {v w u : St} (hw : WR m w u) (hv : RV m v u) : f_X7_watch_l185 u m () = if f_X5_causeOfDoors w v = 0 then f_X7_watch_l242 u m () else f_X5_causeOfDoors w v := by
  unfold f_X7_watch_l185 f_X7_watch_l214 f_X5_causeOfDoors f_X5_causeOfDoors_l23
  rw [hw.ord 1 (by decide), hw.ord 2 (by decide), all_eq hv (by decide), all_eq hv (by decide)]
  generalize f_X7_watch_l242 u m () = Z
  by_cases q1 : u 23 (5 * m + 1) < 70 <;> by_cases q2 : u 23 (5 * m + 2) < 70 <;> by_cases q3 : f_X7_all u m 6 = true <;> by_cases q4 : f_X7_all u m 3 = true <;> simp (decide := true) [q1, q2, q3, q4]
theorem ge_eq {m : Nat} {v w u : St} (hw : WR m w u) (hv : RV m v u) : f_X7_watch_l242 u m () = f_X5_causeOfGears w v := by
  unfold f_X7_watch_l242 f_X7_watch_l266 f_X7_watch_l295 f_X7_watch_l319 f_X5_causeOfGears f_X5_causeOfGears_l20 f_X5_causeOfGears_l43 f_X5_causeOfGears_l63 f_X5_causeOfGears_k88
  rw [hw.ord 3 (by decide), hw.ord 4 (by decide), all_eq hv (k := 9) (by decide), all_eq hv (k := 12) (by decide), some_eq hv (k := 9) (by decide), some_eq hv (k := 12) (by decide)]
  generalize u 23 (5 * m + 3) = A
  generalize u 23 (5 * m + 4) = B
  by_cases q1 : A < 70 <;> by_cases q2 : B < 70 <;> by_cases q3 : f_X7_some u m 12 = true <;> by_cases q4 : f_X7_some u m 9 = true <;> by_cases q5 : A < 100 <;> by_cases q6 : B < 100 <;> by_cases q7 : f_X7_all u m 9 = true <;> by_cases q8 : f_X7_all u m 12 = true <;> simp (decide := true) [q1, q2, q3, q4, q5, q6, q7, q8]
theorem cause_eq {m : Nat} {v w u : St} (hw : WR m w u) (hv : RV m v u) (hc : rgC (u 22 m)) : f_X5_firstCause w v = f_X7_watch u m := by
  unfold f_X7_watch f_X7_watch_x4 f_X7_watch_k60 f_X5_firstCause f_X5_firstCause_k25 f_X4_someInvalid
  rw [inv_eq hv 18 0 false (by decide), if_neg Bool.false_ne_true]
  cases upr (f_X4_someInvalid_t2 v) (fun (a2 : Unit) => f_X4_someInvalid_x2 a2) 0 18 ()
  · rw [if_neg Bool.false_ne_true, pow_eq hw hc (hv 1 (by decide)).see (hv 2 (by decide)).see, dr_eq hw hv, ge_eq hw hv]
    by_cases q : f_X5_causeOfPower w v = 0
    · rw [if_pos q, if_pos q]
    · rw [if_neg q, if_neg q, if_neg q]
  · rfl
theorem cause_rg {w v : St} : rg 9 (f_X5_firstCause w v) := by
  have r : ∀ k : Nat, k ≤ 9 → rg 9 (nI k) := fun k h => ⟨k, h, rfl⟩
  have key : ∀ x : Int32, rg 9 x → rg 9 (if x = 0 then f_X5_causeOfGears w v else x) := fun x hx => by
    split
    · unfold f_X5_causeOfGears f_X5_causeOfGears_l20 f_X5_causeOfGears_l43 f_X5_causeOfGears_k88
      repeat' split
      all_goals first | exact r 8 (by decide) | exact r 9 (by decide) | exact r 0 (by decide)
    · exact hx
  unfold f_X5_firstCause f_X5_firstCause_k25
  split
  · exact r 1 (by decide)
  · refine key _ ?_
    split
    · unfold f_X5_causeOfDoors f_X5_causeOfDoors_l23
      repeat' split
      all_goals first | exact r 6 (by decide) | exact r 7 (by decide) | exact r 0 (by decide)
    · unfold f_X5_causeOfPower f_X5_causeOfPower_l21 f_X5_causeOfPower_l37 f_X5_causeOfPower_l60
      repeat' split
      all_goals first | exact r 2 (by decide) | exact r 3 (by decide) | exact r 4 (by decide) | exact r 5 (by decide) | exact r 0 (by decide)
