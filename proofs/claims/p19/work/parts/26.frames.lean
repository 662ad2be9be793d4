/-! The likeness of the whole class and the reference: what a part's likeness reads -/
theorem RP_fr {p u u' : St} (h : RP p u) (e : ∀ f, 1 ≤ f → f ≤ 14 → ¬ f = 6 → ¬ f = 8 → ¬ f = 9 → u' f = u f) : RP p u' := by
  have e1 := e 1 (by decide) (by decide) (by decide) (by decide) (by decide)
  have e2 := e 2 (by decide) (by decide) (by decide) (by decide) (by decide)
  have e3 := e 3 (by decide) (by decide) (by decide) (by decide) (by decide)
  have e4 := e 4 (by decide) (by decide) (by decide) (by decide) (by decide)
  have e5 := e 5 (by decide) (by decide) (by decide) (by decide) (by decide)
  have e7 := e 7 (by decide) (by decide) (by decide) (by decide) (by decide)
  have e10 := e 10 (by decide) (by decide) (by decide) (by decide) (by decide)
  have e11 := e 11 (by decide) (by decide) (by decide) (by decide) (by decide)
  have e12 := e 12 (by decide) (by decide) (by decide) (by decide) (by decide)
  have e13 := e 13 (by decide) (by decide) (by decide) (by decide) (by decide)
  have e14 := e 14 (by decide) (by decide) (by decide) (by decide) (by decide)
  refine RP.mk ⟨?_, ?_, ?_, ?_, ?_, ?_, ?_, ?_, ?_, ?_, ?_, ?_, ?_, ?_, ?_, ?_⟩
  · rw [e12]; exact h.len
  · rw [e13]; exact h.plc
  · rw [e14]; exact h.cyl
  · rw [e10]; exact h.prs
  · rw [e11]; exact h.vlv
  · rw [e1]; exact h.hnd
  · rw [e2]; exact h.lev
  · rw [e3]; exact h.hld
  · rw [e4]; exact h.stk
  · rw [e5]; exact h.gnd
  · rw [e7]; exact h.scr
  · rw [e1]; exact h.bH
  · rw [e2]; exact h.bL
  · rw [e10]; exact h.bP
  · rw [e11]; exact h.bV
  · rw [e14]; exact h.bC
theorem RS_fr {s u u' : St} (h : RS s u) (a : u' 15 = u 15) (b : u' 28 = u 28) : RS s u' :=
  ⟨by rw [b]; exact h.tru, by rw [a]; exact h.flt, by rw [a]; exact h.bF, by rw [b]; exact h.bT⟩
theorem RG_fr {g u u' : St} (h : RG g u) (a : u' 29 = u 29) (b : u' 30 = u 30) : RG g u' :=
  ⟨by rw [b]; exact h.num, by rw [a]; exact h.cnt⟩
theorem RM_fr {m n n' : Nat} {c v w u u' : St} (h : RM m n c v w u) (hn : n' ≤ n) (a : ∀ f, 16 ≤ f → f ≤ 24 → ¬ f = 23 → u' f m = u f m) (b : ∀ k, k < 5 → u' 23 (5 * m + k) = u 23 (5 * m + k)) (d : ∀ f, 25 ≤ f → f ≤ 27 → ∀ k, k < 18 → u' f (18 * m + k) = u f (18 * m + k)) : RM m n' c v w u' := by
  have e16 := a 16 (by decide) (by decide) (by decide)
  have e17 := a 17 (by decide) (by decide) (by decide)
  have e18 := a 18 (by decide) (by decide) (by decide)
  have e19 := a 19 (by decide) (by decide) (by decide)
  have e20 := a 20 (by decide) (by decide) (by decide)
  have e21 := a 21 (by decide) (by decide) (by decide)
  have e22 := a 22 (by decide) (by decide) (by decide)
  have e24 := a 24 (by decide) (by decide) (by decide)
  have d0 : u' 25 (18 * m) = u 25 (18 * m) := d 25 (by decide) (by decide) 0 (by decide)
  refine ⟨h.num, ?_, ?_, ?_, ?_, ?_, ?_, ?_, ?_⟩
  · rw [e16]; exact h.stg
  · rw [e16]; exact h.bG
  · rw [e19]; exact h.cau
  · rw [e19]; exact h.bC
  · rw [e21]; exact h.ded
  · rw [e21]; exact h.bD
  · intro k hk
    have r := h.vts k hk
    have q5 := d 25 (by decide) (by decide) k hk
    have q6 := d 26 (by decide) (by decide) k hk
    have q7 := d 27 (by decide) (by decide) k hk
    refine ⟨?_, ?_, ?_, ?_, ?_⟩
    · rw [q5]; exact r.see
    · rw [q6]; exact r.inn
    · rw [q7, q6]; exact r.inv
    · rw [q5]; exact r.bS
    · rw [q6]; exact r.bI
  · intro z
    rw [e19] at z
    have L := h.liv z
    refine ⟨?_, ?_, ?_, ?_, ?_, ?_, ⟨?_, ?_, ?_⟩, ?_⟩
    · rw [e18]; exact L.gol
    · rw [e18, d0]; exact L.see
    · rw [e20]; exact L.aga
    · rw [e20]; exact L.bA
    · rw [e17]; exact L.age
    · exact ⟨L.bg.1, by have := L.bg.2; omega⟩
    · intro k hk; rw [b k hk]; exact L.wr.ord k hk
    · rw [e24]; exact L.wr.idl
    · rw [e22]; exact L.wr.cha
    · rw [e22]; exact L.bW
theorem RM_same {m n n' : Nat} {c v w u u' : St} (h : RM m n c v w u) (hn : n' ≤ n) (e : ∀ f, 16 ≤ f → f ≤ 27 → u' f = u f) : RM m n' c v w u' :=
  RM_fr h hn (fun f a b _ => congrFun (e f a (by omega)) m) (fun k _ => congrFun (e 23 (by decide) (by decide)) _) (fun f a b k _ => congrFun (e f (by omega) b) _)
theorem RM_other {m m' n n' : Nat} {c v w u u' : St} (h : RM m n c v w u) (hn : n' ≤ n) (hm : ¬ m = m') (e : FrM m' u u') : RM m n' c v w u' := by
  refine RM_fr h hn (fun f a b d => e f m ?_) (fun k hk => e 23 _ ?_) (fun f a b k hk => e f _ ?_)
  · rintro (q | q | q | q | q) <;> omega
  · rintro (q | q | q | q | q) <;> omega
  · rintro (q | q | q | q | q) <;> omega
theorem FrM_f {m : Nat} {u v : St} (h : FrM m u v) (f : Nat) (hf : ¬ (16 ≤ f ∧ f ≤ 20) ∧ ¬ (22 ≤ f ∧ f ≤ 27) ∧ ¬ f = 29 ∧ ¬ f = 30) : v f = u f := funext fun j => h f j (by
  rintro (q | q | q | q | q) <;> omega)
