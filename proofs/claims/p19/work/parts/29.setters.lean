/-! The calls that change something, alike -/
theorem out_in (x h : Int32) : f_X6_outside x h = !(f_X7_in x 0 h) := by
  unfold f_X6_outside f_X7_in
  by_cases a : x < 0
  · rw [if_pos a, if_pos a]; rfl
  · rw [if_neg a, if_neg a]
    by_cases b : h < x
    · rw [if_pos b, if_pos b]; rfl
    · rw [if_neg b, if_neg b]; rfl
theorem in0_nat {x h : Int32} (n : Nat) (hn : n < 2 ^ 31) (e : h = nI n) (k : f_X7_in x 0 h = true) : x = nI (ixn x) ∧ ixn x ≤ n := out_nat n hn (g := h) e (by rw [out_in, k]; rfl)
theorem in_rg {x h : Int32} (n : Nat) (hn : n < 2 ^ 31) (e : h = nI n) (k : f_X7_in x 0 h = true) : rg n x := ⟨ixn x, (in0_nat n hn e k).2, (in0_nat n hn e k).1⟩
theorem RT_fr {n n' : Nat} {x : Sy} {u v : St} (h : RT n x u) (hn : n' ≤ n) (e : ∀ f, ¬ f = 0 → v f = u f) : RT n' x v := by
  have q := h.1
  refine ⟨RQ.mk (RP_fr q.p (fun f a _ _ _ _ => e f (by omega))) (RS_fr q.s (e 15 (by decide)) (e 28 (by decide))) (RM_same q.m0 hn (fun f a _ => e f (by omega))) (RM_same q.m1 hn (fun f a _ => e f (by omega))) (RG_fr q.g (e 29 (by decide)) (e 30 (by decide))) ?_ ?_ ?_, ?_⟩
  · rw [e 6 (by decide)]; exact q.t
  · rw [e 9 (by decide)]; exact q.b
  · rw [e 9 (by decide)]; exact q.bB
  · rw [e 8 (by decide)]; exact h.2
theorem RT_lo {n n' : Nat} {x : Sy} {u : St} (h : RT n x u) (hn : n' ≤ n) : RT n' x u := RT_fr h hn (fun _ _ => rfl)
theorem RT_p0 {n : Nat} {x : Sy} {u : St} (h : RT n x u) : RT n x (put u 0 0 0) := RT_fr h (Nat.le_refl n) (fun _ a => put_n _ _ _ a)
theorem RT_plant {n : Nat} {x : Sy} {u v p : St} (h : RT n x u) (hp : RP p v) (e : ∀ f, f = 6 ∨ f = 8 ∨ f = 9 ∨ 15 ≤ f → v f = u f) : RT n (upY x 1 p) v := by
  have q := h.1
  refine ⟨RQ.mk ?_ ?_ ?_ ?_ ?_ ?_ ?_ ?_, ?_⟩
  · rw [upY_at]; exact hp
  · rw [upY_n _ _ (by decide)]; exact RS_fr q.s (e 15 (by omega)) (e 28 (by omega))
  · rw [upY_n _ _ (by decide), upY_n _ _ (by decide), upY_n _ _ (by decide)]; exact RM_same q.m0 (Nat.le_refl n) (fun f a _ => e f (by omega))
  · rw [upY_n _ _ (by decide), upY_n _ _ (by decide), upY_n _ _ (by decide)]; exact RM_same q.m1 (Nat.le_refl n) (fun f a _ => e f (by omega))
  · rw [upY_n _ _ (by decide)]; exact RG_fr q.g (e 29 (by omega)) (e 30 (by omega))
  · rw [upY_n _ _ (by decide), e 6 (by omega)]; exact q.t
  · rw [upY_n _ _ (by decide), e 9 (by omega)]; exact q.b
  · rw [e 9 (by omega)]; exact q.bB
  · rw [upY_n _ _ (by decide), e 8 (by omega)]; exact h.2
theorem RT_sens {n : Nat} {x : Sy} {u v s : St} (h : RT n x u) (hs : RS s v) (e : ∀ f, ¬ f = 0 → ¬ f = 15 → ¬ f = 28 → v f = u f) : RT n (upY x 2 s) v := by
  have q := h.1
  refine ⟨RQ.mk ?_ ?_ ?_ ?_ ?_ ?_ ?_ ?_, ?_⟩
  · rw [upY_n _ _ (by decide)]; exact RP_fr q.p (fun f a b _ _ _ => e f (by omega) (by omega) (by omega))
  · rw [upY_at]; exact hs
  · rw [upY_n _ _ (by decide), upY_n _ _ (by decide), upY_n _ _ (by decide)]; exact RM_same q.m0 (Nat.le_refl n) (fun f a b => e f (by omega) (by omega) (by omega))
  · rw [upY_n _ _ (by decide), upY_n _ _ (by decide), upY_n _ _ (by decide)]; exact RM_same q.m1 (Nat.le_refl n) (fun f a b => e f (by omega) (by omega) (by omega))
  · rw [upY_n _ _ (by decide)]; exact RG_fr q.g (e 29 (by decide) (by decide) (by decide)) (e 30 (by decide) (by decide) (by decide))
  · rw [upY_n _ _ (by decide), e 6 (by decide) (by decide) (by decide)]; exact q.t
  · rw [upY_n _ _ (by decide), e 9 (by decide) (by decide) (by decide)]; exact q.b
  · rw [e 9 (by decide) (by decide) (by decide)]; exact q.bB
  · rw [upY_n _ _ (by decide), e 8 (by decide) (by decide) (by decide)]; exact h.2
/-- what is said of a call: the answers are the same, the states alike, the log's counter has room -/
def CK (n r : Nat) (a : Int32 × Sy) (b : Int32 × St) : Prop := a.1 = b.1 ∧ RT n a.2 b.2 ∧ LB r b.2
theorem CK_bad {n r : Nat} {x : Sy} {u : St} (h : RT n x u) (hl : LB r u) : CK n r (-2, x) (-2, put u 0 0 0) := ⟨rfl, RT_p0 h, LB_put (by decide) hl⟩
theorem upd_rg {m N i : Nat} {g : Nat → Int32} {y : Int32} (h : ∀ k, k < N → rg m (g k)) (hy : rg m y) : ∀ k, k < N → rg m (upd g i y k) := fun k hk => by
  unfold upd; split
  · exact hy
  · exact h k hk
theorem handle_RP {p u : St} (h : RP p u) {d : Int32} (hd : rg 1 d) : RP (f_X2_moveHandle p d).2 (put (put (put u 0 0 0) 1 0 d) 3 0 (if (u 1 0) = d then (u 3 0) else 200)) := by
  unfold f_X2_moveHandle f_X2_moveHandle_k22
  dsimp only
  rw [h.hnd]
  by_cases k : u 1 0 = d
  · rw [if_pos k, if_pos k]
    have e : ∀ f, ¬ f = 0 → put (put (put u 0 0 0) 1 0 d) 3 0 (u 3 0) f = u f := fun f hf => by
      by_cases a : f = 3
      · subst a; rw [put_s, put_n _ _ _ (by decide), put_n _ _ _ (by decide)]; exact up_same _ _
      · rw [put_n _ _ _ a]
        by_cases b : f = 1
        · subst b; rw [put_s, put_n _ _ _ (by decide), ← k]; exact up_same _ _
        · rw [put_n _ _ _ b, put_n _ _ _ hf]
    exact RP_fr h (fun f a _ _ _ _ => e f (by omega))
  · rw [if_neg k, if_neg k]
    refine RP.mk ⟨?_, ?_, ?_, ?_, ?_, ?_, ?_, ?_, ?_, ?_, ?_, ?_, ?_, ?_, ?_, ?_⟩
    · exact h.len
    · exact h.plc
    · exact h.cyl
    · exact h.prs
    · exact h.vlv
    · rfl
    · exact h.lev
    · rfl
    · exact h.stk
    · exact h.gnd
    · exact h.scr
    · exact hd
    · exact h.bL
    · exact h.bP
    · exact h.bV
    · exact h.bC
theorem CK_handle {n r : Nat} {x : Sy} {u : St} (h : RT n x u) (hl : LB r u) (d : Int32) : CK n r (f_X6_handle x d) (f_X7_handle u d) := by
  unfold f_X6_handle f_X7_handle
  rw [out_in]
  by_cases k : f_X7_in d 0 1 = true
  · rw [k, if_pos rfl]
    refine ⟨h.1.p.hnd, RT_plant h (handle_RP h.1.p (in_rg 1 (by decide) rfl k)) ?_, ?_⟩
    · intro f hf; exact (put_n _ _ _ (by omega)).trans ((put_n _ _ _ (by omega)).trans (put_n _ _ _ (by omega)))
    · exact LB_put (by decide) (LB_put (by decide) (LB_put (by decide) hl))
  · rw [Bool.not_eq_true] at k
    rw [k]; exact CK_bad h hl
theorem CK_ground {n r : Nat} {x : Sy} {u : St} (h : RT n x u) (hl : LB r u) (d : Int32) : CK n r (f_X6_ground x d) (f_X7_ground u d) := by
  unfold f_X6_ground f_X7_ground
  rw [out_in]
  by_cases k : f_X7_in d 0 7 = true
  · rw [k, if_pos rfl]
    have p := h.1.p
    refine ⟨p.gnd, RT_plant h (RP.mk ⟨p.len, p.plc, p.cyl, p.prs, p.vlv, p.hnd, p.lev, p.hld, p.stk, rfl, p.scr, p.bH, p.bL, p.bP, p.bV, p.bC⟩) ?_, ?_⟩
    · intro f hf; exact (put_n _ _ _ (by omega)).trans (put_n _ _ _ (by omega))
    · exact LB_put (by decide) (LB_put (by decide) hl)
  · rw [Bool.not_eq_true] at k
    rw [k]; exact CK_bad h hl
theorem CK_stick {n r : Nat} {x : Sy} {u : St} (h : RT n x u) (hl : LB r u) (d : Int32) : CK n r (f_X6_stick x d) (f_X7_stick u d) := by
  unfold f_X6_stick f_X7_stick
  rw [out_in]
  by_cases k : f_X7_in d 0 1 = true
  · rw [k, if_pos rfl]
    have p := h.1.p
    refine ⟨p.stk, RT_plant h (RP.mk ⟨p.len, p.plc, p.cyl, p.prs, p.vlv, p.hnd, p.lev, p.hld, rfl, p.gnd, p.scr, p.bH, p.bL, p.bP, p.bV, p.bC⟩) ?_, ?_⟩
    · intro f hf; exact (put_n _ _ _ (by omega)).trans (put_n _ _ _ (by omega))
    · exact LB_put (by decide) (LB_put (by decide) hl)
  · rw [Bool.not_eq_true] at k
    rw [k]; exact CK_bad h hl
theorem CK_cylinder {n r : Nat} {x : Sy} {u : St} (h : RT n x u) (hl : LB r u) (a d : Int32) : CK n r (f_X6_cylinder x a d) (f_X7_cylinder u a d) := by
  unfold f_X6_cylinder f_X7_cylinder
  rw [out_in, out_in]
  by_cases k : f_X7_in a 0 5 = true
  · rw [k, if_pos rfl]
    by_cases k2 : f_X7_in d 0 1 = true
    · rw [k2, if_pos rfl]
      have p := h.1.p
      refine ⟨congrFun p.cyl _, RT_plant h (RP.mk ⟨p.len, p.plc, congrArg (fun z => upd z (ixn a) d) p.cyl, p.prs, p.vlv, p.hnd, p.lev, p.hld, p.stk, p.gnd, p.scr, p.bH, p.bL, p.bP, p.bV, upd_rg p.bC (in_rg 1 (by decide) rfl k2)⟩) ?_, ?_⟩
      · intro f hf; exact (put_n _ _ _ (by omega)).trans (put_n _ _ _ (by omega))
      · exact LB_put (by decide) (LB_put (by decide) hl)
    · rw [Bool.not_eq_true] at k2
      rw [k2]; exact CK_bad h hl
  · rw [Bool.not_eq_true] at k
    rw [k]; exact CK_bad h hl
theorem CK_valve {n r : Nat} {x : Sy} {u : St} (h : RT n x u) (hl : LB r u) (a d : Int32) : CK n r (f_X6_valve x a d) (f_X7_valve u a d) := by
  unfold f_X6_valve f_X7_valve
  rw [out_in, out_in]
  by_cases k : f_X7_in a 0 4 = true
  · rw [k, if_pos rfl]
    by_cases k2 : f_X7_in d 0 2 = true
    · rw [k2, if_pos rfl]
      have p := h.1.p
      refine ⟨congrFun p.vlv _, RT_plant h (RP.mk ⟨p.len, p.plc, p.cyl, p.prs, congrArg (fun z => upd z (ixn a) d) p.vlv, p.hnd, p.lev, p.hld, p.stk, p.gnd, p.scr, p.bH, p.bL, p.bP, upd_rg p.bV (in_rg 2 (by decide) rfl k2), p.bC⟩) ?_, ?_⟩
      · intro f hf; exact (put_n _ _ _ (by omega)).trans (put_n _ _ _ (by omega))
      · exact LB_put (by decide) (LB_put (by decide) hl)
    · rw [Bool.not_eq_true] at k2
      rw [k2]; exact CK_bad h hl
  · rw [Bool.not_eq_true] at k
    rw [k]; exact CK_bad h hl
theorem CK_channel {n r : Nat} {x : Sy} {u : St} (h : RT n x u) (hl : LB r u) (a b d : Int32) : CK n r (f_X6_channel x a b d) (f_X7_channel u a b d) := by
  unfold f_X6_channel f_X7_channel
  rw [out_in, out_in, out_in]
  by_cases k : f_X7_in a 0 17 = true
  · rw [k, if_pos rfl]
    by_cases k2 : f_X7_in b 0 2 = true
    · rw [k2, if_pos rfl]
      by_cases k3 : f_X7_in d 0 3 = true
      · rw [k3, if_pos rfl]
        have s := h.1.s
        rw [Nat.mul_comm 3 (ixn a)]
        refine ⟨congrFun s.flt _, RT_sens h ⟨s.tru, congrArg (fun z => upd z (ixn a * 3 + ixn b) d) s.flt, upd_rg s.bF (in_rg 3 (by decide) rfl k3), s.bT⟩ ?_, ?_⟩
        · intro f h0 h1 _; exact (put_n _ _ _ (by omega)).trans (put_n _ _ _ (by omega))
        · exact LB_put (by decide) (LB_put (by decide) hl)
      · rw [Bool.not_eq_true] at k3
        rw [k3]; exact CK_bad h hl
    · rw [Bool.not_eq_true] at k2
      rw [k2]; exact CK_bad h hl
  · rw [Bool.not_eq_true] at k
    rw [k]; exact CK_bad h hl
theorem RM_dead {m n : Nat} {c v w u : St} (h : RM m n c v w u) {d : Int32} (hd : rg 1 d) : RM m n (put c 8 0 d) v w (put (put u 0 0 0) 21 m d) := by
  have e : ∀ f, ¬ f = 0 → ¬ f = 21 → put (put u 0 0 0) 21 m d f = u f := fun f a b => (put_n _ _ _ b).trans (put_n _ _ _ a)
  have c8 : ∀ f, ¬ f = 8 → put c 8 0 d f = c f := fun f a => put_n _ _ _ a
  refine ⟨?_, ?_, ?_, ?_, ?_, ?_, ?_, ?_, ?_⟩
  · rw [c8 0 (by decide)]; exact h.num
  · rw [c8 3 (by decide), e 16 (by decide) (by decide)]; exact h.stg
  · rw [e 16 (by decide) (by decide)]; exact h.bG
  · rw [c8 7 (by decide), e 19 (by decide) (by decide)]; exact h.cau
  · rw [e 19 (by decide) (by decide)]; exact h.bC
  · rw [put_at, put_at]
  · rw [put_at]; exact hd
  · exact RV_fr h.vts (e 25 (by decide) (by decide)) (e 26 (by decide) (by decide)) (e 27 (by decide) (by decide))
  · intro z
    rw [e 19 (by decide) (by decide)] at z
    have L := h.liv z
    refine ⟨?_, ?_, ?_, ?_, ?_, ?_, ⟨?_, ?_, ?_⟩, ?_⟩
    · rw [c8 5 (by decide), e 18 (by decide) (by decide)]; exact L.gol
    · rw [e 18 (by decide) (by decide), e 25 (by decide) (by decide)]; exact L.see
    · rw [c8 6 (by decide), e 20 (by decide) (by decide)]; exact L.aga
    · rw [e 20 (by decide) (by decide)]; exact L.bA
    · rw [c8 4 (by decide), e 17 (by decide) (by decide)]; exact L.age
    · rw [c8 4 (by decide)]; exact L.bg
    · rw [e 23 (by decide) (by decide)]; exact L.wr.ord
    · rw [e 24 (by decide) (by decide)]; exact L.wr.idl
    · rw [e 22 (by decide) (by decide)]; exact L.wr.cha
    · rw [e 22 (by decide) (by decide)]; exact L.bW
theorem RM_alive {m m' n : Nat} {c v w u : St} (h : RM m n c v w u) {d : Int32} (hm : ¬ m = m') : RM m n c v w (put (put u 0 0 0) 21 m' d) := by
  have e : ∀ f, ¬ f = 0 → ¬ f = 21 → put (put u 0 0 0) 21 m' d f = u f := fun f a b => (put_n _ _ _ b).trans (put_n _ _ _ a)
  refine RM_fr h (Nat.le_refl n) ?_ ?_ ?_
  · intro f a b _
    by_cases q : f = 21
    · subst q
      rw [put_s, put_n _ _ _ (by decide)]
      exact if_neg hm
    · rw [e f (by omega) q]
  · intro k _; rw [e 23 (by decide) (by decide)]
  · intro f a b k _; rw [e f (by omega) (by omega)]
theorem CK_module {n r : Nat} {x : Sy} {u : St} (h : RT n x u) (hl : LB r u) (a d : Int32) : CK n r (f_X6_module x a d) (f_X7_module u a d) := by
  unfold f_X6_module f_X7_module
  have oc := @case01 a
  rw [out_in] at oc
  rw [out_in, out_in]
  by_cases k : f_X7_in a 0 1 = true
  · rw [k] at oc ⊢
    rw [if_pos rfl]
    by_cases k2 : f_X7_in d 0 1 = true
    · rw [k2, if_pos rfl]
      have q := h.1
      have hd := in_rg 1 (by decide) rfl k2
      have e : ∀ m f, ¬ f = 0 → ¬ f = 21 → put (put u 0 0 0) 21 m d f = u f := fun m f p1 p2 => (put_n _ _ _ p2).trans (put_n _ _ _ p1)
      have F : ∀ m, RP (x 1) (put (put u 0 0 0) 21 m d) ∧ RS (x 2) (put (put u 0 0 0) 21 m d) ∧ RG (x 9) (put (put u 0 0 0) 21 m d) := fun m =>
        ⟨RP_fr q.p (fun f p1 _ _ _ _ => e m f (by omega) (by omega)), RS_fr q.s (e m 15 (by decide) (by decide)) (e m 28 (by decide) (by decide)), RG_fr q.g (e m 29 (by decide) (by decide)) (e m 30 (by decide) (by decide))⟩
      by_cases a0 : a = 0
      · subst a0
        obtain ⟨f1, f2, f3⟩ := F 0
        refine ⟨q.m0.ded, ⟨RQ.mk f1 f2 (RM_dead q.m0 hd) (RM_alive q.m1 (by decide)) f3 q.t q.b q.bB, h.2⟩, ?_⟩
        exact LB_put (by decide) (LB_put (by decide) hl)
      · have a1 := oc rfl a0
        subst a1
        obtain ⟨f1, f2, f3⟩ := F 1
        refine ⟨q.m1.ded, ⟨RQ.mk f1 f2 (RM_alive q.m0 (by decide)) (RM_dead q.m1 hd) f3 q.t q.b q.bB, h.2⟩, ?_⟩
        exact LB_put (by decide) (LB_put (by decide) hl)
    · rw [Bool.not_eq_true] at k2
      rw [k2]; exact CK_bad h hl
  · rw [Bool.not_eq_true] at k
    rw [k]; exact CK_bad h hl
