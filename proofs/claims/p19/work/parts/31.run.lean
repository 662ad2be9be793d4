/-! run and settle, alike -/
theorem up_s {α : Type} (f : Nat → α → α) (i k : Nat) (a : α) : up f i (k + 1) a = up f (i + 1) k (f i a) := rfl
theorem t17_eq (i : Nat) (x : Sy) : f_X6_run_t17 i x = f_X6_tick x := by unfold f_X6_run_t17 f_X6_run_o23; rfl
theorem t21_eq (i : Nat) (u : St) : f_X7_run_t21 i u = f_X7_tick u := by unfold f_X7_run_t21 f_X7_run_o27; rfl
theorem RT_up {n r : Nat} (k : Nat) : ∀ (i j : Nat) (x : Sy) (u : St), n + k < 2 ^ 31 → RT (n + k) x u → LB (4 * k + r) u → RT n (up f_X6_run_t17 i k x) (up f_X7_run_t21 j k u) ∧ LB r (up f_X7_run_t21 j k u) := by
  induction k with
  | zero => exact fun _ _ _ _ _ h hl => ⟨h, LB_lo hl (by omega)⟩
  | succ k ih =>
    intro i j x u hn h hl
    have h1 : RT (n + k) (f_X6_tick x) (f_X7_tick u) := RT_tick h (by omega) (LB_lo hl (by omega))
    have l1 : LB (4 * k + r) (f_X7_tick u) := LB_tick (LB_lo hl (by omega))
    rw [up_s, up_s, t17_eq, t21_eq]
    generalize f_X6_tick x = y at *
    generalize f_X7_tick u = v at *
    exact ih (i + 1) (j + 1) y v (by omega) h1 l1
theorem in1_nat {w : Int32} (k : f_X7_in w 1 1000 = true) : ¬ w < 1 ∧ ¬ 1000 < w := by
  unfold f_X7_in at k
  refine ⟨fun z => ?_, fun z => ?_⟩
  · rw [if_pos z] at k; cases k
  · by_cases q : w < 1
    · rw [if_pos q] at k; cases k
    · rw [if_neg q, if_pos z] at k; cases k
theorem in1_not {w : Int32} (k : ¬ f_X7_in w 1 1000 = true) : w < 1 ∨ (¬ w < 1 ∧ 1000 < w) := by
  by_cases a : w < 1
  · exact Or.inl a
  · refine Or.inr ⟨a, ?_⟩
    by_cases b : 1000 < w
    · exact b
    · exact absurd (by unfold f_X7_in; rw [if_neg a, if_neg b]) k
theorem CK_run {n r : Nat} {x : Sy} {u : St} (h : RT (n + 1000) x u) (hn : n + 1000 < 2 ^ 31) (hl : LB (4000 + r) u) (w : Int32) : CK n r (f_X6_run x w) (f_X7_run u w) := by
  unfold f_X6_run f_X7_run
  by_cases k : f_X7_in w 1 1000 = true
  · obtain ⟨a, b⟩ := in1_nat k
    rw [if_pos k, if_neg a, if_neg b]
    obtain ⟨_, w1, _⟩ := run_nat a b
    have A := RT_up (n := n) (r := r) (ixn w) 0 0 x (put u 0 0 0) (by omega) (RT_lo (RT_p0 h) (by omega)) (LB_lo (LB_put (by decide) hl) (by omega))
    exact ⟨A.1.2, A.1, A.2⟩
  · rw [if_neg k]
    have B : CK n r (-2, x) (-2, put u 0 0 0) := CK_bad (RT_lo h (by omega)) (LB_lo hl (by omega))
    rcases in1_not k with a | ⟨a, b⟩
    · rw [if_pos a]; exact B
    · rw [if_neg a, if_pos b]; exact B
theorem busy_eq {m n : Nat} {c v w u : St} (h : RM m n c v w u) : f_X0_underWay c v w = f_X7_isBusy u m := by
  unfold f_X0_underWay f_X7_isBusy
  rw [h.ded, h.cau, h.stg]
  by_cases d : u 21 m = 0
  · rw [if_pos d, if_pos d]
    by_cases z : u 19 m = 0
    · rw [if_pos z, if_pos z]
      have L := h.liv z
      have s : v 0 0 = u 25 (18 * m) := (h.vts 0 (by decide)).see
      rw [s, L.gol]
    · rw [if_neg z, if_neg z]
  · rw [if_neg d, if_neg d]
theorem uns_eq {n0 n1 : Nat} {x : Sy} {u : St} (h : RQ n0 n1 x u) : f_X6_unsettled x = (if f_X7_isBusy u 0 = true then true else f_X7_isBusy u 1) := by
  unfold f_X6_unsettled f_X6_unsettled_k30_2 f_X6_unsettled_k30
  rw [busy_eq h.m0, busy_eq h.m1]
  cases f_X7_isBusy u 0 <;> cases f_X7_isBusy u 1 <;> rfl
theorem upr_s {α τ : Type} (f : Nat → α → (α → τ) → τ) (ex : α → τ) (i k : Nat) (a : α) : upr f ex i (k + 1) a = f i a (fun b => upr f ex (i + 1) k b) := rfl
theorem s17_eq (i : Nat) (x : Sy) (g : Sy → Int32 × Sy) : f_X6_settle_t17 i x g = if f_X6_unsettled x = true then g (f_X6_tick x) else (nI i, x) := by unfold f_X6_settle_t17 f_X6_settle_o30; rfl
theorem s21_eq (i : Nat) (u : St) (g : St → Int32 × St) : f_X7_settle_t21 i u g = if f_X7_isBusy u 0 = true then g (f_X7_tick u) else if f_X7_isBusy u 1 = true then g (f_X7_tick u) else (nI i, u) := by unfold f_X7_settle_t21 f_X7_settle_o43 f_X7_settle_o43_2; rfl
theorem RT_upr {n r : Nat} (w : Int32) (k : Nat) : ∀ (i : Nat) (x : Sy) (u : St), n + k < 2 ^ 31 → RT (n + k) x u → LB (4 * k + r) u → CK n r (upr f_X6_settle_t17 (fun (a5 : Sy) => f_X6_settle_x17 w a5) i k x) (upr f_X7_settle_t21 (fun (a4 : St) => f_X7_settle_x21 w a4) i k u) := by
  induction k with
  | zero => exact fun _ _ _ _ h hl => ⟨rfl, h, LB_lo hl (by omega)⟩
  | succ k ih =>
    intro i x u hn h hl
    have e := uns_eq h.1
    have h1 : RT (n + k) (f_X6_tick x) (f_X7_tick u) := RT_tick h (by omega) (LB_lo hl (by omega))
    have l1 : LB (4 * k + r) (f_X7_tick u) := LB_tick (LB_lo hl (by omega))
    rw [upr_s, upr_s, s17_eq, s21_eq, e]
    generalize f_X6_tick x = y at *
    generalize f_X7_tick u = v at *
    have go := ih (i + 1) y v (by omega) h1 l1
    by_cases b0 : f_X7_isBusy u 0 = true
    · rw [if_pos b0, if_pos b0, if_pos rfl]; exact go
    · rw [if_neg b0, if_neg b0]
      by_cases b1 : f_X7_isBusy u 1 = true
      · rw [if_pos b1, if_pos b1]; exact go
      · rw [if_neg b1, if_neg b1]
        exact ⟨rfl, RT_lo h (by omega), LB_lo hl (by omega)⟩
theorem CK_settle {n r : Nat} {x : Sy} {u : St} (h : RT (n + 1000) x u) (hn : n + 1000 < 2 ^ 31) (hl : LB (4000 + r) u) (w : Int32) : CK n r (f_X6_settle x w) (f_X7_settle u w) := by
  unfold f_X6_settle f_X7_settle
  by_cases k : f_X7_in w 1 1000 = true
  · obtain ⟨a, b⟩ := in1_nat k
    rw [if_pos k, if_neg a, if_neg b]
    obtain ⟨_, w1, _⟩ := run_nat a b
    exact RT_upr w (ixn w) 0 x (put u 0 0 0) (by omega) (RT_lo (RT_p0 h) (by omega)) (LB_lo (LB_put (by decide) hl) (by omega))
  · rw [if_neg k]
    have B : CK n r (-2, x) (-2, put u 0 0 0) := CK_bad (RT_lo h (by omega)) (LB_lo hl (by omega))
    rcases in1_not k with a | ⟨a, b⟩
    · rw [if_pos a]; exact B
    · rw [if_neg a, if_pos b]; exact B
