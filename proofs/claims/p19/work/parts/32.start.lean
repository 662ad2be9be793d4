/-! The new objects, alike -/
theorem z0_0 (f j : Nat) : z0 f j = 0 := rfl
theorem len_eq (a : Int32) : f_X7_lengthOf a = f_X2_usableLength a := rfl
/-- the reference's state ahead of its first feel -/
def ini0 (a b c d : Int32) : St := put (put (put (put (put (put (put (put (put (put (put (put z0 1 0 1) 5 0 7) 8 0 1) 12 0 a) 12 1 b) 12 2 b) 12 3 c) 12 4 d) 12 5 d) 13 3 c) 13 4 d) 13 5 d
def iniP (a b c d : Int32) : St := put (put (put (put (put (put (put (put (put (put (put (put (put (put (put z0 0 0 a) 0 3 c) 1 3 c) 0 1 b) 0 4 d) 1 4 d) 0 2 b) 0 5 d) 1 5 d) 5 0 1) 6 0 0) 7 0 0) 8 0 0) 9 0 7) 10 0 0
theorem X2_init_eq (a b c d : Int32) : f_X2_init a b c d = iniP (f_X2_usableLength a) (f_X2_usableLength b) (f_X2_usableLength c) (f_X2_usableLength d) := rfl
theorem X7_init_eq (a b c d : Int32) : f_X7_init a b c d = up f_X7_init_t273 0 2 (f_X7_feel (ini0 (f_X2_usableLength a) (f_X2_usableLength b) (f_X2_usableLength c) (f_X2_usableLength d))) := rfl
theorem RP_ini (a b c d : Int32) : RP (iniP a b c d) (ini0 a b c d) := by
  refine RP.mk ⟨?_, ?_, rfl, rfl, rfl, rfl, rfl, rfl, rfl, rfl, rfl, ⟨1, by decide, rfl⟩, ⟨0, by decide, rfl⟩, fun _ _ => ⟨0, by decide, rfl⟩, fun _ _ => ⟨0, by decide, rfl⟩, fun _ _ => ⟨0, by decide, rfl⟩⟩
  · funext j
    show upd (upd (upd (upd (upd (upd (z0 0) 0 a) 3 c) 1 b) 4 d) 2 b) 5 d j = upd (upd (upd (upd (upd (upd (z0 12) 0 a) 1 b) 2 b) 3 c) 4 d) 5 d j
    unfold upd
    repeat' split
    all_goals first | rfl | omega
  · rfl
theorem sensor_le {u v : St} (h : ∀ f, f ≤ 14 → v f = u f) (k : Nat) : f_X7_sensor v k = f_X7_sensor u k := by
  unfold f_X7_sensor
  rw [h 1 (by decide), h 2 (by decide), h 10 (by decide), h 13 (by decide), h 12 (by decide), h 5 (by decide)]
theorem iniV (s : St) (n : Nat) : ∀ (k : Nat) (a : St) (j : Nat), (k ≤ j ∧ j < k + n → up (f_X4_init_t22 s) k n a 0 j = s 0 j ∧ up (f_X4_init_t22 s) k n a 1 j = 7) ∧ (¬ (k ≤ j ∧ j < k + n) → up (f_X4_init_t22 s) k n a 0 j = a 0 j ∧ up (f_X4_init_t22 s) k n a 1 j = a 1 j) := by
  induction n with
  | zero => exact fun k a j => ⟨fun h => absurd h (by omega), fun _ => ⟨rfl, rfl⟩⟩
  | succ n ih =>
    intro k a j
    rw [up_s]
    have q := ih (k + 1) (f_X4_init_t22 s k a) j
    have e0 : f_X4_init_t22 s k a 0 j = if j = k then s 0 k else a 0 j := by
      unfold f_X4_init_t22; rw [put_n _ _ _ (by decide), put_s]; rfl
    have e1 : f_X4_init_t22 s k a 1 j = if j = k then 7 else a 1 j := by
      unfold f_X4_init_t22; rw [put_s, put_n _ _ _ (by decide)]; rfl
    rw [e0, e1] at q
    refine ⟨fun h => ?_, fun h => ?_⟩
    · by_cases e : j = k
      · have r := q.2 (by omega)
        rw [if_pos e, if_pos e] at r
        rw [e] at r ⊢; exact r
      · exact q.1 (by omega)
    · have r := q.2 (by omega)
      rw [if_neg (by omega), if_neg (by omega)] at r
      exact r
theorem iniM (u : St) (i n : Nat) : ∀ (k : Nat) (a : St), (∀ f, f ≤ 14 → a f = u f) → (∀ f, ¬ f = 25 → ¬ f = 26 → up (f_X7_init_t298 i) k n a f = a f) ∧ ∀ j, (18 * i + k ≤ j ∧ j < 18 * i + k + n → up (f_X7_init_t298 i) k n a 25 j = f_X7_sensor u (j - 18 * i) ∧ up (f_X7_init_t298 i) k n a 26 j = 7) ∧ (¬ (18 * i + k ≤ j ∧ j < 18 * i + k + n) → up (f_X7_init_t298 i) k n a 25 j = a 25 j ∧ up (f_X7_init_t298 i) k n a 26 j = a 26 j) := by
  induction n with
  | zero => exact fun k a _ => ⟨fun _ _ _ => rfl, fun j => ⟨fun h => absurd h (by omega), fun _ => ⟨rfl, rfl⟩⟩⟩
  | succ n ih =>
    intro k a hu
    rw [up_s]
    have fr : ∀ f, ¬ f = 25 → ¬ f = 26 → f_X7_init_t298 i k a f = a f := fun f p q => (put_n _ _ _ q).trans (put_n _ _ _ p)
    obtain ⟨w1, w2⟩ := ih (k + 1) (f_X7_init_t298 i k a) (fun f hf => (fr f (by omega) (by omega)).trans (hu f hf))
    refine ⟨fun f p q => (w1 f p q).trans (fr f p q), fun j => ?_⟩
    have q := w2 j
    have e0 : f_X7_init_t298 i k a 25 j = if j = 18 * i + k then f_X7_sensor u k else a 25 j := by
      unfold f_X7_init_t298; rw [put_n _ _ _ (by decide), put_s, sensor_le hu]; rfl
    have e1 : f_X7_init_t298 i k a 26 j = if j = 18 * i + k then 7 else a 26 j := by
      unfold f_X7_init_t298; rw [put_s, put_n _ _ _ (by decide)]; rfl
    rw [e0, e1] at q
    refine ⟨fun h => ?_, fun h => ?_⟩
    · by_cases e : j = 18 * i + k
      · have r := q.2 (by omega)
        rw [if_pos e, if_pos e] at r
        rw [show j - 18 * i = k by omega]; exact r
      · exact q.1 (by omega)
    · have r := q.2 (by omega)
      rw [if_neg (by omega), if_neg (by omega)] at r
      exact r
/-- what the reference's modules are at first -/
def iniX (u0 u : St) : Prop := (∀ f, ¬ f = 18 → ¬ f = 22 → ¬ f = 25 → ¬ f = 26 → u f = u0 f) ∧ ∀ m, m < 2 → u 18 m = 1 ∧ u 22 m = -1 ∧ ∀ k, k < 18 → u 25 (18 * m + k) = f_X7_sensor u0 k ∧ u 26 (18 * m + k) = 7
theorem t273_eq (i : Nat) (a : St) : f_X7_init_t273 i a = up (f_X7_init_t298 i) 0 18 (put (put a 18 i 1) 22 i (-1)) := rfl
theorem iniX_ok (u0 : St) : iniX u0 (up f_X7_init_t273 0 2 u0) := by
  rw [show up f_X7_init_t273 0 2 u0 = f_X7_init_t273 1 (f_X7_init_t273 0 u0) from rfl]
  have s0 : ∀ (a : St) (i : Nat) (f : Nat), ¬ f = 18 → ¬ f = 22 → put (put a 18 i 1) 22 i (-1) f = a f := fun a i f p q => (put_n _ _ _ q).trans (put_n _ _ _ p)
  have s18 : ∀ (a : St) (i j : Nat), put (put a 18 i 1) 22 i (-1) 18 j = if j = i then 1 else a 18 j := fun a i j => by
    rw [put_n _ _ _ (by decide), put_s]; rfl
  have s22 : ∀ (a : St) (i j : Nat), put (put a 18 i 1) 22 i (-1) 22 j = if j = i then -1 else a 22 j := fun a i j => by
    rw [put_s, put_n _ _ _ (by decide)]; rfl
  have H0 := iniM u0 0 18 0 (put (put u0 18 0 1) 22 0 (-1)) (fun f hf => s0 u0 0 f (by omega) (by omega))
  rw [← t273_eq] at H0
  generalize f_X7_init_t273 0 u0 = a at *
  obtain ⟨a1, a2⟩ := H0
  have H1 := iniM u0 1 18 0 (put (put a 18 1 1) 22 1 (-1)) (fun f hf => (s0 a 1 f (by omega) (by omega)).trans ((a1 f (by omega) (by omega)).trans (s0 u0 0 f (by omega) (by omega))))
  rw [← t273_eq] at H1
  generalize f_X7_init_t273 1 a = b at *
  obtain ⟨b1, b2⟩ := H1
  refine ⟨fun f p q r s => ?_, fun m hm => ?_⟩
  · rw [b1 f r s, s0 a 1 f p q, a1 f r s, s0 u0 0 f p q]
  · have hm2 : m = 0 ∨ m = 1 := by omega
    rcases hm2 with e | e <;> subst e
    · refine ⟨?_, ?_, fun k hk => ?_⟩
      · rw [b1 18 (by decide) (by decide), s18, if_neg (by decide), a1 18 (by decide) (by decide), s18, if_pos rfl]
      · rw [b1 22 (by decide) (by decide), s22, if_neg (by decide), a1 22 (by decide) (by decide), s22, if_pos rfl]
      · have r := (b2 (18 * 0 + k)).2 (by omega)
        rw [s0 a 1 25 (by decide) (by decide), s0 a 1 26 (by decide) (by decide)] at r
        have r2 := (a2 (18 * 0 + k)).1 (by omega)
        rw [show 18 * 0 + k - 18 * 0 = k by omega] at r2
        exact ⟨r.1.trans r2.1, r.2.trans r2.2⟩
    · refine ⟨?_, ?_, fun k hk => ?_⟩
      · rw [b1 18 (by decide) (by decide), s18, if_pos rfl]
      · rw [b1 22 (by decide) (by decide), s22, if_pos rfl]
      · have r2 := (b2 (18 * 1 + k)).1 (by omega)
        rw [show 18 * 1 + k - 18 * 1 = k by omega] at r2
        exact r2
theorem RM_ini {m n : Nat} (hm : m < 2) (hn : n < 2 ^ 31) {u0 u sS : St} (hX : iniX u0 u) (hs : ∀ k, k < 18 → sS 0 k = f_X7_sensor u0 k ∧ rg 1 (f_X7_sensor u0 k)) (h1 : f_X7_sensor u0 0 = 1) (hz : ∀ f, 16 ≤ f → f ≤ 27 → u0 f = z0 f) : RM m n (f_X0_init sS (nI m)).1 (f_X0_init sS (nI m)).2.1 (f_X0_init sS (nI m)).2.2 u ∧ u 19 m = 0 := by
  obtain ⟨x1, x2⟩ := hX
  obtain ⟨y1, y2, y3⟩ := x2 m hm
  have z : ∀ f, 16 ≤ f → f ≤ 27 → ¬ f = 18 → ¬ f = 22 → ¬ f = 25 → ¬ f = 26 → ∀ j, u f j = 0 := fun f a b p q r s j => by
    rw [x1 f p q r s, hz f a b]; rfl
  have z19 := z 19 (by decide) (by decide) (by decide) (by decide) (by decide) (by decide) m
  have z16 := z 16 (by decide) (by decide) (by decide) (by decide) (by decide) (by decide) m
  have z17 := z 17 (by decide) (by decide) (by decide) (by decide) (by decide) (by decide) m
  have z20 := z 20 (by decide) (by decide) (by decide) (by decide) (by decide) (by decide) m
  have z21 := z 21 (by decide) (by decide) (by decide) (by decide) (by decide) (by decide) m
  have z24 := z 24 (by decide) (by decide) (by decide) (by decide) (by decide) (by decide) m
  have y30 : u 25 (18 * m) = 1 := (y3 0 (by decide)).1.trans h1
  refine ⟨⟨rfl, ?_, ?_, ?_, ?_, ?_, ?_, ?_, fun _ => ⟨?_, ?_, ?_, ?_, ?_, ?_, ⟨?_, ?_, ?_⟩, ?_⟩⟩, z19⟩
  · rw [z16]; rfl
  · rw [z16]; exact ⟨0, by decide, rfl⟩
  · rw [z19]; rfl
  · rw [z19]; exact ⟨0, by decide, rfl⟩
  · rw [z21]; rfl
  · rw [z21]; exact ⟨0, by decide, rfl⟩
  · intro k hk
    obtain ⟨w1, w2⟩ := y3 k hk
    obtain ⟨i1, i2⟩ := (iniV sS 18 0 z0 k).1 (by omega)
    obtain ⟨t1, t2⟩ := hs k hk
    refine ⟨?_, ?_, ?_, ?_, ?_⟩
    · rw [w1, ← t1]; exact i1
    · rw [w2]; exact i2
    · rw [w2, z 27 (by decide) (by decide) (by decide) (by decide) (by decide) (by decide)]; rfl
    · rw [w1]; exact t2
    · rw [w2]; exact Or.inr (Or.inr (Or.inr (Or.inr rfl)))
  · rw [y1]; rfl
  · rw [y1, y30]
  · rw [z20]; rfl
  · rw [z20]; exact ⟨0, by decide, rfl⟩
  · rw [z17]; exact (by decide : (0 : Int32) = imn 0 99)
  · exact ⟨show 0 ≤ (0 : Int32).toInt by decide, show (0 : Int32).toInt + n < 2 ^ 31 by rw [show (0 : Int32).toInt = 0 from rfl]; omega⟩
  · intro j _
    rw [z 23 (by decide) (by decide) (by decide) (by decide) (by decide) (by decide)]; rfl
  · rw [z24]; rfl
  · rw [y2]; exact (by decide : (216 : Int32) = chg (-1))
  · rw [y2]; exact Or.inl rfl
theorem RT_init {n r : Nat} (hn : n < 2 ^ 31) (hr : r < 2 ^ 31) (a b c d : Int32) : RT n (f_X6_init a b c d) (f_X7_init a b c d) ∧ LB r (f_X7_init a b c d) ∧ f_X7_init a b c d 19 0 = 0 ∧ f_X7_init a b c d 19 1 = 0 := by
  rw [X7_init_eq]
  unfold f_X6_init f_X6_init_o39
  rw [X2_init_eq]
  generalize f_X2_usableLength a = la
  generalize f_X2_usableLength b = lb
  generalize f_X2_usableLength c = lc
  generalize f_X2_usableLength d = ld
  have hp := RP_ini la lb lc ld
  have s1 : f_X7_sensor (ini0 la lb lc ld) 0 = 1 := rfl
  have zz : ∀ f, 15 ≤ f → ini0 la lb lc ld f = z0 f := fun f hf => by
    unfold ini0
    rw [put_n _ _ _ (by omega), put_n _ _ _ (by omega), put_n _ _ _ (by omega), put_n _ _ _ (by omega), put_n _ _ _ (by omega), put_n _ _ _ (by omega), put_n _ _ _ (by omega), put_n _ _ _ (by omega), put_n _ _ _ (by omega), put_n _ _ _ (by omega), put_n _ _ _ (by omega), put_n _ _ _ (by omega)]
  have e6 : ini0 la lb lc ld 6 = z0 6 := rfl
  have e9 : ini0 la lb lc ld 9 = z0 9 := rfl
  have e8 : ini0 la lb lc ld 8 0 = 1 := rfl
  generalize iniP la lb lc ld = p at *
  generalize ini0 la lb lc ld = u0 at *
  have S0 : RS f_X3_init u0 := ⟨(zz 28 (by decide)).symm, (zz 15 (by decide)).symm, fun k _ => by rw [zz 15 (by decide)]; exact ⟨0, by decide, rfl⟩, fun k _ => by rw [zz 28 (by decide)]; exact ⟨0, by decide, rfl⟩⟩
  have S1 := RS_feel hp S0
  have V : ∀ k, k < 18 → f_X3_feel f_X3_init p 0 k = f_X7_sensor u0 k ∧ rg 1 (f_X7_sensor u0 k) := fun k hk => ⟨feel_val hp _ k hk, sens_rg hp k⟩
  have fe : ∀ f, ¬ f = 28 → f_X7_feel u0 f = u0 f := fun f hf => feel_fr u0 f hf
  have se : ∀ k, f_X7_sensor (f_X7_feel u0) k = f_X7_sensor u0 k := fun k => sensor_le (fun f hf => fe f (by omega)) k
  have X := iniX_ok (f_X7_feel u0)
  generalize f_X3_feel f_X3_init p = s at *
  have V' : ∀ k, k < 18 → s 0 k = f_X7_sensor (f_X7_feel u0) k ∧ rg 1 (f_X7_sensor (f_X7_feel u0) k) := fun k hk => by rw [se]; exact V k hk
  have s1' : f_X7_sensor (f_X7_feel u0) 0 = 1 := (se 0).trans s1
  generalize f_X7_feel u0 = v at *
  generalize up f_X7_init_t273 0 2 v = w at *
  have hz : ∀ f, 16 ≤ f → f ≤ 27 → v f = z0 f := fun f a b => (fe f (by omega)).trans (zz f (by omega))
  obtain ⟨M0, c0⟩ := RM_ini (m := 0) (n := n) (by decide) hn X V' s1' hz
  obtain ⟨M1, c1⟩ := RM_ini (m := 1) (n := n) (by decide) hn X V' s1' hz
  have wf : ∀ f, ¬ f = 18 → ¬ f = 22 → ¬ f = 25 → ¬ f = 26 → ¬ f = 28 → w f = u0 f := fun f a b c d e => (X.1 f a b c d).trans (fe f e)
  have w29 : w 29 0 = 0 := by rw [wf 29 (by decide) (by decide) (by decide) (by decide) (by decide), zz 29 (by decide)]; rfl
  refine ⟨⟨RQ.mk ?_ ?_ M0 M1 ⟨?_, ?_⟩ ?_ ?_ ?_, ?_⟩, ⟨?_, ?_⟩, c0, c1⟩
  · exact RP_fr hp (fun f _ _ _ _ _ => wf f (by omega) (by omega) (by omega) (by omega) (by omega))
  · exact RS_fr S1 (X.1 15 (by decide) (by decide) (by decide) (by decide)) (X.1 28 (by decide) (by decide) (by decide) (by decide))
  · rw [wf 30 (by decide) (by decide) (by decide) (by decide) (by decide), zz 30 (by decide)]; rfl
  · rw [w29]; rfl
  · rw [wf 6 (by decide) (by decide) (by decide) (by decide) (by decide), e6]; rfl
  · rw [wf 9 (by decide) (by decide) (by decide) (by decide) (by decide), e9]; rfl
  · rw [wf 9 (by decide) (by decide) (by decide) (by decide) (by decide), e9]; exact ⟨0, by decide, rfl⟩
  · rw [wf 8 (by decide) (by decide) (by decide) (by decide) (by decide), e8]; rfl
  · rw [w29]; decide
  · rw [w29, show (0 : Int32).toInt = 0 from rfl]; omega
