abbrev RS (s u : St) : Prop := (s 0 = u 28) ∧ (s 1 = u 15) ∧ (∀ k < 54, rg 3 (u 15 k)) ∧ (∀ k < 18, rg 1 (u 28 k))
theorem RS.tru {s u : St} (h : RS s u) : s 0 = u 28 := h.1
theorem RS.flt {s u : St} (h : RS s u) : s 1 = u 15 := h.2.1
theorem RS.bF {s u : St} (h : RS s u) : ∀ k < 54, rg 3 (u 15 k) := h.2.2.1
theorem RS.bT {s u : St} (h : RS s u) : ∀ k < 18, rg 1 (u 28 k) := h.2.2.2
theorem sensor_fr {u v : St} (h : ∀ f, ¬ f = 28 → v f = u f) (k : Nat) : f_X7_sensor v k = f_X7_sensor u k := by
  unfold f_X7_sensor
  rw [h 1 (by decide), h 2 (by decide), h 5 (by decide), h 10 (by decide), h 12 (by decide), h 13 (by decide)]
theorem feelM (u : St) : ∀ n k v, (∀ f, ¬ f = 28 → v f = u f) → (∀ f, ¬ f = 28 → up f_X7_feel_t2 k n v f = u f) ∧ ∀ j, up f_X7_feel_t2 k n v 28 j = if k ≤ j ∧ j < k + n then f_X7_sensor u j else v 28 j
  | 0, k, v, h => ⟨h, fun j => by rw [if_neg (by omega)]; rfl⟩
  | n + 1, k, v, h => by
    have h1 : ∀ f, ¬ f = 28 → f_X7_feel_t2 k v f = u f := fun f hf => by unfold f_X7_feel_t2; rw [put_n _ _ _ hf]; exact h f hf
    obtain ⟨a, b⟩ := feelM u n (k + 1) (f_X7_feel_t2 k v) h1
    refine ⟨a, fun j => ?_⟩
    show up f_X7_feel_t2 (k + 1) n (f_X7_feel_t2 k v) 28 j = _
    rw [b j]
    by_cases q : j = k
    · subst q
      rw [if_neg (by omega), if_pos (by omega)]
      unfold f_X7_feel_t2
      rw [put_at, sensor_fr h]
    · by_cases q2 : k + 1 ≤ j ∧ j < k + 1 + n
      · rw [if_pos q2, if_pos (by omega)]
      · rw [if_neg q2, if_neg (by omega)]
        unfold f_X7_feel_t2
        rw [put_s]; exact if_neg q
theorem feel_fr (u : St) (f : Nat) (h : ¬ f = 28) : f_X7_feel u f = u f := (feelM u 18 0 u (fun _ _ => rfl)).1 f h
theorem feel_28 (u : St) (j : Nat) : f_X7_feel u 28 j = if j < 18 then f_X7_sensor u j else u 28 j := by
  have h := (feelM u 18 0 u (fun _ _ => rfl)).2 j
  show up f_X7_feel_t2 0 18 u 28 j = _
  rw [h]
  by_cases q : j < 18
  · rw [if_pos q, if_pos (by omega)]
  · rw [if_neg q, if_neg (by omega)]
theorem feelC_1 (s p : St) : f_X3_feel s p 1 = s 1 := by
  unfold f_X3_feel f_X3_feel_k29 f_X3_feel_k55 f_X3_feel_k91_3 f_X3_feel_k123_3 f_X3_feel_k155_3 f_X3_feel_k181_3 f_X3_feel_k91_2 f_X3_feel_k123_2 f_X3_feel_k155_2 f_X3_feel_k181_2 f_X3_feel_k91 f_X3_feel_k123 f_X3_feel_k155 f_X3_feel_k181
  simp [put]
theorem feelC_ge (s p : St) (j : Nat) (h : ¬ j < 18) : f_X3_feel s p 0 j = s 0 j := by
  unfold f_X3_feel f_X3_feel_k29 f_X3_feel_k55 f_X3_feel_k91_3 f_X3_feel_k123_3 f_X3_feel_k155_3 f_X3_feel_k181_3 f_X3_feel_k91_2 f_X3_feel_k123_2 f_X3_feel_k155_2 f_X3_feel_k181_2 f_X3_feel_k91 f_X3_feel_k123 f_X3_feel_k155 f_X3_feel_k181
  have e : ∀ i, i < 18 → ¬ j = i := fun i hi q => h (q ▸ hi)
  simp only [put_s, upd]
  rw [if_neg (e _ (by decide)), if_neg (e _ (by decide)), if_neg (e _ (by decide)), if_neg (e _ (by decide)), if_neg (e _ (by decide)), if_neg (e _ (by decide)), if_neg (e _ (by decide)), if_neg (e _ (by decide)), if_neg (e _ (by decide)), if_neg (e _ (by decide)), if_neg (e _ (by decide)), if_neg (e _ (by decide)), if_neg (e _ (by decide)), if_neg (e _ (by decide)), if_neg (e _ (by decide)), if_neg (e _ (by decide)), if_neg (e _ (by decide)), if_neg (e _ (by decide))]
theorem sens_bit (b : Bool) : f_X7_sensor_k214 b = f_X6_bit b := rfl
theorem feel_val {p u : St} (h : RP p u) (s : St) (j : Nat) (hj : j < 18) : f_X3_feel s p 0 j = f_X7_sensor u j := by
  unfold f_X3_feel f_X3_feel_k29 f_X3_feel_k55 f_X3_feel_k91_3 f_X3_feel_k123_3 f_X3_feel_k155_3 f_X3_feel_k181_3 f_X3_feel_k91_2 f_X3_feel_k123_2 f_X3_feel_k155_2 f_X3_feel_k181_2 f_X3_feel_k91 f_X3_feel_k123 f_X3_feel_k155 f_X3_feel_k181
  unfold f_X7_sensor
  simp only [put_s, upd, h.len, h.plc, h.prs, h.hnd, h.lev, h.gnd, sens_bit, f_X7_sensor_k64, f_X7_sensor_k90, f_X7_sensor_k126, f_X7_sensor_k162, f_X7_sensor_k189, f_X7_sensor_k213, f_X6_has]
  have hH : u 1 0 = f_X6_bit (if u 1 0 = 1 then true else false) := by
    rcases rg1 h.bH with e | e <;> rw [e] <;> rfl
  have e18 : j = 0 ∨ j = 1 ∨ j = 2 ∨ j = 3 ∨ j = 4 ∨ j = 5 ∨ j = 6 ∨ j = 7 ∨ j = 8 ∨ j = 9 ∨ j = 10 ∨ j = 11 ∨ j = 12 ∨ j = 13 ∨ j = 14 ∨ j = 15 ∨ j = 16 ∨ j = 17 := by omega
  rcases e18 with e | e | e | e | e | e | e | e | e | e | e | e | e | e | e | e | e | e <;> subst e
  · exact hH
  all_goals rfl
theorem sens_rg {p u : St} (h : RP p u) (j : Nat) : rg 1 (f_X7_sensor u j) := by
  have key : ∀ b, rg 1 (f_X7_sensor_k214 b) := fun b => by
    cases b
    · exact ⟨0, by decide, rfl⟩
    · exact ⟨1, by decide, rfl⟩
  exact key _
theorem RS_feel {p s u : St} (h : RP p u) (hs : RS s u) : RS (f_X3_feel s p) (f_X7_feel u) := by
  refine ⟨?_, ?_, ?_, ?_⟩
  · funext j
    rw [feel_28]
    by_cases q : j < 18
    · rw [if_pos q]; exact feel_val h s j q
    · rw [if_neg q, feelC_ge s p j q, hs.tru]
  · rw [feelC_1, feel_fr _ _ (by decide)]; exact hs.flt
  · rw [feel_fr _ _ (by decide)]; exact hs.bF
  · intro k hk
    rw [feel_28, if_pos hk]; exact sens_rg h k
theorem told_eq {s u : St} (h : RS s u) {k c : Nat} (hk : k < 18) (hc : c < 3) : f_X3_told s k c = f_X7_tell u k c ∧ rg 1 (f_X7_tell u k c) := by
  unfold f_X3_told f_X7_tell
  rw [h.flt, h.tru, Nat.mul_comm k 3]
  rcases rg3 (h.bF (3 * k + c) (by omega)) with e | e | e | e <;> rw [e]
  · exact ⟨rfl, h.bT k hk⟩
  · exact ⟨rfl, 0, by decide, rfl⟩
  · exact ⟨rfl, 1, by decide, rfl⟩
  · refine ⟨rfl, ?_⟩
    rcases rg1 (h.bT k hk) with e | e <;> rw [e]
    · exact ⟨1, by decide, rfl⟩
    · exact ⟨0, by decide, rfl⟩
/-- v is u but for the votes' place K -/
def At (K : Nat) (u v : St) : Prop := ∀ f j, (¬ j = K ∨ (¬ f = 25 ∧ ¬ f = 26 ∧ ¬ f = 27)) → v f j = u f j
theorem At_r (K : Nat) (u : St) : At K u u := fun _ _ _ => rfl
theorem At_p {K : Nat} {u v : St} (h : At K u v) (f : Nat) (hf : f = 25 ∨ f = 26 ∨ f = 27) (x : Int32) : At K u (put v f K x) := fun g j q => by
  by_cases e : g = f
  · subst e
    rw [put_s]
    rcases q with q | q
    · rw [show upd (v g) K x j = v g j from if_neg q]; exact h g j (Or.inl q)
    · rcases hf with r | r | r
      · exact absurd r q.1
      · exact absurd r q.2.1
      · exact absurd r q.2.2
  · rw [put_n _ _ _ e]; exact h g j q
theorem vote_at (u : St) (m k : Nat) : At (18 * m + k) u (f_X7_vote u m k) := by
  have k209 : ∀ (b : Bool) (x y z : Int32), At (18 * m + k) u (f_X7_vote_k209 u m k b x y z) := fun b x y z => by
    unfold f_X7_vote_k209
    exact At_p (At_p (At_p (At_p (At_r _ u) 25 (by decide) _) 26 (by decide) _) 26 (by decide) _) 26 (by decide) _
  have k209_2 : ∀ (b7 : Int32 × Int32) (b : Bool) (x y : Int32), At (18 * m + k) u (f_X7_vote_k209_2 u m k b7 b x y) := fun b7 b x y => by
    unfold f_X7_vote_k209_2
    split
    · exact k209 _ _ _ _
    · exact At_p (At_p (At_p (At_r _ u) 25 (by decide) _) 26 (by decide) _) 26 (by decide) _
  have k209_3 : ∀ (b7 : Int32 × Int32) (b : Bool) (x : Int32), At (18 * m + k) u (f_X7_vote_k209_3 u m k b7 b x) := fun b7 b x => by
    unfold f_X7_vote_k209_3
    split
    · exact k209_2 _ _ _ _
    · exact At_p (At_p (At_r _ u) 25 (by decide) _) 26 (by decide) _
  have k155 : ∀ (b7 : Int32 × Int32) (b : Bool), At (18 * m + k) u (f_X7_vote_k155 u m k b7 b) := fun b7 b => by
    unfold f_X7_vote_k155
    split
    · exact k209_3 _ _ _
    · exact At_p (At_r _ u) 25 (by decide) _
  have k62 : ∀ (b7 : Int32 × Int32), At (18 * m + k) u (f_X7_vote_k62 u m k b7) := fun b7 => by
    unfold f_X7_vote_k62
    split
    · unfold f_X7_vote_k90 f_X7_vote_k112 f_X7_vote_k137
      exact At_p (At_p (At_p (At_r _ u) 27 (by decide) _) 26 (by decide) _) 25 (by decide) _
    · exact k155 _ _
  unfold f_X7_vote
  split
  · exact k62 _
  · exact At_r _ u
theorem tell_p {K : Nat} (u : St) (f : Nat) (hf : f = 25 ∨ f = 26 ∨ f = 27) (x : Int32) (k c : Nat) : f_X7_tell (put u f K x) k c = f_X7_tell u k c := by
  unfold f_X7_tell
  rw [put_n _ _ _ (by omega), put_n _ _ _ (by omega)]
/-- the channels that are still in -/
def inS (n : Int32) : Prop := n = 0 ∨ n = 3 ∨ n = 5 ∨ n = 6 ∨ n = 7
/-- a vote, by values: seen, in -/
def vt (s n b0 b1 b2 : Int32) : Int32 × Int32 :=
  if n = 7 then (if b0 + b1 + b2 < 2 then 0 else 1, if b0 = b1 then (if b1 = b2 then 7 else 3) else (if b0 = b2 then 5 else 6))
  else if n = 3 then (if b0 = b1 then (b0, 3) else (s, 0))
  else if n = 5 then (if b0 = b2 then (b0, 5) else (s, 0))
  else if n = 6 then (if b1 = b2 then (b1, 6) else (s, 0))
  else (s, n)
theorem vote_val {u : St} {m k : Nat} {s n b0 b1 b2 : Int32} (hs : u 25 (18 * m + k) = s) (hn : u 26 (18 * m + k) = n) (hv : u 27 (18 * m + k) = if n = 0 then 1 else 0) (h0 : f_X7_tell u k 0 = b0) (h1 : f_X7_tell u k 1 = b1) (h2 : f_X7_tell u k 2 = b2) (r0 : rg 1 b0) (r1 : rg 1 b1) (r2 : rg 1 b2) (rn : inS n) :
    f_X7_vote u m k 25 (18 * m + k) = (vt s n b0 b1 b2).1 ∧ f_X7_vote u m k 26 (18 * m + k) = (vt s n b0 b1 b2).2 ∧ f_X7_vote u m k 27 (18 * m + k) = if (vt s n b0 b1 b2).2 = 0 then 1 else 0 := by
  unfold f_X7_vote
  rcases rn with rn | rn | rn | rn | rn <;> subst rn
  · rw [hv, if_neg (by decide), hs, hn]
    exact ⟨rfl, rfl, hv⟩
  all_goals rw [hv, if_pos (by decide)]
  all_goals unfold f_X7_vote_k62_3 f_X7_vote_k62_2 f_X7_vote_k62
  all_goals rw [hn, h0, h1, h2]
  all_goals rcases rg1 r0 with e0 | e0 <;> rcases rg1 r1 with e1 | e1 <;> rcases rg1 r2 with e2 | e2 <;> subst e0 e1 e2
  all_goals simp (decide := true) [f_X7_vote_k90, f_X7_vote_k112, f_X7_vote_k137, f_X7_vote_k155, f_X7_vote_k209_3, f_X7_vote_k209_2, f_X7_vote_k209, tell_p, h0, h1, h2, hn, hv, hs, put, upd, vt, b2i, f_X7_in]
theorem vt_ok {s n b0 b1 b2 : Int32} (hs : rg 1 s) (r0 : rg 1 b0) (r1 : rg 1 b1) (r2 : rg 1 b2) (rn : inS n) : rg 1 (vt s n b0 b1 b2).1 ∧ inS (vt s n b0 b1 b2).2 := by
  have z : rg 1 (0 : Int32) := ⟨0, by decide, rfl⟩
  have o : rg 1 (1 : Int32) := ⟨1, by decide, rfl⟩
  rcases rg1 r0 with e0 | e0 <;> rcases rg1 r1 with e1 | e1 <;> rcases rg1 r2 with e2 | e2 <;> rcases rn with rn | rn | rn | rn | rn <;> subst e0 e1 e2 rn <;> refine ⟨?_, ?_⟩ <;> first | exact z | exact o | exact hs | exact Or.inl rfl | exact Or.inr (Or.inl rfl) | exact Or.inr (Or.inr (Or.inl rfl)) | exact Or.inr (Or.inr (Or.inr (Or.inl rfl))) | exact Or.inr (Or.inr (Or.inr (Or.inr rfl)))
theorem take_val {a sS : St} {i : Nat} {s n b0 b1 b2 : Int32} (hs : a 0 i = s) (hn : a 1 i = n) (h0 : f_X3_told sS i 0 = b0) (h1 : f_X3_told sS i 1 = b1) (h2 : f_X3_told sS i 2 = b2) (r0 : rg 1 b0) (r1 : rg 1 b1) (r2 : rg 1 b2) (rn : inS n) :
    f_X4_take_t2 sS i a 0 i = (vt s n b0 b1 b2).1 ∧ f_X4_take_t2 sS i a 1 i = (vt s n b0 b1 b2).2 := by
  unfold f_X4_take_t2 f_X4_take_k34 f_X3_toldBits
  rw [h0, h1, h2, hn]
  rcases rn with rn | rn | rn | rn | rn <;> subst rn
  · rw [if_pos rfl]; exact ⟨hs, hn⟩
  all_goals rw [if_neg (by decide)]
  all_goals unfold f_X4_takeOne
  all_goals rw [hn]
  all_goals rcases rg1 r0 with e0 | e0 <;> rcases rg1 r1 with e1 | e1 <;> rcases rg1 r2 with e2 | e2 <;> subst e0 e1 e2
  all_goals simp (decide := true) [f_X4_takeOne_l14, f_X4_takeOne_k28, f_X4_takeOne_k64, f_X4_takeOne_k91, f_X6_bit, hn, hs, put, upd, vt]
theorem take_fr (sS : St) (i : Nat) (a : St) (f j : Nat) (h : ¬ j = i ∨ (¬ f = 0 ∧ ¬ f = 1)) : f_X4_take_t2 sS i a f j = a f j := by
  have pt : ∀ (v : St) (g : Nat) (x : Int32), (g = 0 ∨ g = 1) → v f j = a f j → put v g i x f j = a f j := fun v g x hg hv => by
    by_cases e : f = g
    · subst e
      rw [put_s]
      rcases h with h | h
      · exact (if_neg h).trans hv
      · rcases hg with q | q
        · exact absurd q h.1
        · exact absurd q h.2
    · rw [put_n _ _ _ e]; exact hv
  unfold f_X4_take_t2 f_X4_take_k34
  split
  · rfl
  · unfold f_X4_takeOne f_X4_takeOne_l14 f_X4_takeOne_k28 f_X4_takeOne_k64 f_X4_takeOne_k91
    split
    · exact pt _ _ _ (Or.inl rfl) rfl
    · split
      · exact pt _ _ _ (Or.inl rfl) rfl
      · split
        · exact pt _ _ _ (Or.inr rfl) (pt _ _ _ (Or.inl rfl) rfl)
        · exact pt _ _ _ (Or.inr rfl) rfl
abbrev RV1 (m k : Nat) (v u : St) : Prop := (v 0 k = u 25 (18 * m + k)) ∧ (v 1 k = u 26 (18 * m + k)) ∧ (u 27 (18 * m + k) = if u 26 (18 * m + k) = 0 then 1 else 0) ∧ (rg 1 (u 25 (18 * m + k))) ∧ (inS (u 26 (18 * m + k)))
theorem RV1.see {m k : Nat} {v u : St} (h : RV1 m k v u) : v 0 k = u 25 (18 * m + k) := h.1
theorem RV1.inn {m k : Nat} {v u : St} (h : RV1 m k v u) : v 1 k = u 26 (18 * m + k) := h.2.1
theorem RV1.inv {m k : Nat} {v u : St} (h : RV1 m k v u) : u 27 (18 * m + k) = if u 26 (18 * m + k) = 0 then 1 else 0 := h.2.2.1
theorem RV1.bS {m k : Nat} {v u : St} (h : RV1 m k v u) : rg 1 (u 25 (18 * m + k)) := h.2.2.2.1
theorem RV1.bI {m k : Nat} {v u : St} (h : RV1 m k v u) : inS (u 26 (18 * m + k)) := h.2.2.2.2
def RV (m : Nat) (v u : St) : Prop := ∀ k, k < 18 → RV1 m k v u
/-- u' is u but for the votes of the module m -/
def FrV (m : Nat) (u u' : St) : Prop := ∀ f j, (¬ (18 * m ≤ j ∧ j < 18 * m + 18) ∨ (¬ f = 25 ∧ ¬ f = 26 ∧ ¬ f = 27)) → u' f j = u f j
theorem FrV_f {m : Nat} {u u' : St} (h : FrV m u u') (f : Nat) (hf : ¬ f = 25 ∧ ¬ f = 26 ∧ ¬ f = 27) : u' f = u f := funext fun j => h f j (Or.inr hf)
theorem RV_take {m : Nat} {v u sS : St} (hS : RS sS u) (h : RV m v u) : RV m (f_X4_take v sS) (up (f_X7_act_t23 m) 0 18 u) ∧ FrV m u (up (f_X7_act_t23 m) 0 18 u) ∧ (∀ f, ¬ f = 0 → ¬ f = 1 → f_X4_take v sS f = v f) := by
  unfold f_X4_take f_X4_take_x2
  refine up_rel (R := fun a b => RV m a b ∧ FrV m u b ∧ (∀ f, ¬ f = 0 → ¬ f = 1 → a f = v f)) 0 18 ?_ 18 0 v u (by decide) (by decide) ⟨h, fun _ _ _ => rfl, fun _ _ _ => rfl⟩
  intro k a b _ hk r
  obtain ⟨hr, hfr, hf⟩ := r
  have hSb : RS sS b := ⟨by rw [FrV_f hfr 28 (by decide)]; exact hS.tru, by rw [FrV_f hfr 15 (by decide)]; exact hS.flt, by rw [FrV_f hfr 15 (by decide)]; exact hS.bF, by rw [FrV_f hfr 28 (by decide)]; exact hS.bT⟩
  have t0 := told_eq hSb hk (c := 0) (by decide)
  have t1 := told_eq hSb hk (c := 1) (by decide)
  have t2 := told_eq hSb hk (c := 2) (by decide)
  have q := hr k hk
  have A := vote_at b m k
  have tv := take_val (sS := sS) q.see q.inn t0.1 t1.1 t2.1 t0.2 t1.2 t2.2 q.bI
  have rv := vote_val (m := m) (k := k) rfl rfl q.inv rfl rfl rfl t0.2 t1.2 t2.2 q.bI
  have ok := vt_ok q.bS t0.2 t1.2 t2.2 q.bI
  refine ⟨fun j hj => ?_, fun f j hh => ?_, fun f f0 f1 => ?_⟩
  · show RV1 m j (f_X4_take_t2 sS k a) (f_X7_vote b m k)
    by_cases e : j = k
    · subst e
      refine ⟨?_, ?_, ?_, ?_, ?_⟩
      · rw [tv.1, rv.1]
      · rw [tv.2, rv.2.1]
      · rw [rv.2.2, rv.2.1]
      · rw [rv.1]; exact ok.1
      · rw [rv.2.1]; exact ok.2
    · have w := hr j hj
      have n1 : ¬ 18 * m + j = 18 * m + k := by omega
      refine ⟨?_, ?_, ?_, ?_, ?_⟩
      · rw [take_fr _ _ _ _ _ (Or.inl e), A _ _ (Or.inl n1)]; exact w.see
      · rw [take_fr _ _ _ _ _ (Or.inl e), A _ _ (Or.inl n1)]; exact w.inn
      · rw [A _ _ (Or.inl n1), A _ _ (Or.inl n1)]; exact w.inv
      · rw [A _ _ (Or.inl n1)]; exact w.bS
      · rw [A _ _ (Or.inl n1)]; exact w.bI
  · show f_X7_vote b m k f j = u f j
    rw [A f j (by rcases hh with hh | hh; exact Or.inl (by omega); exact Or.inr hh)]
    exact hfr f j hh
  · show f_X4_take_t2 sS k a f = v f
    rw [← hf f f0 f1]
    funext j
    exact take_fr _ _ _ _ _ (Or.inr ⟨f0, f1⟩)
