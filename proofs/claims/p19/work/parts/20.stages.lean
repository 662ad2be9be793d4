def own (m f j : Nat) : Prop := (j = m ∧ (f = 16 ∨ f = 17 ∨ f = 18 ∨ f = 19 ∨ f = 20 ∨ f = 22 ∨ f = 24)) ∨ (f = 23 ∧ 5 * m ≤ j ∧ j < 5 * m + 5) ∨ ((f = 25 ∨ f = 26 ∨ f = 27) ∧ 18 * m ≤ j ∧ j < 18 * m + 18) ∨ f = 29 ∨ f = 30
/-- v is u but for the module m's own places and the log -/
def FrM (m : Nat) (u v : St) : Prop := ∀ f j, ¬ own m f j → v f j = u f j
theorem FrM_r (m : Nat) (u : St) : FrM m u u := fun _ _ _ => rfl
theorem FrM_t {m : Nat} {u v w : St} (a : FrM m u v) (b : FrM m v w) : FrM m u w := fun f j h => (b f j h).trans (a f j h)
theorem FrM_p {m : Nat} {u v : St} (h : FrM m u v) {k i : Nat} (x : Int32) (ho : own m k i) : FrM m u (put v k i x) := fun f j q => by
  by_cases e : f = k
  · subst e
    rw [put_s]
    have : ¬ j = i := fun z => q (z ▸ ho)
    exact (if_neg this).trans (h f j q)
  · rw [put_n _ _ _ e]; exact h f j q
theorem own_m {m f : Nat} (h : f = 16 ∨ f = 17 ∨ f = 18 ∨ f = 19 ∨ f = 20 ∨ f = 22 ∨ f = 24) : own m f m := Or.inl ⟨rfl, h⟩
theorem own_29 (m j : Nat) : own m 29 j := Or.inr (Or.inr (Or.inr (Or.inl rfl)))
theorem own_30 (m j : Nat) : own m 30 j := Or.inr (Or.inr (Or.inr (Or.inr rfl)))
theorem note_fr (m : Nat) (u : St) (w : Int32) : FrM m u (f_X7_note u m w) := by
  unfold f_X7_note
  exact FrM_p (FrM_p (FrM_p (FrM_p (FrM_r m u) _ (own_30 _ _)) _ (own_30 _ _)) _ (own_30 _ _)) _ (own_29 _ _)
theorem come_fr (m : Nat) (u : St) (w : Int32) : FrM m u (f_X7_come u m w) := by
  unfold f_X7_come
  exact FrM_t (FrM_p (FrM_p (FrM_r m u) _ (own_m (by decide))) _ (own_m (by decide))) (note_fr m _ _)
theorem change_fr (m : Nat) (u : St) : FrM m u (f_X7_change u m) := by
  unfold f_X7_change f_X7_change_k58
  have k : ∀ x y, FrM m u (put (put u 18 m x) 20 m y) := fun x y => FrM_p (FrM_p (FrM_r m u) _ (own_m (by decide))) _ (own_m (by decide))
  split
  · exact FrM_t (k _ _) (come_fr m _ _)
  · split
    · exact FrM_t (k _ _) (come_fr m _ _)
    · split
      · exact FrM_t (k _ _) (come_fr m _ _)
      · split
        · exact FrM_t (k _ _) (come_fr m _ _)
        · exact k _ _
theorem advance_fr (m : Nat) (u : St) : FrM m u (f_X7_advance u m) := by
  have key : ∀ b2, FrM m u (f_X7_advance_k22 u m b2) := fun b2 => by
    have c : ∀ x, FrM m u (f_X7_come u m x) := fun x => come_fr m u x
    have r := FrM_r m u
    unfold f_X7_advance_k22
    split
    · split; exact r; exact c _
    · split
      · split; exact c _; exact r
      · split
        · cases b2; exact r; exact c _
        · split
          · by_cases q : u 17 m < 1
            · rw [if_pos q]; exact r
            · rw [if_neg q]; exact c _
          · split
            · by_cases q : u 17 m < 1
              · rw [if_pos q]; exact r
              · rw [if_neg q]; exact FrM_t (FrM_p (FrM_r m u) _ (own_m (by decide))) (come_fr m _ _)
            · split
              · split; exact c _; exact r
              · split
                · split; exact r; exact c _
                · exact r
  exact key _
theorem FrV_M {m : Nat} {u v : St} (h : FrV m u v) : FrM m u v := fun f j q => h f j (by
  unfold own at q
  by_cases e : 18 * m ≤ j ∧ j < 18 * m + 18
  · right
    refine ⟨fun z => q ?_, fun z => q ?_, fun z => q ?_⟩
    · exact Or.inr (Or.inr (Or.inl ⟨Or.inl z, e⟩))
    · exact Or.inr (Or.inr (Or.inl ⟨Or.inr (Or.inl z), e⟩))
    · exact Or.inr (Or.inr (Or.inl ⟨Or.inr (Or.inr z), e⟩))
  · exact Or.inl e)
theorem cnt_fr (m : Nat) (b : St) : FrM m b (up (f_X7_act_t183 m b) 0 5 b) := by
  refine up_inv (I := fun (a : St) => FrM m b a) 0 5 ?_ 5 0 b (by decide) (by decide) (FrM_r m b)
  intro k a _ hk r
  exact FrM_p r _ (Or.inr (Or.inl ⟨rfl, by omega, by omega⟩))
theorem k256_fr (m : Nat) (a : St) (x : Int32) : FrM m a (f_X7_act_k256 m a x) := by
  unfold f_X7_act_k256
  have k : ∀ y, FrM m a (put (put a 24 m x) 19 m y) := fun y => FrM_p (FrM_p (FrM_r m a) _ (own_m (by decide))) _ (own_m (by decide))
  split
  · exact FrM_t (k _) (note_fr m _ _)
  · exact k _
theorem k174_fr (m : Nat) (b : St) : FrM m b (f_X7_act_k174 m b) := by
  unfold f_X7_act_k174 f_X7_act_x183
  exact FrM_t (cnt_fr m b) (k256_fr m _ _)
theorem k142_fr (m : Nat) (a : St) (x y : Int32) : FrM m a (f_X7_act_k142 m a x y) := by
  unfold f_X7_act_k142
  refine FrM_t ?_ (k174_fr m _)
  have k : FrM m a (put (put a 22 m x) 17 m y) := FrM_p (FrM_p (FrM_r m _) _ (own_m (by decide))) _ (own_m (by decide))
  by_cases q : a 25 (18 * m) = a 18 m
  · rw [if_pos q]; exact FrM_t k (advance_fr m _)
  · rw [if_neg q]; exact FrM_t k (change_fr m _)
theorem k102_fr (m : Nat) (a : St) (x : Int32) : FrM m a (f_X7_act_k102 m a x) := by
  unfold f_X7_act_k102
  by_cases q : 0 < a 19 m
  · rw [if_pos q]; exact FrM_p (FrM_r m _) _ (own_m (by decide))
  · rw [if_neg q]; exact k142_fr m a _ _
theorem act_fr {m : Nat} {u : St} (hv : FrV m u (up (f_X7_act_t23 m) 0 18 u)) : FrM m u (f_X7_act u m) := by
  unfold f_X7_act
  by_cases q : u 21 m = 1
  · rw [if_pos q]; exact FrM_r m u
  · rw [if_neg q]
    exact FrM_t (FrV_M hv) (k102_fr m _ _)
theorem all_eq {m k : Nat} {v u : St} (h : RV m v u) (hk : k + 2 < 18) : f_X4_allSeen v k = f_X7_all u m k := by
  unfold f_X4_allSeen f_X7_all
  have a := h k (by omega)
  have b := h (k + 1) (by omega)
  have c := h (k + 2) (by omega)
  rw [a.see, b.see, c.see, Nat.add_assoc (18 * m) k 1, Nat.add_assoc (18 * m) k 2]
  rcases rg1 a.bS with e | e <;> rcases rg1 b.bS with e2 | e2 <;> rcases rg1 c.bS with e3 | e3 <;> rw [e, e2, e3] <;> decide
theorem some_eq {m k : Nat} {v u : St} (h : RV m v u) (hk : k + 2 < 18) : f_X4_someSeen v k = f_X7_some u m k := by
  unfold f_X4_someSeen f_X7_some
  have a := h k (by omega)
  have b := h (k + 1) (by omega)
  have c := h (k + 2) (by omega)
  rw [a.see, b.see, c.see, Nat.add_assoc (18 * m) k 1, Nat.add_assoc (18 * m) k 2]
  rcases rg1 a.bS with e | e <;> rcases rg1 b.bS with e2 | e2 <;> rcases rg1 c.bS with e3 | e3 <;> rw [e, e2, e3] <;> decide
/-- the logs -/
abbrev RG (g u : St) : Prop := (g 0 = u 30) ∧ (g 1 0 = u 29 0)
theorem RG.num {g u : St} (h : RG g u) : g 0 = u 30 := h.1
theorem RG.cnt {g u : St} (h : RG g u) : g 1 0 = u 29 0 := h.2
theorem fm_nn {x : Int32} (h : ¬ x < 0) : f_J9_floorMod_7cf53 x 64 = x - x / 64 * 64 := by
  unfold f_J9_floorMod_7cf53
  rw [if_neg (xor_nn h)]
theorem RG_note {g u : St} {m : Nat} {t w : Int32} (h : RG g u) (hn : ¬ u 29 0 < 0) (ht : t = u 6 0) : RG (f_X1_add g t (nI m) w) (f_X7_note u m w) := by
  unfold f_X1_add f_X7_note
  rw [h.cnt, fm_nn hn, ht]
  refine ⟨?_, ?_⟩
  · rw [put_n _ _ _ (by decide), put_s, put_s, put_s, put_n _ _ _ (by decide), put_s, put_s, put_s, h.num, Nat.mul_comm 3]
  · rw [put_at, put_at]
abbrev K (m n : Nat) (c u : St) : Prop := (c 0 0 = nI m) ∧ (c 3 0 = u 16 m) ∧ (rg 7 (u 16 m)) ∧ (c 7 0 = 0) ∧ (u 19 m = 0) ∧ (c 8 0 = u 21 m) ∧ (c 5 0 = u 18 m) ∧ (c 6 0 = u 20 m) ∧ (rg 1 (u 20 m)) ∧ (u 17 m = imn (c 4 0) 99) ∧ (0 ≤ (c 4 0).toInt ∧ (c 4 0).toInt + n < 2 ^ 31)
theorem K.num {m n : Nat} {c u : St} (h : K m n c u) : c 0 0 = nI m := h.1
theorem K.stg {m n : Nat} {c u : St} (h : K m n c u) : c 3 0 = u 16 m := h.2.1
theorem K.bG {m n : Nat} {c u : St} (h : K m n c u) : rg 7 (u 16 m) := h.2.2.1
theorem K.cau {m n : Nat} {c u : St} (h : K m n c u) : c 7 0 = 0 := h.2.2.2.1
theorem K.cauU {m n : Nat} {c u : St} (h : K m n c u) : u 19 m = 0 := h.2.2.2.2.1
theorem K.ded {m n : Nat} {c u : St} (h : K m n c u) : c 8 0 = u 21 m := h.2.2.2.2.2.1
theorem K.gol {m n : Nat} {c u : St} (h : K m n c u) : c 5 0 = u 18 m := h.2.2.2.2.2.2.1
theorem K.aga {m n : Nat} {c u : St} (h : K m n c u) : c 6 0 = u 20 m := h.2.2.2.2.2.2.2.1
theorem K.bA {m n : Nat} {c u : St} (h : K m n c u) : rg 1 (u 20 m) := h.2.2.2.2.2.2.2.2.1
theorem K.age {m n : Nat} {c u : St} (h : K m n c u) : u 17 m = imn (c 4 0) 99 := h.2.2.2.2.2.2.2.2.2.1
theorem K.bg {m n : Nat} {c u : St} (h : K m n c u) : 0 ≤ (c 4 0).toInt ∧ (c 4 0).toInt + n < 2 ^ 31 := h.2.2.2.2.2.2.2.2.2.2
theorem note_g (u : St) (m : Nat) (w : Int32) (f : Nat) (h : ¬ f = 29) (h2 : ¬ f = 30) : f_X7_note u m w f = u f := by
  unfold f_X7_note
  rw [put_n _ _ _ h, put_n _ _ _ h2, put_n _ _ _ h2, put_n _ _ _ h2]
theorem come_g (u : St) (m : Nat) (w : Int32) (f : Nat) (h : ¬ f = 29) (h2 : ¬ f = 30) (h3 : ¬ f = 16) (h4 : ¬ f = 17) : f_X7_come u m w f = u f := by
  unfold f_X7_come
  rw [note_g _ _ _ _ h h2, put_n _ _ _ h4, put_n _ _ _ h3]
theorem K_come {m n s : Nat} {c u v w g : St} {t : Int32} (num : c 0 0 = nI m) (cau : c 7 0 = 0) (cauU : u 19 m = 0) (ded : c 8 0 = u 21 m) (gol : c 5 0 = u 18 m) (aga : (if c 3 0 = 5 then 0 else c 6 0) = u 20 m) (bA : rg 1 (u 20 m)) (hs : s ≤ 7) (hn : n < 2 ^ 31) (hg : RG g u) (hl : ¬ u 29 0 < 0) (ht : t = u 6 0) :
    K m n (f_X0_come c v w (nI s)) (f_X7_come u m (nI s)) ∧ RG (f_X1_add g t (f_X0_come c v w (nI s) 0 0) (nI s)) (f_X7_come u m (nI s)) := by
  have fr : ∀ f, ¬ f = 3 → ¬ f = 4 → ¬ f = 6 → f_X0_come c v w (nI s) f = c f := fun f h3 h4 h6 => by
    unfold f_X0_come f_X0_come_k13
    rw [put_n _ _ _ h4, put_n _ _ _ h3]
    split
    · exact put_n _ _ _ h6
    · rfl
  have e0 : f_X0_come c v w (nI s) 0 0 = nI m := by rw [fr 0 (by decide) (by decide) (by decide)]; exact num
  have e16 : f_X7_come u m (nI s) 16 m = nI s := by
    unfold f_X7_come
    rw [note_g _ _ _ _ (by decide) (by decide), put_n _ _ _ (by decide), put_at]
  have e17 : f_X7_come u m (nI s) 17 m = 0 := by
    unfold f_X7_come
    rw [note_g _ _ _ _ (by decide) (by decide), put_at]
  have e4 : f_X0_come c v w (nI s) 4 0 = 0 := by unfold f_X0_come f_X0_come_k13; rw [put_at]
  have e3 : f_X0_come c v w (nI s) 3 0 = nI s := by unfold f_X0_come f_X0_come_k13; rw [put_n _ _ _ (by decide), put_at]
  have e6 : f_X0_come c v w (nI s) 6 0 = if c 3 0 = 5 then 0 else c 6 0 := by
    unfold f_X0_come f_X0_come_k13
    rw [put_n _ _ _ (by decide), put_n _ _ _ (by decide)]
    split
    · exact put_at _ _ _ _
    · rfl
  have z : (0 : Int32).toInt = 0 := by decide
  refine ⟨⟨e0, ?_, ?_, ?_, ?_, ?_, ?_, ?_, ?_, ?_, ?_⟩, ?_⟩
  · rw [e3, e16]
  · rw [e16]; exact ⟨s, hs, rfl⟩
  · rw [fr 7 (by decide) (by decide) (by decide)]; exact cau
  · rw [come_g _ _ _ _ (by decide) (by decide) (by decide) (by decide)]; exact cauU
  · rw [fr 8 (by decide) (by decide) (by decide), come_g _ _ _ _ (by decide) (by decide) (by decide) (by decide)]; exact ded
  · rw [fr 5 (by decide) (by decide) (by decide), come_g _ _ _ _ (by decide) (by decide) (by decide) (by decide)]; exact gol
  · rw [e6, come_g _ _ _ _ (by decide) (by decide) (by decide) (by decide)]; exact aga
  · rw [come_g _ _ _ _ (by decide) (by decide) (by decide) (by decide)]; exact bA
  · rw [e17, e4]; decide
  · rw [e4, z]; omega
  · rw [e0]
    unfold f_X7_come
    refine RG_note ⟨?_, ?_⟩ ?_ ?_
    · rw [put_n _ _ _ (by decide), put_n _ _ _ (by decide)]; exact hg.num
    · rw [put_n _ _ _ (by decide), put_n _ _ _ (by decide)]; exact hg.cnt
    · rw [put_n _ _ _ (by decide), put_n _ _ _ (by decide)]; exact hl
    · rw [put_n _ _ _ (by decide), put_n _ _ _ (by decide)]; exact ht
def stp (v w g : St) (t : Int32) (b5 : Int32 × St) : St × St := if (b5.2 7 0) = 0 then (if b5.1 = (b5.2 3 0) then (b5.2, g) else (f_X0_act_o78 g t b5 (f_X0_come b5.2 v w b5.1))) else (b5.2, g)
theorem stp_stay {v w g c : St} {t b : Int32} (e : b = c 3 0) : stp v w g t (b, c) = (c, g) := by
  unfold stp
  by_cases h : c 7 0 = 0
  · rw [if_pos h, if_pos e]
  · rw [if_neg h]
theorem stp_go {v w g c : St} {t b : Int32} (h : c 7 0 = 0) (e : ¬ b = c 3 0) : stp v w g t (b, c) = (f_X0_come c v w b, f_X1_add g t (f_X0_come c v w b 0 0) b) := by
  unfold stp
  rw [if_pos h, if_neg e]
  rfl
theorem imn_lt {a k : Int32} (hk : k.toInt ≤ 99) : imn a 99 < k ↔ a < k := by
  unfold imn
  have z : (99 : Int32).toInt = 99 := by decide
  split
  · next h =>
    rw [Int32.lt_iff_toInt_lt] at h ⊢
    rw [Int32.lt_iff_toInt_lt]
    omega
  · exact Iff.rfl
theorem K_adv {m n : Nat} {c u v w g : St} {t : Int32} (h : K m n c u) (h1 : 1 ≤ (c 4 0).toInt) (hn : n < 2 ^ 31) (hv : RV m v u) (hg : RG g u) (hl : ¬ u 29 0 < 0) (ht : t = u 6 0) :
    K m n (stp v w g t (f_X0_nextStage c v w, c)).1 (f_X7_advance u m) ∧ RG (stp v w g t (f_X0_nextStage c v w, c)).2 (f_X7_advance u m) := by
  have stay : ∀ b, b = c 3 0 → K m n (stp v w g t (b, c)).1 u ∧ RG (stp v w g t (b, c)).2 u := fun b e => by rw [stp_stay e]; exact ⟨h, hg⟩
  have go : ∀ s, s ≤ 7 → ¬ nI s = c 3 0 → ¬ c 3 0 = 5 → K m n (stp v w g t (nI s, c)).1 (f_X7_come u m (nI s)) ∧ RG (stp v w g t (nI s, c)).2 (f_X7_come u m (nI s)) := fun s hs e e5 => by
    rw [stp_go h.cau e]
    exact K_come h.num h.cau h.cauU h.ded h.gol (by rw [if_neg e5]; exact h.aga) h.bA hs hn hg hl ht
  have hgt : f_X0_gearsThere c v w = (if u 18 m = 1 then f_X7_all u m 9 else f_X7_all u m 12) := by
    unfold f_X0_gearsThere; rw [h.gol, all_eq hv (by decide), all_eq hv (by decide)]
  have hmg : f_X0_gearsMayGo c v w = (if (if u 18 m = 1 then f_X7_all u m 9 else f_X7_all u m 12) = true then false else (if u 18 m = 1 then true else (if f_X7_some u m 15 = true then false else true))) := by
    unfold f_X0_gearsMayGo; rw [hgt, h.gol, some_eq hv (by decide)]
  have l2 : u 17 m < 2 ↔ c 4 0 < 2 := by rw [h.age]; exact imn_lt (by decide)
  have l10 : u 17 m < 10 ↔ c 4 0 < 10 := by rw [h.age]; exact imn_lt (by decide)
  have l1 : ¬ u 17 m < 1 := by
    rw [h.age, imn_lt (by decide), Int32.lt_iff_toInt_lt]
    have : (1 : Int32).toInt = 1 := by decide
    omega
  unfold f_X0_nextStage f_X7_advance f_X7_advance_k22
  rw [hgt, hmg, all_eq hv (k := 6) (by decide), all_eq hv (k := 3) (by decide), h.aga]
  have es := h.stg
  generalize (if u 18 m = 1 then f_X7_all u m 9 else f_X7_all u m 12) = G
  obtain ⟨s, hs, e⟩ := h.bG
  have e8 : s = 0 ∨ s = 1 ∨ s = 2 ∨ s = 3 ∨ s = 4 ∨ s = 5 ∨ s = 6 ∨ s = 7 := by omega
  rw [e] at es
  rcases e8 with q | q | q | q | q | q | q | q <;> subst q
  all_goals rw [es, e]
  · exact stay _ es.symm
  · simp (decide := true) only [↓reduceIte]
    by_cases q : c 4 0 < 2
    · rw [if_pos q, if_pos (l2.mpr q)]; exact stay _ es.symm
    · rw [if_neg q, if_neg (fun z => q (l2.mp z))]; exact go 2 (by decide) (by rw [es]; decide) (by rw [es]; decide)
  · simp (decide := true) only [↓reduceIte]
    by_cases q : f_X7_all u m 6 = true
    · rw [if_pos q, if_pos q]; exact go 4 (by decide) (by rw [es]; decide) (by rw [es]; decide)
    · rw [if_neg q, if_neg q]; exact stay _ es.symm
  · simp (decide := true) only [↓reduceIte]
    cases G
    · exact stay _ es.symm
    · exact go 4 (by decide) (by rw [es]; decide) (by rw [es]; decide)
  · simp (decide := true) only [↓reduceIte]; rw [if_neg l1]
    unfold f_X7_advance_k164 f_X7_advance_o164
    have g3 := go 3 (by decide) (by rw [es]; decide) (by rw [es]; decide)
    have g5 := go 5 (by decide) (by rw [es]; decide) (by rw [es]; decide)
    cases G
    · by_cases q : u 18 m = 1
      · rw [if_pos q]; simp only [if_neg Bool.false_ne_true, if_pos]; rw [if_pos q]; exact g3
      · rw [if_neg q]
        by_cases q2 : f_X7_some u m 15 = true
        · rw [if_pos q2]; simp only [if_neg Bool.false_ne_true, if_pos]; rw [if_neg q, if_pos q2]; exact g5
        · rw [if_neg q2]; simp only [if_neg Bool.false_ne_true, if_pos]; rw [if_neg q, if_neg q2]; exact g3
    · exact g5
  · simp (decide := true) only [↓reduceIte]; rw [if_neg l1]
    unfold f_X7_advance_k206 f_X7_advance_o206
    have g5 : ∀ s, s ≤ 7 → ¬ nI s = c 3 0 → K m n (stp v w g t (nI s, c)).1 (f_X7_come (put u 20 m 0) m (nI s)) ∧ RG (stp v w g t (nI s, c)).2 (f_X7_come (put u 20 m 0) m (nI s)) := fun s hs e => by
      have p : ∀ f, ¬ f = 20 → put u 20 m 0 f = u f := fun f hf => put_n _ _ _ hf
      rw [stp_go h.cau e]
      refine K_come h.num h.cau (by rw [p 19 (by decide)]; exact h.cauU) (by rw [p 21 (by decide)]; exact h.ded) (by rw [p 18 (by decide)]; exact h.gol) (by rw [es, put_at]; rfl) (by rw [put_at]; exact ⟨0, by decide, rfl⟩) hs hn ⟨by rw [p 30 (by decide)]; exact hg.num, by rw [p 29 (by decide)]; exact hg.cnt⟩ (by rw [p 29 (by decide)]; exact hl) (by rw [p 6 (by decide)]; exact ht)
    rcases rg1 h.bA with q | q <;> rw [q]
    · exact g5 6 (by decide) (by rw [es]; decide)
    · exact g5 2 (by decide) (by rw [es]; decide)
  · simp (decide := true) only [↓reduceIte]
    by_cases q : f_X7_all u m 3 = true
    · rw [if_pos q, if_pos q]; exact go 7 (by decide) (by rw [es]; decide) (by rw [es]; decide)
    · rw [if_neg q, if_neg q]; exact stay _ es.symm
  · simp (decide := true) only [↓reduceIte]
    by_cases q : c 4 0 < 10
    · rw [if_pos q, if_pos (l10.mpr q)]; exact stay _ es.symm
    · rw [if_neg q, if_neg (fun z => q (l10.mp z))]; exact go 0 (by decide) (by rw [es]; decide) (by rw [es]; decide)
theorem K_chg {m n : Nat} {c u v w g : St} {t : Int32} (num : c 0 0 = nI m) (stg : c 3 0 = u 16 m) (bG : rg 7 (u 16 m)) (cau : c 7 0 = 0) (cauU : u 19 m = 0) (ded : c 8 0 = u 21 m) (aga : c 6 0 = u 20 m) (bA : rg 1 (u 20 m)) (age : u 17 m = imn (c 4 0) 99) (bg : 0 ≤ (c 4 0).toInt ∧ (c 4 0).toInt + n < 2 ^ 31) (hn : n < 2 ^ 31) (hv : RV m v u) (hg : RG g u) (hl : ¬ u 29 0 < 0) (ht : t = u 6 0) :
    K m n (stp v w g t (f_X0_turn c v w)).1 (f_X7_change u m) ∧ RG (stp v w g t (f_X0_turn c v w)).2 (f_X7_change u m) := by
  have hv0 : v 0 0 = u 25 (18 * m) := (hv 0 (by decide)).see
  have yp : ∀ x f, ¬ f = 18 → ¬ f = 20 → put (put u 18 m (u 25 (18 * m))) 20 m x f = u f := fun x f a b => by rw [put_n _ _ _ b, put_n _ _ _ a]
  have y18 : ∀ x, put (put u 18 m (u 25 (18 * m))) 20 m x 18 m = u 25 (18 * m) := fun x => by rw [put_n _ _ _ (by decide), put_at]
  have y20 : ∀ x, put (put u 18 m (u 25 (18 * m))) 20 m x 20 m = x := fun x => put_at _ _ _ _
  -- the new goal, and again
  have stay : ∀ (c' : St) x b, (∀ f, ¬ f = 5 → ¬ f = 6 → c' f = c f) → c' 5 0 = v 0 0 → c' 6 0 = x → rg 1 x → b = c 3 0 → K m n (stp v w g t (b, c')).1 (put (put u 18 m (u 25 (18 * m))) 20 m x) ∧ RG (stp v w g t (b, c')).2 (put (put u 18 m (u 25 (18 * m))) 20 m x) := fun c' x b hc h5 h6 hx hb => by
    rw [stp_stay (by rw [hc 3 (by decide) (by decide)]; exact hb)]
    show K m n c' _ ∧ RG g _
    refine ⟨⟨?_, ?_, ?_, ?_, ?_, ?_, ?_, ?_, ?_, ?_, ?_⟩, ?_, ?_⟩
    · rw [hc 0 (by decide) (by decide)]; exact num
    · rw [hc 3 (by decide) (by decide), yp _ 16 (by decide) (by decide)]; exact stg
    · rw [yp _ 16 (by decide) (by decide)]; exact bG
    · rw [hc 7 (by decide) (by decide)]; exact cau
    · rw [yp _ 19 (by decide) (by decide)]; exact cauU
    · rw [hc 8 (by decide) (by decide), yp _ 21 (by decide) (by decide)]; exact ded
    · rw [y18, h5, hv0]
    · rw [y20, h6]
    · rw [y20]; exact hx
    · rw [hc 4 (by decide) (by decide), yp _ 17 (by decide) (by decide)]; exact age
    · rw [hc 4 (by decide) (by decide)]; exact bg
    · rw [yp _ 30 (by decide) (by decide)]; exact hg.num
    · rw [yp _ 29 (by decide) (by decide)]; exact hg.cnt
  have go : ∀ (c' : St) x (s : Nat), s ≤ 7 → (∀ f, ¬ f = 5 → ¬ f = 6 → c' f = c f) → c' 5 0 = v 0 0 → c' 6 0 = x → rg 1 x → ¬ nI s = c 3 0 → ¬ c 3 0 = 5 → K m n (stp v w g t (nI s, c')).1 (f_X7_come (put (put u 18 m (u 25 (18 * m))) 20 m x) m (nI s)) ∧ RG (stp v w g t (nI s, c')).2 (f_X7_come (put (put u 18 m (u 25 (18 * m))) 20 m x) m (nI s)) := fun c' x s hs hc h5 h6 hx hb h35 => by
    rw [stp_go (by rw [hc 7 (by decide) (by decide)]; exact cau) (by rw [hc 3 (by decide) (by decide)]; exact hb)]
    refine K_come ?_ ?_ ?_ ?_ ?_ ?_ ?_ hs hn ⟨?_, ?_⟩ ?_ ?_
    · rw [hc 0 (by decide) (by decide)]; exact num
    · rw [hc 7 (by decide) (by decide)]; exact cau
    · rw [yp _ 19 (by decide) (by decide)]; exact cauU
    · rw [hc 8 (by decide) (by decide), yp _ 21 (by decide) (by decide)]; exact ded
    · rw [y18, h5, hv0]
    · rw [hc 3 (by decide) (by decide), if_neg h35, y20, h6]
    · rw [y20]; exact hx
    · rw [yp _ 30 (by decide) (by decide)]; exact hg.num
    · rw [yp _ 29 (by decide) (by decide)]; exact hg.cnt
    · rw [yp _ 29 (by decide) (by decide)]; exact hl
    · rw [yp _ 6 (by decide) (by decide)]; exact ht
  have p1 : ∀ f, ¬ f = 5 → ¬ f = 6 → put c 5 0 (v 0 0) f = c f := fun f a _ => put_n _ _ _ a
  have p2 : ∀ f, ¬ f = 5 → ¬ f = 6 → put (put c 5 0 (v 0 0)) 6 0 1 f = c f := fun f a b => by rw [put_n _ _ _ b, put_n _ _ _ a]
  have a1 : put c 5 0 (v 0 0) 5 0 = v 0 0 := put_at _ _ _ _
  have a2 : put (put c 5 0 (v 0 0)) 6 0 1 5 0 = v 0 0 := by rw [put_n _ _ _ (by decide), put_at]
  have b2 : put (put c 5 0 (v 0 0)) 6 0 1 6 0 = 1 := put_at _ _ _ _
  have b1 : put c 5 0 (v 0 0) 6 0 = u 20 m := by rw [put_n _ _ _ (by decide)]; exact aga
  have bb : b2i (if u 20 m = 0 then false else true) = u 20 m := by rcases rg1 bA with q | q <;> rw [q] <;> rfl
  have bt : (if u 20 m = 0 then true else true) = true := by split <;> rfl
  have r1 : rg 1 (1 : Int32) := ⟨1, by decide, rfl⟩
  unfold f_X0_turn f_X7_change f_X7_change_k58 f_X7_change_o66 f_X7_change_o80
  have es := stg
  obtain ⟨s, hs, e⟩ := bG
  have e8 : s = 0 ∨ s = 1 ∨ s = 2 ∨ s = 3 ∨ s = 4 ∨ s = 5 ∨ s = 6 ∨ s = 7 := by omega
  have e' := e
  rw [e] at es
  rcases e8 with q | q | q | q | q | q | q | q <;> subst q
  all_goals rw [es, e]
  all_goals simp (decide := true) only [↓reduceIte, bt, bb]
  · exact go _ _ 1 (by decide) p1 a1 b1 bA (by rw [es]; decide) (by rw [es]; decide)
  · exact stay _ _ _ p1 a1 b1 bA es.symm
  · exact stay _ _ _ p1 a1 b1 bA es.symm
  · exact go _ _ 4 (by decide) p1 a1 b1 bA (by rw [es]; decide) (by rw [es]; decide)
  · exact stay _ _ _ p1 a1 b1 bA es.symm
  · exact stay _ _ _ p2 a2 b2 r1 es.symm
  · exact go _ _ 5 (by decide) p2 a2 b2 r1 (by rw [es]; decide) (by rw [es]; decide)
  · exact go _ _ 5 (by decide) p2 a2 b2 r1 (by rw [es]; decide) (by rw [es]; decide)
