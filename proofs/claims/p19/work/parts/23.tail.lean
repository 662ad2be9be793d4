theorem RM_tail {m n : Nat} {c v w b g : St} {t : Int32} {tb : Bool} (k : K m n c b) (hv : RV m v b) (hs : b 18 m = b 25 (18 * m)) (h1 : ∀ j < 5, w 0 j = b 23 (5 * m + j)) (h2 : w 1 0 = b 24 m) (h3 : (if tb = true then 0 else imn (w 2 0 + 1) 216) = chg (b 22 m)) (h4 : rgC (b 22 m)) (hg : RG g b) (hl : ¬ b 29 0 < 0) (ht : t = b 6 0) (bD : rg 1 (b 21 m)) :
    RM m n (f_X0_act_o102 t v (c, g) (f_X5_count w (f_X0_orders c v w) tb)).1 (f_X0_act_o102 t v (c, g) (f_X5_count w (f_X0_orders c v w) tb)).2.1 (f_X0_act_o102 t v (c, g) (f_X5_count w (f_X0_orders c v w) tb)).2.2.1 (f_X7_act_k174 m b) ∧ RG (f_X0_act_o102 t v (c, g) (f_X5_count w (f_X0_orders c v w) tb)).2.2.2 (f_X7_act_k174 m b) := by
  have z9 : rg 9 (0 : Int32) := ⟨0, by decide, rfl⟩
  obtain ⟨oe, oin⟩ := ord_eq (v := v) (w := w) k.ded k.stg k.bG (k.cau.trans k.cauU.symm) (by rw [k.cauU]; exact z9) (fun _ => k.gol)
  have W := WR_count (t := tb) (w := w) oin rfl h1 h2 h3
  rw [← oe] at W
  have A3 : ∀ f, ¬ f = 23 → up (f_X7_act_t183 m b) 0 5 b f = b f := fun f hf => by
    refine up_inv (I := fun (a : St) => a f = b f) 0 5 ?_ 5 0 b (by decide) (by decide) rfl
    intro i a _ _ r
    exact (put_n _ _ _ hf).trans r
  rw [oe] at W ⊢
  unfold f_X7_act_k174 f_X7_act_x183 f_X7_act_k256
  generalize f_X5_count w (f_X7_orders b m) tb = w8 at *
  generalize hA : put (up (f_X7_act_t183 m b) 0 5 b) 24 m (if (f_X7_orders b m &&& 1) = 0 then up (f_X7_act_t183 m b) 0 5 b 24 m + 1 else 0) = A at *
  have AF : ∀ f, ¬ f = 23 → ¬ f = 24 → A f = b f := fun f p q => by rw [← hA, put_n _ _ _ q]; exact A3 f p
  have hvA : RV m v A := RV_fr hv (AF 25 (by decide) (by decide)) (AF 26 (by decide) (by decide)) (AF 27 (by decide) (by decide))
  have ce := cause_eq W hvA (by rw [AF 22 (by decide) (by decide)]; exact h4)
  have cr : rg 9 (f_X5_firstCause w8 v) := cause_rg
  rw [← ce]
  unfold f_X0_act_o102
  rw [if_pos (show (c, g).1 7 0 = 0 from k.cau)]
  generalize f_X5_firstCause w8 v = x at *
  have core : ∀ u', (∀ f, ¬ f = 19 → ¬ f = 29 → ¬ f = 30 → u' f = A f) → u' 19 m = x → RM m n (put c 7 0 x) v w8 u' := fun u' uf u9 => by
    have uf2 : ∀ f, ¬ f = 19 → ¬ f = 29 → ¬ f = 30 → ¬ f = 23 → ¬ f = 24 → u' f = b f := fun f p1 p2 p3 p4 p5 => (uf f p1 p2 p3).trans (AF f p4 p5)
    have cf : ∀ f, ¬ f = 7 → put c 7 0 x f = c f := fun f q => put_n _ _ _ q
    have W' : WR m w8 u' := ⟨fun j hj => by rw [uf 23 (by decide) (by decide) (by decide)]; exact W.ord j hj, by rw [uf 24 (by decide) (by decide) (by decide)]; exact W.idl, by rw [uf 22 (by decide) (by decide) (by decide)]; exact W.cha⟩
    have g16 := uf2 16 (by decide) (by decide) (by decide) (by decide) (by decide)
    have g17 := uf2 17 (by decide) (by decide) (by decide) (by decide) (by decide)
    have g18 := uf2 18 (by decide) (by decide) (by decide) (by decide) (by decide)
    have g20 := uf2 20 (by decide) (by decide) (by decide) (by decide) (by decide)
    have g21 := uf2 21 (by decide) (by decide) (by decide) (by decide) (by decide)
    have g22 := uf2 22 (by decide) (by decide) (by decide) (by decide) (by decide)
    have g25 := uf2 25 (by decide) (by decide) (by decide) (by decide) (by decide)
    have g26 := uf2 26 (by decide) (by decide) (by decide) (by decide) (by decide)
    have g27 := uf2 27 (by decide) (by decide) (by decide) (by decide) (by decide)
    refine ⟨?_, ?_, ?_, ?_, ?_, ?_, ?_, RV_fr hv g25 g26 g27, fun _ => ⟨?_, ?_, ?_, ?_, ?_, ?_, W', ?_⟩⟩
    · rw [cf 0 (by decide)]; exact k.num
    · rw [cf 3 (by decide), g16]; exact k.stg
    · rw [g16]; exact k.bG
    · rw [put_at, u9]
    · rw [u9]; exact cr
    · rw [cf 8 (by decide), g21]; exact k.ded
    · rw [g21]; exact bD
    · rw [cf 5 (by decide), g18]; exact k.gol
    · rw [g18, g25]; exact hs
    · rw [cf 6 (by decide), g20]; exact k.aga
    · rw [g20]; exact k.bA
    · rw [cf 4 (by decide), g17]; exact k.age
    · rw [cf 4 (by decide)]; exact k.bg
    · rw [g22]; exact h4
  have pf : ∀ f, ¬ f = 19 → put A 19 m x f = A f := fun f q => put_n _ _ _ q
  have rgA : RG g (put A 19 m x) := ⟨by rw [pf 30 (by decide), AF 30 (by decide) (by decide)]; exact hg.num, by rw [pf 29 (by decide), AF 29 (by decide) (by decide)]; exact hg.cnt⟩
  by_cases q : x = 0
  · rw [if_pos q, if_neg (fun z => (rg9_pos cr).mp z q)]
    exact ⟨core _ (fun f a _ _ => pf f a) (put_at _ _ _ _), rgA⟩
  · rw [if_neg q, if_pos ((rg9_pos cr).mpr q)]
    refine ⟨core _ (fun f a p1 p2 => by rw [note_g _ _ _ _ p1 p2]; exact pf f a) (by rw [note_g _ _ _ _ (by decide) (by decide)]; exact put_at _ _ _ _), ?_⟩
    show RG (f_X1_add g t (c 0 0) (10 + x)) _
    rw [k.num]
    exact RG_note rgA (by rw [pf 29 (by decide), AF 29 (by decide) (by decide)]; exact hl) (by rw [pf 6 (by decide), AF 6 (by decide) (by decide)]; exact ht)
