def mcol (tf : Nat → Int32) (cm : Nat) (x : Int32) (tf2 : Nat → Int32) (cm2 : Nat) : Prop := tf2 = (if cm < 70 then upd tf cm (nI (m8 x)) else tf) ∧ cm2 = min (cm + 1) 71
def meor (pB pS pG pE pC pO d ca : Nat) (g : Nat → Nat) (cbf : Int32) (lf : Nat → Int32) (w : Nat) (gr : Int32) (bf : Nat → Int32) (jo : Int32) (tt tg : Int64) (res cb2 : Int32) (lf2 : Nat → Int32) (w2 : Nat) (gr2 : Int32) (bf2 : Nat → Int32) (jo2 : Int32) (tg2 : Int64) : Prop :=
  mfnd pB pS pG pE pC pO d ca g cbf res cb2 ∧ (∀ j, j < w2 → lf2 j = hi_s lf res j) ∧ w2 = min (w + 1) 10 ∧ gr2 = (if sd res = 1 then gr + 1 else gr) ∧ bf2 = upd bf res.toNatClampNeg 1 ∧ jo2 = hi_j lf2 w2 (if jo = 0 then 1 else jo) ∧ tg2 = (if sd res = 1 then tt else tg)
def mchk (pB pS pG pE pC pO : Nat) (tf : Nat → Int32) (cm : Nat) (g : Nat → Nat) (cbf : Int32) (lf : Nat → Int32) (w : Nat) (gr : Int32) (bf : Nat → Int32) (jo : Int32) (tt tg : Int64) (i x la res : Int32) (tf2 : Nat → Int32) (cm2 : Nat) (cb2 : Int32) (lf2 : Nat → Int32) (w2 : Nat) (gr2 : Int32) (bf2 : Nat → Int32) (jo2 : Int32) (tg2 : Int64) : Prop :=
  (¬ la = 0 ∧ idy i = 0 ∧ res = -2 ∧ tf2 = tf ∧ cm2 = cm ∧ cb2 = cbf ∧ lf2 = lf ∧ w2 = w ∧ gr2 = gr ∧ bf2 = bf ∧ jo2 = jo ∧ tg2 = tg) ∨
  (la = 0 ∧ res = 0 ∧ mcol tf cm x tf2 cm2 ∧ cb2 = cbf ∧ lf2 = lf ∧ w2 = w ∧ gr2 = gr ∧ bf2 = bf ∧ jo2 = jo ∧ tg2 = tg) ∨
  (¬ la = 0 ∧ ∃ d, d < 65536 ∧ i = nI d ∧ cm2 = 0 ∧ ∃ (ta : Nat → Int32) (ca : Nat), mcol tf cm x ta ca ∧ meor pB pS pG pE pC pO d ca (gpu g (min cm 70) x) cbf lf w gr bf jo tt tg res cb2 lf2 w2 gr2 bf2 jo2 tg2)
theorem mo_col {tf tf1 : Nat → Int32} {cm : Nat} {g : Nat → Nat} {x : Int32} (hcm : cm ≤ 71) (hg : mo_is tf (min cm 70) g) (h : tf1 = (if cm < 70 then upd tf cm (nI (m8 x)) else tf)) : mo_is tf1 (min (min (cm + 1) 71) 70) (gpu g (min cm 70) x) := by
  by_cases h7 : cm < 70
  · rw [if_pos h7] at h
    rw [h, show min (min (cm + 1) 71) 70 = cm + 1 by omega, show min cm 70 = cm by omega]
    rw [show min cm 70 = cm by omega] at hg
    exact mo_push hg
  · rw [if_neg h7] at h
    rw [h, show min (min (cm + 1) 71) 70 = 70 by omega, show min cm 70 = 70 by omega]
    rw [show min cm 70 = 70 by omega] at hg
    intro j hj
    unfold gpu
    rw [if_neg (by omega)]
    exact hg j hj
theorem fst_rng (x : Int32) : fst x = 0 ∨ fst x = 1 ∨ fst x = 2 ∨ fst x = 3 := by
  unfold fst
  split
  · simp
  · split
    · simp
    · split <;> simp
theorem rc_fd_rng (a b : Int32) (n : Nat) : ∃ k, k < 6 ∧ rc_fd a b n = nI k := by
  unfold rc_fd
  split
  · exact ⟨5, by decide, by decide⟩
  · rcases fst_rng (fm (b - a) (nI n)) with h | h | h | h <;> rw [h]
    · exact ⟨0, by decide, by decide⟩
    · exact ⟨1, by decide, by decide⟩
    · exact ⟨2, by decide, by decide⟩
    · exact ⟨3, by decide, by decide⟩
theorem fd_rng (c : Prop) [Decidable c] (a b : Int32) (n : Nat) : ∃ k, k < 6 ∧ (if c then rc_fd a b n else 4) = nI k := by
  split
  · exact rc_fd_rng a b n
  · exact ⟨4, by decide, by decide⟩
theorem mf_rng {pB pS pG pE pC pO d cm : Nat} {g : Nat → Nat} {cbf res cb2 : Int32} (h : mfnd pB pS pG pE pC pO d cm g cbf res cb2) : vp_in res 6 := by
  obtain ⟨k, hk, e⟩ := fd_rng (rc_err pB pS pG pE pC pO d (min cm 70) g (tmf cm) = 0) cbf (nI (be g 0 pO)) pC
  rw [h.1, e]
  exact vp_in_nI hk (by decide)
theorem gd_y {x : Int32} (h : ¬ gd x = 0) : sd x = 1 := by
  have q : x = 0 ∨ x = 2 ∨ x = 5 := Classical.byContradiction fun q => h (by unfold gd; rw [if_neg q])
  rcases q with rfl | rfl | rfl <;> decide
theorem gd_n {x : Int32} (h : gd x = 0) : ¬ sd x = 1 := by
  have q : ¬ (x = 0 ∨ x = 2 ∨ x = 5) := fun q => by unfold gd at h; rw [if_pos q] at h; exact absurd h (by decide)
  have h0 : ¬ x = 0 := fun e => q (Or.inl e)
  have h2 : ¬ x = 2 := fun e => q (Or.inr (Or.inl e))
  have h5 : ¬ x = 5 := fun e => q (Or.inr (Or.inr e))
  unfold sd
  rw [if_neg h0]
  by_cases h1 : x = 1
  · rw [if_pos h1]; decide
  · rw [if_neg h1, if_neg h2]
    by_cases h3 : x = 3
    · rw [if_pos h3]; decide
    · rw [if_neg h3]
      by_cases h4 : x = 4
      · rw [if_pos h4]; decide
      · rw [if_neg h4, if_neg h5]; decide
theorem sd_2 {x : Int32} (h : x = 3 ∨ x = 4) : sd x = 2 := by rcases h with rfl | rfl <;> decide
theorem sd_n2 {x : Int32} (h3 : ¬ x = 3) (h4 : ¬ x = 4) : ¬ sd x = 2 := by
  unfold sd
  by_cases h0 : x = 0
  · rw [if_pos h0]; decide
  · rw [if_neg h0]
    by_cases h1 : x = 1
    · rw [if_pos h1]; decide
    · rw [if_neg h1]
      by_cases h2 : x = 2
      · rw [if_pos h2]; decide
      · rw [if_neg h2, if_neg h3, if_neg h4]
        by_cases h5 : x = 5
        · rw [if_pos h5]; decide
        · rw [if_neg h5]; decide
theorem hi_shw {f f1 : Nat → Int32} {k v : Nat} (hk : k + 1 < v) (h : ∀ j, j < v → f1 j = if k + 1 < j then f (j - 1) else f j) : ∀ j, j < v → upd f1 (k + 1) (f1 k) j = if k < j then f (j - 1) else f j := by
  intro j hj
  by_cases e : j = k + 1
  · subst e
    rw [pk_us, h k (by omega), if_neg (by omega), if_pos (by omega)]
    rfl
  · rw [pk_un e, h j hj]
    by_cases q : k + 1 < j
    · rw [if_pos q, if_pos (by omega)]
    · rw [if_neg q, if_neg (by omega)]
theorem hi_s0w {f f1 : Nat → Int32} {x : Int32} {v : Nat} (h : ∀ j, j < v → f1 j = if 0 < j then f (j - 1) else f j) : ∀ j, j < v → upd f1 0 x j = hi_s f x j := by
  intro j hj
  unfold hi_s
  by_cases e : j = 0
  · subst e; rw [pk_us, if_pos rfl]
  · rw [pk_un e, h j hj, if_pos (by omega), if_neg e]
theorem hi_f_k {f : Nat → Int32} {w k : Nat} (hk : k < w) (hw : w ≤ 10) : hi_f f w (nI k) = f k := by
  unfold hi_f
  rw [nI_toInt (by omega), if_pos (by omega), nI_clamp (by omega)]
theorem hi_f_out {f : Nat → Int32} {w k : Nat} (hk : w ≤ k) (hk2 : k < 20) : hi_f f w (nI k) = -1 := by
  unfold hi_f
  rw [nI_toInt (by omega), if_neg (by omega)]
theorem hi_c_out {f : Nat → Int32} {w : Nat} {y : Int32} (hy : ¬ y = 0) (hw : w ≤ 10) : ∀ t, w + t ≤ 20 → hi_c f w y (w + t) = hi_c f w y w
  | 0, _ => rfl
  | t + 1, h => by
    show hi_c f w y (w + t + 1) = _
    rw [← hi_c_n, hi_c_out hy hw t (by omega)]
    rw [hi_f_out (by omega) (by omega)]
    intro e
    exact hy (e.symm.trans (by decide))
theorem hi_c_top {f : Nat → Int32} {w : Nat} {y : Int32} (hy : ¬ y = 0) (hw : w ≤ 10) : hi_c f w y 10 = hi_c f w y w := by
  have := hi_c_out (f := f) (y := y) hy hw (10 - w) (by omega)
  rwa [show w + (10 - w) = 10 by omega] at this
theorem h3_y {f : Nat → Int32} {w : Nat} (hw : w ≤ 10) (h : 2 < w) (h0 : sd (f 0) = 1) (h1 : sd (f 1) = 1) (h2 : sd (f 2) = 1) : hi_c f w 1 3 = 3 := by
  rw [← hi_c_y (k := 2) (by rw [hi_f_k h hw]; exact h2), ← hi_c_y (k := 1) (by rw [hi_f_k (by omega) hw]; exact h1), ← hi_c_y (k := 0) (by rw [hi_f_k (by omega) hw]; exact h0), hi_c_0]
theorem h3_n {f : Nat → Int32} {w k : Nat} (hk : k < 3) (h : ¬ sd (hi_f f w (nI k)) = 1) : ¬ hi_c f w 1 3 = 3 := by
  have l0 := hi_c_le (f := f) (w := w) (y := 1) 0
  have l1 := hi_c_le (f := f) (w := w) (y := 1) 1
  have l2 := hi_c_le (f := f) (w := w) (y := 1) 2
  have s : ∀ j, hi_c f w 1 (j + 1) ≤ hi_c f w 1 j + 1 := fun j => by
    show hi_c f w 1 j + _ ≤ _
    split <;> omega
  have s0 : hi_c f w 1 1 ≤ hi_c f w 1 0 + 1 := s 0
  have s1 : hi_c f w 1 2 ≤ hi_c f w 1 1 + 1 := s 1
  have s2 : hi_c f w 1 3 ≤ hi_c f w 1 2 + 1 := s 2
  rcases (show k = 0 ∨ k = 1 ∨ k = 2 by omega) with rfl | rfl | rfl
  · have e : hi_c f w 1 0 = hi_c f w 1 1 := hi_c_n h
    omega
  · have e : hi_c f w 1 1 = hi_c f w 1 2 := hi_c_n h
    omega
  · have e : hi_c f w 1 2 = hi_c f w 1 3 := hi_c_n h
    omega
theorem h3_w {f : Nat → Int32} {w : Nat} (h : w ≤ 2) : ¬ hi_c f w 1 3 = 3 := h3_n (k := 2) (by decide) (by rw [hi_f_out h (by decide)]; decide)
theorem th_0 {c : Prop} [Decidable c] (h : (if c then (1 : Int32) else 0) = 0) : ¬ c := fun q => by rw [if_pos q] at h; exact absurd h (by decide)
theorem th_1 {c : Prop} [Decidable c] (h : ¬ (if c then (1 : Int32) else 0) = 0) : c := Classical.byContradiction fun q => h (by rw [if_neg q])
theorem le2 {a : Nat} (ha : a ≤ 10) : nI a ≤ 2 ↔ a ≤ 2 := by rw [show (2 : Int32) = nI 2 by decide]; exact nI_leI (by omega) (by decide)
theorem hj_a {f : Nat → Int32} {w : Nat} {b : Int32} (hw : w ≤ 10) (h : ¬ nI (hi_c f w 2 w) ≤ 2) : 3 = hi_j f w b := by
  have l := hi_c_le (f := f) (w := w) (y := 2) w
  apply hi_j_a
  rw [hi_c_top (by decide) hw]
  have : ¬ hi_c f w 2 w ≤ 2 := fun q => h ((le2 (by omega)).mpr q)
  omega
theorem hj_e {f : Nat → Int32} {w : Nat} (hw : w ≤ 10) (h : nI (hi_c f w 2 w) ≤ 2) : ¬ 3 ≤ hi_c f w 2 10 := by
  have l := hi_c_le (f := f) (w := w) (y := 2) w
  rw [hi_c_top (by decide) hw]
  have := (le2 (by omega)).mp h
  omega
theorem hj_g {f : Nat → Int32} {w : Nat} (hw : w ≤ 10) : nI (hi_c f w 1 w) ≤ 2 ↔ ¬ 3 ≤ hi_c f w 1 10 := by
  have l := hi_c_le (f := f) (w := w) (y := 1) w
  rw [hi_c_top (by decide) hw, le2 (by omega)]
  omega
theorem mn_71 {cm : Nat} (hcm : cm ≤ 71) (h : ¬ 71 ≤ nI cm) : nI cm + 1 = nI (min (cm + 1) 71) := by
  rw [show (71 : Int32) = nI 71 by decide] at h
  have : ¬ 71 ≤ cm := fun q => h (nI_le q (by omega))
  rw [nI_1, show min (cm + 1) 71 = cm + 1 by omega]
theorem mn_71' {cm : Nat} (hcm : cm ≤ 71) (h : 71 ≤ nI cm) : nI cm = nI (min (cm + 1) 71) := by
  rw [show (71 : Int32) = nI 71 by decide, nI_leI (by decide) (by omega)] at h
  rw [show min (cm + 1) 71 = cm by omega]
theorem mn_10 {w : Nat} (hw : w ≤ 10) (h : ¬ 10 ≤ nI w) : nI w + 1 = nI (min (w + 1) 10) := by
  rw [i32_10] at h
  have : ¬ 10 ≤ w := fun q => h (nI_le q (by omega))
  rw [nI_1, show min (w + 1) 10 = w + 1 by omega]
theorem mn_10' {w : Nat} (hw : w ≤ 10) (h : 10 ≤ nI w) : nI w = nI (min (w + 1) 10) := by
  rw [i32_10, nI_leI (by decide) (by omega)] at h
  rw [show min (w + 1) 10 = w by omega]
