/-! History: sides, findings, what they come to. -/
def sd (x : Int32) : Int32 := if x = 0 then 1 else if x = 1 then 0 else if x = 2 then 1 else if x = 3 then 2 else if x = 4 then 2 else if x = 5 then 1 else 0
def hi_f (f : Nat → Int32) (w : Nat) (i : Int32) : Int32 := if 0 ≤ i.toInt ∧ i.toInt < (w : Int) then f i.toNatClampNeg else -1
def hi_c (f : Nat → Int32) (w : Nat) (y : Int32) : Nat → Nat
  | 0 => 0
  | k + 1 => hi_c f w y k + (if sd (hi_f f w (nI k)) = y then 1 else 0)
def hi_j (f : Nat → Int32) (w : Nat) (b : Int32) : Int32 := if 3 ≤ hi_c f w 2 10 then 3 else if 3 ≤ hi_c f w 1 10 ∧ (b = 1 ∨ (b = 3 ∧ hi_c f w 1 3 = 3)) then 2 else b
def hi_e (bt i : Int32) : Int32 := if ¬ i < 0 ∧ ¬ 5 < i ∧ (bt >>> (i &&& 31)) &&& 1 = 1 then 1 else 0
def hi_s (f : Nat → Int32) (x : Int32) : Nat → Int32 := fun j => if j = 0 then x else f (j - 1)
theorem i32_10 : (10 : Int32) = nI 10 := by decide
theorem hi_f_lo {f : Nat → Int32} {w : Nat} {i : Int32} (h : i < 0) : -1 = hi_f f w i := by
  have h2 : i.toInt < 0 := by simpa [Int32.lt_iff_toInt_lt] using h
  unfold hi_f; rw [if_neg (by omega)]
theorem hi_f_hi {f : Nat → Int32} {w : Nat} {i : Int32} (hw : w ≤ 10) (h : nI w ≤ i) : -1 = hi_f f w i := by
  rw [Int32.le_iff_toInt_le, nI_toInt (by omega)] at h
  unfold hi_f; rw [if_neg (by omega)]
theorem hi_f_10 {f : Nat → Int32} {w : Nat} {i : Int32} (hw : w ≤ 10) (h : 10 ≤ i) : -1 = hi_f f w i := by
  rw [i32_10, Int32.le_iff_toInt_le, nI_toInt (by decide)] at h
  unfold hi_f; rw [if_neg (by omega)]
theorem hi_f_in {f : Nat → Int32} {w : Nat} {i : Int32} (hw : w ≤ 10) (h0 : ¬ i < 0) (h : ¬ nI w ≤ i) : f i.toNatClampNeg = hi_f f w i := by
  have h2 : ¬ i.toInt < 0 := by simpa [Int32.lt_iff_toInt_lt] using h0
  rw [Int32.le_iff_toInt_le, nI_toInt (by omega)] at h
  unfold hi_f; rw [if_pos (by omega)]
theorem hi_f_vp {w : Nat} {i : Int32} (hw : w ≤ 10) (h0 : ¬ i < 0) (h : ¬ nI w ≤ i) : vp_in i 10 := by
  have h2 : ¬ i.toInt < 0 := by simpa [Int32.lt_iff_toInt_lt] using h0
  rw [Int32.le_iff_toInt_le, nI_toInt (by omega)] at h
  exact vp_in_iff.mpr ⟨by omega, by omega⟩
theorem hi_c_le {f : Nat → Int32} {w : Nat} {y : Int32} : ∀ k, hi_c f w y k ≤ k
  | 0 => Nat.le_refl _
  | k + 1 => by
    have := hi_c_le (f := f) (w := w) (y := y) k
    unfold hi_c
    split <;> omega
theorem hi_c_0 {f : Nat → Int32} {w : Nat} {y : Int32} : hi_c f w y 0 = 0 := rfl
theorem hi_c_y {f : Nat → Int32} {w k : Nat} {y : Int32} (h : sd (hi_f f w (nI k)) = y) : hi_c f w y k + 1 = hi_c f w y (k + 1) := by
  show _ = hi_c f w y k + _
  rw [if_pos h]
theorem hi_c_n {f : Nat → Int32} {w k : Nat} {y : Int32} (h : ¬ sd (hi_f f w (nI k)) = y) : hi_c f w y k = hi_c f w y (k + 1) := by
  show _ = hi_c f w y k + _
  rw [if_neg h]; rfl
theorem hi_j_a {f : Nat → Int32} {w : Nat} {b : Int32} (h : 3 ≤ hi_c f w 2 10) : 3 = hi_j f w b := by unfold hi_j; rw [if_pos h]
theorem hi_j_b {f : Nat → Int32} {w : Nat} {b : Int32} (h : ¬ 3 ≤ hi_c f w 2 10) (h2 : 3 ≤ hi_c f w 1 10) (h3 : b = 1 ∨ (b = 3 ∧ hi_c f w 1 3 = 3)) : 2 = hi_j f w b := by unfold hi_j; rw [if_neg h, if_pos ⟨h2, h3⟩]
theorem hi_j_c {f : Nat → Int32} {w : Nat} {b : Int32} (h : ¬ 3 ≤ hi_c f w 2 10) (h2 : ¬ (3 ≤ hi_c f w 1 10 ∧ (b = 1 ∨ (b = 3 ∧ hi_c f w 1 3 = 3)))) : b = hi_j f w b := by unfold hi_j; rw [if_neg h, if_neg h2]
theorem i32_3 : (3 : Int32) = nI 3 := by decide
theorem hi_lt3 {a : Nat} (ha : a ≤ 10) : nI a < 3 ↔ a < 3 := by rw [i32_3]; exact nI_ltI (by omega) (by decide)
theorem hi_eq3 {a : Nat} (ha : a ≤ 10) : nI a = 3 ↔ a = 3 := by rw [i32_3]; exact nI_eq (by omega) (by decide)
theorem hi_min {w : Nat} (hw : w ≤ 10) : (if (10 : Int32) < nI w + 1 then 10 else nI w + 1) = nI (min (w + 1) 10) := by
  rw [nI_1, i32_10]
  by_cases h : 10 < w + 1
  · rw [if_pos (nI_lt h (by omega)), Nat.min_eq_right (by omega)]
  · rw [if_neg (nI_nlt (by omega) (by decide)), Nat.min_eq_left (by omega)]
theorem hi_sh {f f1 : Nat → Int32} {k : Nat} (hk : k + 1 ≤ 9) (h : ∀ j, j < 10 → f1 j = if k + 1 < j then f (j - 1) else f j) : ∀ j, j < 10 → upd f1 (k + 1) (f1 k) j = if k < j then f (j - 1) else f j := by
  intro j hj
  by_cases e : j = k + 1
  · subst e
    rw [pk_us, h k (by omega), if_neg (by omega), if_pos (by omega)]
    rfl
  · rw [pk_un e, h j hj]
    by_cases q : k + 1 < j
    · rw [if_pos q, if_pos (by omega)]
    · rw [if_neg q, if_neg (by omega)]
theorem hi_s0 {f f1 : Nat → Int32} {x : Int32} (h : ∀ j, j < 10 → f1 j = if 0 < j then f (j - 1) else f j) : ∀ j, j < 10 → upd f1 0 x j = hi_s f x j := by
  intro j hj
  unfold hi_s
  by_cases e : j = 0
  · subst e; rw [pk_us, if_pos rfl]
  · rw [pk_un e, h j hj, if_pos (by omega), if_neg e]
theorem hi_k9 {k : Nat} (hk : k ≤ 9) (h : nI k ≤ 0) : k = 0 := by
  rcases k with _ | k
  · rfl
  · exact absurd h (nI_nle (by omega) (by omega))
theorem hi_k9' {k : Nat} (h : ¬ nI k ≤ 0) : ∃ z, k = z + 1 := by
  rcases k with _ | k
  · exact absurd (by decide) h
  · exact ⟨k, rfl⟩
theorem oc_m1 (z : Nat) : nI (z + 1) + Int32.ofInt (-1) = nI z := by
  rw [← nI_pred z, Int32.sub_eq_add_neg]; rfl
