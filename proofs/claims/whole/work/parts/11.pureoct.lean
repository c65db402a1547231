/-! Octets: what its methods answer, in words of numbers. -/
def oc_has (i : Int32) (n : Nat) : Int32 := if 0 ≤ i.toInt ∧ i.toInt < (n : Int) then 1 else 0
def oc_get (f : Nat → Int32) (n : Nat) (i : Int32) : Int32 := if 0 ≤ i.toInt ∧ i.toInt < (n : Int) then f i.toNatClampNeg &&& 255 else 0
def oc_flip (f : Nat → Int32) (n : Nat) (i mask : Int32) : Nat → Int32 := if 0 ≤ i.toInt ∧ i.toInt < (n : Int) then upd f i.toNatClampNeg (f i.toNatClampNeg ^^^ mask).toInt8.toInt32 else f
def oc_add (f : Nat → Int32) (n : Nat) (x r : Int32) (f2 : Nat → Int32) (n2 : Nat) : Prop := (n < 70 ∧ r = 1 ∧ f2 = upd f n x.toInt8.toInt32 ∧ n2 = n + 1) ∨ (¬ n < 70 ∧ r = 0 ∧ f2 = f ∧ n2 = n)
def oc_num (f : Nat → Int32) (n : Nat) (p : Int32) : Nat → Int32
  | 0 => 0
  | k + 1 => (oc_num f n p k <<< ((8 : Int32) &&& 31)) ||| oc_get f n (p + nI k)
def oc_dig (x : Int32) (q : Nat) : Int32 := (x.toUInt32 >>> ((nI (8 * q)).toUInt32 &&& Int32.toUInt32 31)).toInt32
theorem i32_70 : (70 : Int32) = nI 70 := by decide
theorem oc_toInt {n : Nat} (hn : n ≤ 70) : (nI n).toInt = (n : Int) := nI_toInt (by omega)
theorem oc_has_lo {i : Int32} {n : Nat} (h : i < 0) : 0 = oc_has i n := by
  have h2 : i.toInt < 0 := by simpa [Int32.lt_iff_toInt_lt] using h
  unfold oc_has; rw [if_neg (by omega)]
theorem oc_has_hi {i : Int32} {n : Nat} (hn : n ≤ 70) (h : nI n ≤ i) : 0 = oc_has i n := by
  rw [Int32.le_iff_toInt_le, oc_toInt hn] at h
  unfold oc_has; rw [if_neg (by omega)]
theorem oc_has_70 {i : Int32} {n : Nat} (hn : n ≤ 70) (h : 70 ≤ i) : 0 = oc_has i n := by
  rw [i32_70, Int32.le_iff_toInt_le, nI_toInt (by decide)] at h
  unfold oc_has; rw [if_neg (by omega)]
theorem oc_has_in {i : Int32} {n : Nat} (hn : n ≤ 70) (h0 : ¬ i < 0) (h : ¬ nI n ≤ i) : 1 = oc_has i n := by
  have h2 : ¬ i.toInt < 0 := by simpa [Int32.lt_iff_toInt_lt] using h0
  rw [Int32.le_iff_toInt_le, oc_toInt hn] at h
  unfold oc_has; rw [if_pos (by omega)]
theorem oc_has_no {i : Int32} {n : Nat} (h : oc_has i n = 0) : ¬ (0 ≤ i.toInt ∧ i.toInt < (n : Int)) := by
  intro q
  unfold oc_has at h
  rw [if_pos q] at h
  exact absurd h (by decide)
theorem oc_has_yes {i : Int32} {n : Nat} (h : ¬ oc_has i n = 0) : 0 ≤ i.toInt ∧ i.toInt < (n : Int) := by
  refine Classical.byContradiction fun q => h ?_
  unfold oc_has
  rw [if_neg q]
theorem oc_get_no {f : Nat → Int32} {i : Int32} {n : Nat} (h : oc_has i n = 0) : 0 = oc_get f n i := by
  unfold oc_get; rw [if_neg (oc_has_no h)]
theorem oc_get_yes {f : Nat → Int32} {i : Int32} {n : Nat} (h : ¬ oc_has i n = 0) : f i.toNatClampNeg &&& 255 = oc_get f n i := by
  unfold oc_get; rw [if_pos (oc_has_yes h)]
theorem oc_flip_no {f : Nat → Int32} {i k : Int32} {n : Nat} (h : oc_has i n = 0) : f = oc_flip f n i k := by
  unfold oc_flip; rw [if_neg (oc_has_no h)]
theorem oc_flip_yes {f : Nat → Int32} {i k : Int32} {n : Nat} (h : ¬ oc_has i n = 0) : upd f i.toNatClampNeg (f i.toNatClampNeg ^^^ k).toInt8.toInt32 = oc_flip f n i k := by
  unfold oc_flip; rw [if_pos (oc_has_yes h)]
theorem oc_vp {i : Int32} {n : Nat} (hn : n ≤ 70) (h : ¬ oc_has i n = 0) : vp_in i 70 := by
  have := oc_has_yes h
  exact vp_in_iff.mpr ⟨this.1, by omega⟩
theorem oc_add_lt {f f2 : Nat → Int32} {n n2 : Nat} {x r : Int32} (h : oc_add f n x r f2 n2) (hn : n < 70) : r = 1 ∧ f2 = upd f n x.toInt8.toInt32 ∧ n2 = n + 1 := by
  rcases h with h | h
  · exact h.2
  · exact absurd hn h.1
theorem oc_ltN {a b : Nat} (ha : a ≤ 200) (hb : b ≤ 200) : nI a ≤ nI b ↔ a ≤ b := nI_leI (by omega) (by omega)
theorem oc_pred_neg {q : Nat} (hq : q ≤ 200) (h : nI q - 1 < 0) : q = 0 := by
  rcases q with _ | q
  · rfl
  · rw [nI_pred] at h
    exact absurd h (nI_pos (by omega))
theorem oc_pred_ok {q : Nat} (h : ¬ nI q - 1 < 0) : ∃ z, q = z + 1 := by
  rcases q with _ | q
  · exact absurd (by decide) h
  · exact ⟨q, rfl⟩
theorem oc_8 (q : Nat) : 8 * (nI (q + 1) - 1) = nI (8 * q) := by
  rw [nI_pred]; exact pk_mul 8 q
theorem oc_pp (q : Nat) : nI (q + 1) - 1 + Int32.ofInt (-1) = nI q - 1 := by
  rw [nI_pred, Int32.sub_eq_add_neg]; rfl
