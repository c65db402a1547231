/-! The reference: its numbers. -/
/-- the profile's number and its numbers -/
def mpr (pr pB pS pG pE pC pO : Nat) : Prop := (pr = 1 ∧ pB = 8 ∧ pS = 29 ∧ pG = 255 ∧ pE = 255 ∧ pC = 15 ∧ pO = 1) ∨ (pr = 2 ∧ pB = 16 ∧ pS = 4129 ∧ pG = 65535 ∧ pE = 0 ∧ pC = 256 ∧ pO = 1) ∨ (pr = 3 ∧ pB = 32 ∧ pS = 4104978195 ∧ pG = 4294967295 ∧ pE = 4294967295 ∧ pC = 65536 ∧ pO = 2)
theorem mpr_pvd {pr pB pS pG pE pC pO : Nat} (h : mpr pr pB pS pG pE pC pO) : pvd pB pS pG pE pC pO := by
  unfold pvd isB
  rcases h with ⟨rfl, rfl, rfl, rfl, rfl, rfl, rfl⟩ | ⟨rfl, rfl, rfl, rfl, rfl, rfl, rfl⟩ | ⟨rfl, rfl, rfl, rfl, rfl, rfl, rfl⟩ <;> decide
theorem mp_s1 {pr pB pS pG pE pC pO : Nat} (h : mpr pr pB pS pG pE pC pO) (e : nI pr = 1) : (29 : Int64) = lN pS := by
  rcases h with ⟨rfl, rfl, rfl, rfl, rfl, rfl, rfl⟩ | ⟨rfl, rfl, rfl, rfl, rfl, rfl, rfl⟩ | ⟨rfl, rfl, rfl, rfl, rfl, rfl, rfl⟩
  · decide
  · exact absurd e (by decide)
  · exact absurd e (by decide)
theorem mp_s2 {pr pB pS pG pE pC pO : Nat} (h : mpr pr pB pS pG pE pC pO) (e : nI pr = 2) : (4129 : Int64) = lN pS := by
  rcases h with ⟨rfl, rfl, rfl, rfl, rfl, rfl, rfl⟩ | ⟨rfl, rfl, rfl, rfl, rfl, rfl, rfl⟩ | ⟨rfl, rfl, rfl, rfl, rfl, rfl, rfl⟩
  · exact absurd e (by decide)
  · decide
  · exact absurd e (by decide)
theorem mp_s3 {pr pB pS pG pE pC pO : Nat} (h : mpr pr pB pS pG pE pC pO) (e1 : ¬ nI pr = 1) (e2 : ¬ nI pr = 2) : (4104978195 : Int64) = lN pS := by
  rcases h with ⟨rfl, rfl, rfl, rfl, rfl, rfl, rfl⟩ | ⟨rfl, rfl, rfl, rfl, rfl, rfl, rfl⟩ | ⟨rfl, rfl, rfl, rfl, rfl, rfl, rfl⟩
  · exact absurd (by decide) e1
  · exact absurd (by decide) e2
  · decide
theorem mp_top {B : Nat} (hB : isB B) : (1 : Int64) <<< ((nI B - 1).toInt64 &&& 63) = lN (2 ^ (B - 1)) := by
  rcases hB with rfl | rfl | rfl <;> decide
theorem mp_all {pr pB pS pG pE pC pO : Nat} (h : mpr pr pB pS pG pE pC pO) : (1 : Int64) <<< ((nI pB).toInt64 &&& 63) - 1 = lN pG := by
  rcases h with ⟨rfl, rfl, rfl, rfl, rfl, rfl, rfl⟩ | ⟨rfl, rfl, rfl, rfl, rfl, rfl, rfl⟩ | ⟨rfl, rfl, rfl, rfl, rfl, rfl, rfl⟩ <;> decide
theorem mb_1 {o z : Nat} (h : nI (o / 2 ^ z % 2) = 1) : o / 2 ^ z % 2 = 1 := (nI_eq (by omega) (by decide)).mp h
theorem mb_0 {o z : Nat} (h : ¬ nI (o / 2 ^ z % 2) = 1) : o / 2 ^ z % 2 = 0 := by
  have : ¬ o / 2 ^ z % 2 = 1 := fun q => h (by rw [q]; decide)
  omega
theorem isB_63 {B r : Nat} (hB : isB B) (h : r < 2 ^ B) : r < 2 ^ 33 ∧ 2 ^ (B - 1) < 2 ^ 32 ∧ 0 < 2 ^ (B - 1) ∧ 2 ^ B = 2 ^ (B - 1) * 2 := by
  rcases hB with rfl | rfl | rfl <;> omega
theorem mh_0 {B r : Nat} (hB : isB B) (hr : r < 2 ^ B) (h : lg_cmp (lN r) (lN (2 ^ (B - 1))) < 0) : r / 2 ^ (B - 1) = 0 := by
  obtain ⟨h1, h2, h3, h4⟩ := isB_63 hB hr
  have := (pk_lLT (by omega) (by omega)).mp ((lg_cmp_lt _ _).mp h)
  exact Nat.div_eq_of_lt this
theorem mh_1 {B r : Nat} (hB : isB B) (hr : r < 2 ^ B) (h : ¬ lg_cmp (lN r) (lN (2 ^ (B - 1))) < 0) : r / 2 ^ (B - 1) = 1 := by
  obtain ⟨h1, h2, h3, h4⟩ := isB_63 hB hr
  have : ¬ r < 2 ^ (B - 1) := fun q => h ((lg_cmp_lt _ _).mpr ((pk_lLT (by omega) (by omega)).mpr q))
  rw [Nat.div_eq_iff h3]
  omega
theorem mp_rem {B r : Nat} (hB : isB B) (hr : r < 2 ^ B) : lN r - lN r / lN (2 ^ (B - 1)) * lN (2 ^ (B - 1)) = lN (r % 2 ^ (B - 1)) := by
  obtain ⟨h1, h2, h3, h4⟩ := isB_63 hB hr
  exact pk_lRem (by omega) h3 (by omega)
theorem mp_t0 {B : Nat} (hB : isB B) : ¬ lN (2 ^ (B - 1)) = 0 := by
  rcases hB with rfl | rfl | rfl <;> decide
theorem mp_two {B r : Nat} (hB : isB B) : lN (r % 2 ^ (B - 1)) * 2 = lN (r * 2 % 2 ^ B) := by
  rw [show (2 : Int64) = lN 2 by decide, lN_mul]
  congr 1
  have h4 : 2 ^ B = 2 ^ (B - 1) * 2 := by rcases hB with rfl | rfl | rfl <;> decide
  rw [h4, Nat.mul_mod_mul_right]
theorem co_mod {B S d : Nat} : ∀ (k r : Nat), k ≤ 8 → co B S (d % 256) k r = co B S d k r
  | 0, _, _ => rfl
  | k + 1, r, h => by
    show co B S (d % 256) k (cb B S r (d % 256 / 2 ^ k % 2)) = co B S d k (cb B S r (d / 2 ^ k % 2))
    rw [co_mod k _ (by omega)]
    congr 2
    have e : (256 : Nat) = 2 ^ k * 2 ^ (8 - k) := by rw [← Nat.pow_add, show k + (8 - k) = 8 by omega]
    have e2 : 2 ^ (8 - k) = 2 * 2 ^ (7 - k) := by rw [show 8 - k = 7 - k + 1 by omega, Nat.pow_succ, Nat.mul_comm]
    rw [e, Nat.mod_mul_right_div_self, e2, Nat.mod_mul_right_mod]
theorem xor_ones {n r : Nat} (h : r < 2 ^ n) : r ^^^ (2 ^ n - 1) = 2 ^ n - 1 - r := by
  rw [show 2 ^ n - 1 - r = 2 ^ n - (r + 1) by omega]
  apply Nat.eq_of_testBit_eq
  intro i
  rw [Nat.testBit_xor, Nat.testBit_two_pow_sub_one, Nat.testBit_two_pow_sub_succ h]
  by_cases hi : i < n
  · simp [hi]
  · have : r.testBit i = false := Nat.testBit_lt_two_pow (Nat.lt_of_lt_of_le h (Nat.pow_le_pow_right (by decide) (by omega)))
    simp [hi, this]
theorem mp_e2 {pr pB pS pG pE pC pO r : Nat} (h : mpr pr pB pS pG pE pC pO) (e : nI pr = 2) : lN r = lN (r ^^^ pE) := by
  rcases h with ⟨rfl, rfl, rfl, rfl, rfl, rfl, rfl⟩ | ⟨rfl, rfl, rfl, rfl, rfl, rfl, rfl⟩ | ⟨rfl, rfl, rfl, rfl, rfl, rfl, rfl⟩
  · exact absurd e (by decide)
  · rw [Nat.xor_zero]
  · exact absurd e (by decide)
theorem mp_e1 {pr pB pS pG pE pC pO r : Nat} (h : mpr pr pB pS pG pE pC pO) (hr : r < 2 ^ pB) (e : ¬ nI pr = 2) : lN pG - lN r = lN (r ^^^ pE) := by
  rcases h with ⟨rfl, rfl, rfl, rfl, rfl, rfl, rfl⟩ | ⟨rfl, rfl, rfl, rfl, rfl, rfl, rfl⟩ | ⟨rfl, rfl, rfl, rfl, rfl, rfl, rfl⟩
  · rw [lN_sub (by omega), show (255 : Nat) = 2 ^ 8 - 1 by rfl, xor_ones hr]
  · exact absurd (by decide) e
  · rw [lN_sub (by omega), show (4294967295 : Nat) = 2 ^ 32 - 1 by rfl, xor_ones hr]
def mo_is (f : Nat → Int32) (n : Nat) (g : Nat → Nat) : Prop := ∀ j, j < n → f j = nI (g j) ∧ g j < 256
theorem and_m8 (x : Int32) : x &&& 255 = nI (m8 x) := pk_and x 8 (by decide)
theorem i32_256 : (256 : Int32) = nI 256 := by decide
theorem mo_push {f : Nat → Int32} {n : Nat} {g : Nat → Nat} {x : Int32} (hg : mo_is f n g) : mo_is (upd f n (nI (m8 x))) (n + 1) (gpu g n x) := by
  intro j hj
  unfold gpu
  by_cases e : j = n
  · subst e; rw [pk_us, if_pos rfl]; exact ⟨rfl, Nat.mod_lt _ (by decide)⟩
  · rw [pk_un e, if_neg e]; exact hg j (by omega)
