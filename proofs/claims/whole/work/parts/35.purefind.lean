/-! The reference's find and check, in the class's words. -/
def tmf (cm : Nat) : Int32 := if cm = 71 then 1 else 0
def mfnd (pB pS pG pE pC pO d cm : Nat) (g : Nat → Nat) (cbf res cb2 : Int32) : Prop :=
  res = (if rc_err pB pS pG pE pC pO d (min cm 70) g (tmf cm) = 0 then rc_fd cbf (nI (be g 0 pO)) pC else 4) ∧ cb2 = (if rc_err pB pS pG pE pC pO d (min cm 70) g (tmf cm) = 0 then nI (be g 0 pO) else cbf)
theorem mf_no {pB pS pG pE pC pO d cm : Nat} {g : Nat → Nat} {cbf : Int32} (h : ¬ rc_err pB pS pG pE pC pO d (min cm 70) g (tmf cm) = 0) : mfnd pB pS pG pE pC pO d cm g cbf 4 cbf := ⟨(if_neg h).symm, (if_neg h).symm⟩
theorem mf_yes {pB pS pG pE pC pO d cm : Nat} {g : Nat → Nat} {cbf r : Int32} (h : rc_err pB pS pG pE pC pO d (min cm 70) g (tmf cm) = 0) (hr : r = rc_fd cbf (nI (be g 0 pO)) pC) : mfnd pB pS pG pE pC pO d cm g cbf r (nI (be g 0 pO)) := ⟨hr.trans (if_pos h).symm, (if_pos h).symm⟩
theorem mf_1 {pB pS pG pE pC pO d n : Nat} {g : Nat → Nat} {tm : Int32} (h : ¬ tm = 0 ∨ n < pB / 8 + pO ∨ ¬ be g (n - pB / 8) (pB / 8) = ck pB pS pG pE d g (n - pB / 8) ∨ pC ≤ be g 0 pO) : ¬ rc_err pB pS pG pE pC pO d n g tm = 0 := by
  unfold rc_err; rw [if_pos h]; decide
theorem mf_0 {pB pS pG pE pC pO d n : Nat} {g : Nat → Nat} {tm : Int32} (h1 : tm = 0) (h2 : pB / 8 + pO ≤ n) (h3 : be g (n - pB / 8) (pB / 8) = ck pB pS pG pE d g (n - pB / 8)) (h4 : be g 0 pO < pC) : rc_err pB pS pG pE pC pO d n g tm = 0 := by
  unfold rc_err
  rw [if_neg]
  rintro (h | h | h | h)
  · exact h h1
  · omega
  · exact h h3
  · omega
theorem be_0 {g : Nat → Nat} {p : Nat} : be g p 0 = 0 := rfl
theorem be_1 {g : Nat → Nat} {p k : Nat} : be g p (k + 1) = be g p k * 256 + g (p + k) := rfl
theorem lN_0 : lN 0 = 0 := by decide
theorem be_h1 {g : Nat → Nat} {pO : Nat} (h : pO = 1) : g 0 = be g 0 pO := by
  subst h; show g 0 = be g 0 0 * 256 + g (0 + 0); rw [be_0]; simp
theorem be_h2 {g : Nat → Nat} {pO : Nat} (h : pO = 2) : 256 * g 0 + g 1 = be g 0 pO := by
  subst h
  show 256 * g 0 + g 1 = (be g 0 0 * 256 + g (0 + 0)) * 256 + g (0 + 1)
  rw [be_0]; simp [Nat.mul_comm]
def bfo (cbf : Int32) (pC : Nat) : Prop := cbf = -1 ∨ ∃ b, b < pC ∧ cbf = nI b
theorem fm_sub {v b w : Nat} (hv : v < w) (hb : b < w) (hw : w ≤ 65536) : fm (nI v - nI b) (nI w) = nI ((v + w - b) % w) := by
  by_cases h : b ≤ v
  · rw [pk_sub h, fm_pos (by omega) (by omega) (by omega)]
    congr 1
    rw [show v + w - b = v - b + w by omega, Nat.add_mod_right]
  · rw [fm_neg (by omega) (by omega) (by omega) (by omega)]
    congr 1
    rw [Nat.mod_eq_of_lt (by omega)]
theorem mf_d {v pC : Nat} {cbf : Int32} (hb : bfo cbf pC) (hv : v < pC) (hC : pC ≤ 65536) (h : 0 ≤ cbf) : ∃ q, q < pC ∧ (nI v - cbf + nI pC) - (nI v - cbf + nI pC) / nI pC * nI pC = nI q ∧ rc_fd cbf (nI v) pC = fst (nI q) := by
  rcases hb with rfl | ⟨b, hb, rfl⟩
  · exact absurd h (by decide)
  · refine ⟨(v + pC - b) % pC, Nat.mod_lt _ (by omega), ?_, ?_⟩
    · have e : nI v - nI b + nI pC = nI (v + pC - b) := by
        rw [← pk_sub (show b ≤ v + pC by omega), ← nI_add, Int32.sub_eq_add_neg, Int32.sub_eq_add_neg, Int32.add_assoc, Int32.add_assoc, Int32.add_comm (-nI b)]
      rw [e]
      exact pk_rem (by omega) (by omega) (by omega)
    · unfold rc_fd
      rw [if_neg, fm_sub hv hb hC]
      intro q
      rw [q] at h
      exact absurd h (by decide)
theorem mf_f {v pC : Nat} {cbf : Int32} (hb : bfo cbf pC) (hC : pC ≤ 65536) (h : ¬ 0 ≤ cbf) : 5 = rc_fd cbf (nI v) pC := by
  rcases hb with rfl | ⟨b, hb, rfl⟩
  · unfold rc_fd; rw [if_pos rfl]
  · exact absurd (nI_pos' (by omega)) h
theorem fst_a {q : Nat} (hq : q < 65536) (h : ¬ 2 ≤ nI q) : 1 - nI q = fst (nI q) := by
  have : q < 2 := by
    rw [show (2 : Int32) = nI 2 by decide] at h
    exact Nat.not_le.mp fun z => h (nI_le z (by omega))
  rcases (show q = 0 ∨ q = 1 by omega) with rfl | rfl <;> decide
theorem fst_b {q : Nat} (hq : q < 65536) (h2 : 2 ≤ nI q) (h : ¬ 4 ≤ nI q) : 2 = fst (nI q) := by
  rw [show (2 : Int32) = nI 2 by decide, nI_leI (by decide) (by omega)] at h2
  rw [show (4 : Int32) = nI 4 by decide, nI_leI (by decide) (by omega)] at h
  rcases (show q = 2 ∨ q = 3 by omega) with rfl | rfl <;> decide
theorem fst_c {q : Nat} (hq : q < 65536) (h : 4 ≤ nI q) : 3 = fst (nI q) := by
  rw [show (4 : Int32) = nI 4 by decide, nI_leI (by decide) (by omega)] at h
  unfold fst
  rw [if_neg, if_neg, if_pos]
  · rw [show (3 : Int32) = nI 3 by decide]; exact nI_lt (by omega) (by omega)
  · intro e
    have := (nI_eq (b := 1) (by omega) (by decide)).mp e
    omega
  · intro e
    have := (nI_eq (b := 0) (by omega) (by decide)).mp e
    omega
theorem lc_ne {a b : Nat} (ha : a < 2 ^ 63) (hb : b < 2 ^ 63) : lg_cmp (lN a) (lN b) = 0 ↔ a = b := (lg_cmp_eq _ _).trans (pk_lEQ ha hb)
def gd (x : Int32) : Int32 := if x = 0 ∨ x = 2 ∨ x = 5 then 1 else 0
