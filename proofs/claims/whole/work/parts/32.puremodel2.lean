/-! The reference's calls, in the class's words. -/
theorem idy_lo {x : Int32} (h : x < 0) : idy x = 0 := by unfold idy; rw [if_neg (fun q => q.1 h)]
theorem idy_hi {x : Int32} (h : ¬ x ≤ 65535) : idy x = 0 := by unfold idy; rw [if_neg (fun q => q.2 (Int32.not_le.mp h))]
theorem idy_ok {x : Int32} (h0 : ¬ x < 0) (h : x ≤ 65535) : ∃ d, d < 65536 ∧ x = nI d := by
  obtain ⟨d, hd, e⟩ := nI_of2 (x := x) (M := 65535) (n := 65535) (by decide) h0 h
  exact ⟨d, by omega, e⟩
/-- a flip that is planted, in both -/
def mfl (fa fl : Int32) (fp : Nat) (fk : Int32) : Prop := (fa = nI fp ∧ fl = nI (m8 fk)) ∨ (fa = -1 ∧ m8 fk = 0)
theorem mfl_pos {fa fl fk : Int32} {fp : Nat} (h : mfl fa fl fp fk) (h0 : ¬ fa < 0) : fa = nI fp ∧ fl = nI (m8 fk) := by
  rcases h with h | ⟨h, -⟩
  · exact h
  · rw [h] at h0; exact absurd (by decide) h0
theorem mfl_neg {fa fl fk : Int32} {fp : Nat} (hp : fp ≤ 100) (h : mfl fa fl fp fk) (h0 : fa < 0) : m8 fk = 0 := by
  rcases h with ⟨h, -⟩ | ⟨-, h⟩
  · rw [h] at h0; exact absurd h0 (nI_pos (by omega))
  · exact h
theorem flp_0 {p : Nat} {g : Nat → Nat} : flp p 0 g = g := by
  funext j; unfold flp; rw [Nat.xor_zero, ite_self]
theorem mo_flp_n {f : Nat → Int32} {n p k : Nat} {g : Nat → Nat} (h : n ≤ p) (hg : mo_is f n g) : mo_is f n (flp p k g) := by
  intro j hj
  unfold flp; rw [if_neg (by omega)]; exact hg j hj
theorem mo_flp_y {f : Nat → Int32} {n p k : Nat} {g : Nat → Nat} (h : p < n) (hk : k < 256) (hg : mo_is f n g) : mo_is (upd f p (f p ^^^ nI k)) n (flp p k g) := by
  intro j hj
  unfold flp
  by_cases e : j = p
  · subst e
    rw [pk_us, if_pos rfl, (hg j hj).1, nx_xor]
    exact ⟨rfl, Nat.xor_lt_two_pow (n := 8) (hg j hj).2 hk⟩
  · rw [pk_un e, if_neg e]; exact hg j hj
def moct (df : Nat → Int32) (n : Nat) (x : Int32) (f2 : Nat → Int32) (n2 : Nat) : Prop := (n < 64 ∧ f2 = upd df n (nI (m8 x)) ∧ n2 = n + 1) ∨ (¬ n < 64 ∧ f2 = df ∧ n2 = n)
def mpro (pB pS pG pE pC pO n rn ct fp sk : Nat) (rf : Nat → Int32) (fk fa i : Int32) (g : Nat → Nat) (res : Int32) (f2 : Nat → Int32) (n2 rn2 ct2 : Nat) (fa2 : Int32) (sk2 : Nat) : Prop :=
  (idy i = 0 ∧ res = -2 ∧ f2 = rf ∧ n2 = n ∧ rn2 = rn ∧ ct2 = ct ∧ fa2 = fa ∧ sk2 = sk) ∨
  (∃ d, d < 65536 ∧ i = nI d ∧ res = nI (pO + n + pB / 8) ∧ mo_is f2 (pO + n + pB / 8) (rowv pB pS pG pE pO d n ((ct + sk) % pC) fp fk g) ∧ n2 = 0 ∧ rn2 = pO + n + pB / 8 ∧ ct2 = ((ct + sk) % pC + 1) % pC ∧ fa2 = -1 ∧ sk2 = 0)
def mpl (k x y : Int32) (fa fl : Int32) (sk : Nat) (res fa2 fl2 : Int32) (sk2 : Nat) : Prop :=
  ((k < 0 ∨ ¬ k ≤ 1) ∧ res = -1 ∧ fa2 = fa ∧ fl2 = fl ∧ sk2 = sk) ∨ ((¬ k < 0 ∧ k ≤ 1) ∧ (x < 0 ∨ ¬ x ≤ 100) ∧ res = -2 ∧ fa2 = fa ∧ fl2 = fl ∧ sk2 = sk) ∨
  (∃ a, a ≤ 100 ∧ x = nI a ∧ k = 0 ∧ res = 1 ∧ fa2 = nI a ∧ fl2 = nI (m8 y) ∧ sk2 = sk) ∨ (∃ a, a ≤ 100 ∧ x = nI a ∧ (¬ k < 0 ∧ k ≤ 1) ∧ ¬ k = 0 ∧ res = 1 ∧ fa2 = fa ∧ fl2 = fl ∧ sk2 = a)
def mout (i : Int32) (rn : Nat) (rf : Nat → Int32) (res co2 : Int32) : Prop := ((¬ i < 0 ∧ i < nI rn) ∧ co2 = 0 ∧ res = (rf i.toNatClampNeg).toInt8.toInt32) ∨ (¬ (¬ i < 0 ∧ i < nI rn) ∧ co2 = 1 ∧ res = 0)
def mtld (bf : Nat → Int32) (i : Int32) : Int32 := if ¬ i < 0 ∧ i < 6 ∧ ¬ bf i.toNatClampNeg = 0 then 1 else 0
theorem hdr_d {pO u k : Nat} {g : Nat → Nat} (h : ¬ k < pO) : g (k - pO) = hdr pO u g k := by unfold hdr; rw [if_neg h]
theorem hdr_1 {u k : Nat} {g : Nat → Nat} (h : k < 1) (hu : u < 256) : u = hdr 1 u g k := by
  obtain rfl : k = 0 := by omega
  unfold hdr; rw [if_pos h]
  show u = u / 256 ^ 0 % 256
  rw [Nat.pow_zero, Nat.div_one, Nat.mod_eq_of_lt hu]
theorem hdr_20 {u : Nat} {g : Nat → Nat} (hu : u < 65536) : u / 256 = hdr 2 u g 0 := by
  unfold hdr; rw [if_pos (by decide)]
  show u / 256 = u / 256 ^ 1 % 256
  omega
theorem hdr_21 {u : Nat} {g : Nat → Nat} : u % 256 = hdr 2 u g 1 := by
  unfold hdr; rw [if_pos (by decide)]
  show u % 256 = u / 256 ^ 0 % 256
  rw [Nat.pow_zero, Nat.div_one]
theorem hdr_lt {pO u n : Nat} {g : Nat → Nat} {df : Nat → Int32} (hg : mo_is df n g) {k : Nat} (hk : k < pO + n) : hdr pO u g k < 256 := by
  unfold hdr
  by_cases h : k < pO
  · rw [if_pos h]; exact Nat.mod_lt _ (by decide)
  · rw [if_neg h]; exact (hg _ (by omega)).2
theorem mo_set {f : Nat → Int32} {k : Nat} {g : Nat → Nat} (hk : g k < 256) (hg : mo_is f k g) : mo_is (upd f k (nI (g k))) (k + 1) g := by
  intro j hj
  by_cases e : j = k
  · subst e; rw [pk_us]; exact ⟨rfl, hk⟩
  · rw [pk_un e]; exact hg j (by omega)
theorem ck_eq {B S G E d w : Nat} {g : Nat → Nat} : ck B S G E d g w = cs B S g (co B S d 8 (co B S (d / 256) 8 G)) w ^^^ E := rfl
theorem m8_lt (x : Int32) : m8 x < 256 := Nat.mod_lt _ (by decide)
theorem q8_neg {q : Nat} (hq : q ≤ 4) (h : nI (8 * q) - 8 < 0) : q = 0 := by
  rcases q with _ | q
  · rfl
  · rw [show (8 : Int32) = nI 8 by decide, pk_sub (by omega)] at h
    exact absurd h (nI_pos (by omega))
theorem q8_ok {q : Nat} (h : ¬ nI (8 * q) - 8 < 0) : ∃ z, q = z + 1 := by
  rcases q with _ | q
  · exact absurd (by decide) h
  · exact ⟨q, rfl⟩
theorem q8_st (z : Nat) : nI (8 * (z + 1)) - 8 + Int32.ofInt (-8) = nI (8 * z) - 8 := by
  rw [show nI (8 * (z + 1)) - 8 = nI (8 * z) by rw [show (8 : Int32) = nI 8 by decide, pk_sub (by omega)]; congr 1, Int32.sub_eq_add_neg]; rfl
theorem mk_dig {K z : Nat} (hK : K < 2 ^ 33) (hz : z < 4) : lN K >>> ((nI (8 * (z + 1)) - 8).toInt64 &&& 63) = lN (K / 256 ^ z) := by
  have e : nI (8 * (z + 1)) - 8 = nI (8 * z) := by rw [show (8 : Int32) = nI 8 by decide, pk_sub (by omega)]; congr 1
  rw [e, wb_c (8 * z) (by omega), pf_shr (d := 8 * z) (by rw [wb_tb, wb_sm (8 * z) (by omega), BitVec.toNat_ofNat, Nat.mod_eq_of_lt (by omega)]) (by omega), Nat.pow_mul]
theorem mk_and {a : Nat} (ha : a < 2 ^ 63) : lN a &&& 255 = lN (a % 256) := wb_mask (k := 8) (by omega) (by decide)
theorem rwv_n {n b k j : Nat} {g : Nat → Nat} (hj : j < n) : rwv n b k g j = g j := by unfold rwv; rw [if_pos hj]
theorem rwv_k {n b k t z : Nat} {g : Nat → Nat} (h : z + 1 + t = b) : k / 256 ^ z % 256 = rwv n b k g (n + t) := by
  unfold rwv; rw [if_neg (by omega), show b - 1 - (n + t - n) = z by omega]
theorem mo_rwv {f : Nat → Int32} {n b k : Nat} {g : Nat → Nat} (hg : mo_is f n g) : mo_is f (n + 0) (rwv n b k g) := by
  intro j hj
  rw [rwv_n (by omega)]; exact hg j (by omega)
theorem hi_6 {i : Int32} (h0 : ¬ i < 0) (h : ¬ 6 ≤ i) : vp_in i 6 := by
  have h2 : ¬ i.toInt < 0 := by simpa [Int32.lt_iff_toInt_lt] using h0
  rw [show (6 : Int32) = nI 6 by decide, Int32.le_iff_toInt_le, nI_toInt (by decide)] at h
  exact vp_in_iff.mpr ⟨by omega, by omega⟩
theorem ou_vp {i : Int32} {rn : Nat} (hr : rn ≤ 80) (h0 : ¬ i < 0) (h : i < nI rn) : vp_in i 80 := by
  have h2 : ¬ i.toInt < 0 := by simpa [Int32.lt_iff_toInt_lt] using h0
  rw [Int32.lt_iff_toInt_lt, nI_toInt (by omega)] at h
  exact vp_in_iff.mpr ⟨by omega, by omega⟩
