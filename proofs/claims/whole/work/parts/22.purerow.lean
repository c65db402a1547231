/-! Rows: numbers in octets, the receiver's and the sender's words. -/
def be (g : Nat → Nat) (p : Nat) : Nat → Nat
  | 0 => 0
  | k + 1 => be g p k * 256 + g (p + k)
theorem be_lt {g : Nat → Nat} {p : Nat} : ∀ {k : Nat}, (∀ j, j < k → g (p + j) < 256) → be g p k < 256 ^ k
  | 0, _ => Nat.zero_lt_one
  | k + 1, h => by
    have h1 := be_lt (k := k) (fun j hj => h j (by omega))
    have h2 := h k (by omega)
    show be g p k * 256 + g (p + k) < 256 ^ (k + 1)
    rw [Nat.pow_succ]
    omega
theorem nx_or (a b : Nat) : nI a ||| nI b = nI (a ||| b) := by
  apply Int32.toBitVec_inj.1
  show BitVec.ofNat 32 a ||| BitVec.ofNat 32 b = BitVec.ofNat 32 (a ||| b)
  apply BitVec.eq_of_getLsbD_eq
  intro i hi
  simp [hi]
theorem or_256 {a b : Nat} (hb : b < 256) : a * 256 ||| b = a * 256 + b := by
  rw [Nat.mul_comm]
  exact (Nat.two_pow_add_eq_or_of_lt (i := 8) hb a).symm
theorem oc_num_0 {f : Nat → Int32} {n : Nat} {p : Int32} : oc_num f n p 0 = 0 := rfl
theorem oc_num_1 {f : Nat → Int32} {n k : Nat} {p : Int32} : oc_num f n p (k + 1) = (oc_num f n p k <<< ((8 : Int32) &&& 31)) ||| oc_get f n (p + nI k) := rfl
theorem oc_num_be {f : Nat → Int32} {n p : Nat} {g : Nat → Nat} (hg : oc_is f n g) (hn : n ≤ 70) : ∀ k, k ≤ 4 → p + k ≤ n → oc_num f n (nI p) k = nI (be g p k)
  | 0, _, _ => by rw [oc_num_0]; exact nI_0.symm
  | k + 1, h4, h => by
    have hl : be g p k < 256 ^ k := be_lt (fun j hj => (hg (p + j) (by omega)).2)
    have hp : 256 ^ k ≤ 256 ^ 3 := Nat.pow_le_pow_right (by decide) (by omega)
    rw [oc_num_1, oc_num_be hg hn k (by omega) (by omega), pk_shlN _ 8 (by decide) (by omega), nI_add, oc_get_is hg (by omega) hn, nx_or]
    exact congrArg nI (or_256 (hg (p + k) (by omega)).2)
theorem nI_inj32 {a b : Nat} (ha : a < 2 ^ 32) (hb : b < 2 ^ 32) (h : nI a = nI b) : a = b := by
  have := congrArg (fun z : Int32 => z.toBitVec.toNat) h
  simpa [pk_tn ha, pk_tn hb] using this
/-- the numbers of a profile -/
def pvd (pB pS pG pE pC pO : Nat) : Prop := isB pB ∧ pS < 2 ^ pB ∧ pG < 2 ^ pB ∧ pE < 2 ^ pB ∧ 0 < pC ∧ pC ≤ 65536 ∧ 1 ≤ pO ∧ pO ≤ 2
theorem isB_8 {B : Nat} (h : isB B) : 1 ≤ B / 8 ∧ B / 8 ≤ 4 ∧ 256 ^ (B / 8) = 2 ^ B := by
  rcases h with rfl | rfl | rfl <;> decide
def rc_err (pB pS pG pE pC pO d n : Nat) (g : Nat → Nat) (tm : Int32) : Int32 := if ¬ tm = 0 ∨ n < pB / 8 + pO ∨ ¬ be g (n - pB / 8) (pB / 8) = ck pB pS pG pE d g (n - pB / 8) ∨ pC ≤ be g 0 pO then 1 else 0
theorem rc_cmp {n a b : Nat} (hn : n ≤ 70) (ha : a ≤ 4) (hb : b ≤ 2) : nI b ≤ nI n - nI a ↔ a + b ≤ n := by
  rw [Int32.le_iff_toInt_le, pk_sub_toInt (by omega) (by omega), nI_toInt (by omega)]
  omega
def fst (x : Int32) : Int32 := if x = 0 then 1 else if x = 1 then 0 else if 3 < x then 3 else 2
def rc_fd (cbf v : Int32) (pC : Nat) : Int32 := if cbf = -1 then 5 else fst (fm (v - cbf) (nI pC))
def rc_col (f : Nat → Int32) (n : Nat) (tm x : Int32) (f2 : Nat → Int32) (n2 : Nat) (tm2 : Int32) : Prop := (n < 70 ∧ f2 = upd f n x.toInt8.toInt32 ∧ n2 = n + 1 ∧ tm2 = tm) ∨ (¬ n < 70 ∧ f2 = f ∧ n2 = n ∧ tm2 = 1)
theorem oc_add_nz {f f2 : Nat → Int32} {n n2 : Nat} {x r tm : Int32} (h : oc_add f n x r f2 n2) (hr : ¬ r = 0) : rc_col f n tm x f2 n2 tm := by
  rcases h with ⟨h1, h2, h3, h4⟩ | ⟨h1, h2, h3, h4⟩
  · exact Or.inl ⟨h1, h3, h4, rfl⟩
  · exact absurd h2 hr
theorem oc_add_z {f f2 : Nat → Int32} {n n2 : Nat} {x r tm : Int32} (h : oc_add f n x r f2 n2) (hr : r = 0) : rc_col f n tm x f2 n2 1 := by
  rcases h with ⟨h1, h2, h3, h4⟩ | ⟨h1, h2, h3, h4⟩
  · rw [h2] at hr; exact absurd hr (by decide)
  · exact Or.inr ⟨h1, h3, h4, rfl⟩
def sc_col (f : Nat → Int32) (n : Nat) (x : Int32) (f2 : Nat → Int32) (n2 : Nat) : Prop := (n < 64 ∧ f2 = upd f n x.toInt8.toInt32 ∧ n2 = n + 1) ∨ (¬ n < 64 ∧ f2 = f ∧ n2 = n)
theorem i32_64 : (64 : Int32) = nI 64 := by decide
theorem sb_mod (v : Nat) : sb_b v = sb_b (v % 256) := by
  unfold sb_b
  congr 1
  apply Int8.toBitVec_inj.mp
  rw [Int32.toBitVec_toInt8, Int32.toBitVec_toInt8]
  show (BitVec.ofNat 32 v).signExtend 8 = (BitVec.ofNat 32 (v % 256)).signExtend 8
  rw [BitVec.signExtend_eq_setWidth_of_le _ (by decide), BitVec.signExtend_eq_setWidth_of_le _ (by decide)]
  apply BitVec.eq_of_toNat_eq
  simp only [BitVec.toNat_setWidth, BitVec.toNat_ofNat]
  omega
theorem dig_b {u q : Nat} (hu : u < 2 ^ 32) (hq : q < 4) : (oc_dig (nI u) q).toInt8.toInt32 = sb_b (u / 256 ^ q % 256) := by
  unfold oc_dig
  rw [pk_ushrN hu _ (8 * q) (s_u (8 * q) (by omega)), ← sb_mod, Nat.pow_mul]
  rfl
theorem b_of_b {a : Nat} (ha : a < 256) : (nI a).toInt8.toInt32 = sb_b a := rfl
/-- a row before its check: the counter u in pO octets, then the data -/
def hdr (pO u : Nat) (g : Nat → Nat) (j : Nat) : Nat := if j < pO then u / 256 ^ (pO - 1 - j) % 256 else g (j - pO)
/-- the whole row: the check k in b octets behind the first n -/
def rwv (n b k : Nat) (g : Nat → Nat) (j : Nat) : Nat := if j < n then g j else k / 256 ^ (b - 1 - (j - n)) % 256
theorem hdr_is {f f2 f3 : Nat → Int32} {n pO u : Nat} {g : Nat → Nat} (hu : u < 2 ^ 32) (hO : pO ≤ 2) (hn : n ≤ 64) (hg : oc_is f n g)
    (h1 : ∀ j, j < pO → f2 (0 + j) = (oc_dig (nI u) (pO - 1 - j)).toInt8.toInt32) (h2 : ∀ j, j < 0 + pO → f3 j = f2 j) (h3 : ∀ j, j < n → f3 (0 + pO + j) = (oc_get f n (nI j)).toInt8.toInt32) : oc_is f3 (0 + pO + n) (hdr pO u g) := by
  intro j hj
  unfold hdr
  by_cases h : j < pO
  · rw [if_pos h, h2 j (by omega)]
    have := h1 j h
    rw [Nat.zero_add] at this
    exact ⟨this.trans (dig_b hu (by omega)), Nat.mod_lt _ (by decide)⟩
  · rw [if_neg h]
    have := h3 (j - pO) (by omega)
    rw [show 0 + pO + (j - pO) = j by omega, oc_get_is hg (by omega) (by omega)] at this
    exact ⟨this, (hg (j - pO) (by omega)).2⟩
theorem rwv_is {f f2 : Nat → Int32} {n b k : Nat} {g : Nat → Nat} (hk : k < 2 ^ 32) (hb : b ≤ 4) (hg : oc_is f n g)
    (h1 : ∀ j, j < n → f2 j = f j) (h2 : ∀ j, j < b → f2 (n + j) = (oc_dig (nI k) (b - 1 - j)).toInt8.toInt32) : oc_is f2 (n + b) (rwv n b k g) := by
  intro j hj
  unfold rwv
  by_cases h : j < n
  · rw [if_pos h, h1 j h]; exact hg j h
  · rw [if_neg h]
    have := h2 (j - n) (by omega)
    rw [show n + (j - n) = j by omega] at this
    exact ⟨this.trans (dig_b hk (by omega)), Nat.mod_lt _ (by decide)⟩
/-- the mask's lowest eight bits -/
def m8 (x : Int32) : Nat := x.toBitVec.toNat % 256
def flp (p k : Nat) (g : Nat → Nat) (j : Nat) : Nat := if j = p then g j ^^^ k else g j
theorem xor_b {a : Nat} (x : Int32) (ha : a < 256) : (sb_b a ^^^ x).toInt8.toInt32 = sb_b (a ^^^ m8 x) := by
  have hx : m8 x < 256 := Nat.mod_lt _ (by decide)
  unfold sb_b
  congr 1
  apply Int8.toBitVec_inj.mp
  rw [Int32.toBitVec_toInt8, Int32.toBitVec_toInt8, Int32.toBitVec_xor]
  rw [BitVec.signExtend_eq_setWidth_of_le _ (by decide), BitVec.signExtend_eq_setWidth_of_le _ (by decide)]
  apply BitVec.eq_of_getLsbD_eq
  intro i hi
  have e1 : (nI a).toInt8.toInt32.toBitVec.getLsbD i = a.testBit i := by
    rw [Int8.toBitVec_toInt32, Int32.toBitVec_toInt8, BitVec.getLsbD_signExtend, if_pos (by omega), BitVec.signExtend_eq_setWidth_of_le _ (by decide), BitVec.getLsbD_setWidth]
    show (_ && (_ && (BitVec.ofNat 32 a).getLsbD i)) = _
    rw [BitVec.getLsbD_ofNat]
    simp [show i < 32 by omega, hi]
  have e2 : x.toBitVec.getLsbD i = (m8 x).testBit i := by
    unfold m8
    rw [show (256 : Nat) = 2 ^ 8 by rfl, Nat.testBit_mod_two_pow, decide_eq_true hi, Bool.true_and]
    rfl
  rw [BitVec.getLsbD_setWidth, BitVec.getLsbD_setWidth, BitVec.getLsbD_xor, e1, e2]
  show _ = (_ && (BitVec.ofNat 32 (a ^^^ m8 x)).getLsbD i)
  rw [BitVec.getLsbD_ofNat, Nat.testBit_xor]
  simp [show i < 32 by omega]
theorem flp_is {f : Nat → Int32} {n p : Nat} {g : Nat → Nat} {x : Int32} (hn : n ≤ 70) (hp : p ≤ 100) (hg : oc_is f n g) : oc_is (oc_flip f n (nI p) x) n (flp p (m8 x) g) := by
  intro j hj
  have hx : m8 x < 256 := Nat.mod_lt _ (by decide)
  unfold oc_flip flp
  rw [nI_toInt (by omega), nI_clamp (by omega)]
  by_cases h : j = p
  · subst h
    rw [if_pos (by omega), if_pos rfl, pk_us, (hg j hj).1]
    exact ⟨xor_b x (hg j hj).2, Nat.xor_lt_two_pow (n := 8) (hg j hj).2 hx⟩
  · rw [if_neg h]
    by_cases q : 0 ≤ (p : Int) ∧ (p : Int) < n
    · rw [if_pos q, pk_un h]; exact hg j hj
    · rw [if_neg q]; exact hg j hj
theorem fm_add {a b w : Nat} (ha : a < 65536) (hb : b ≤ 100) (h0 : 0 < w) (hw : w ≤ 65536) : fm (nI a + nI b) (nI w) = nI ((a + b) % w) := by
  rw [nI_add]; exact fm_pos (by omega) h0 (by omega)
theorem rc_err_O {pB pS pG pE pC pO d n : Nat} {g : Nat → Nat} {tm : Int32} (h : rc_err pB pS pG pE pC pO d n g tm = 0) : pO ≤ n := by
  unfold rc_err at h
  by_cases q : ¬ tm = 0 ∨ n < pB / 8 + pO ∨ ¬ be g (n - pB / 8) (pB / 8) = ck pB pS pG pE d g (n - pB / 8) ∨ pC ≤ be g 0 pO
  · rw [if_pos q] at h; exact absurd h (by decide)
  · have : ¬ n < pB / 8 + pO := fun z => q (Or.inr (Or.inl z))
    omega
