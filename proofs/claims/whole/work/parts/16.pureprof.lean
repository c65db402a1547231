/-! Profile: the check, as a register of natural numbers. -/
/-- one bit: the register r of B bits, the shape S -/
def cb (B S r b : Nat) : Nat := if r / 2 ^ (B - 1) = b then r * 2 % 2 ^ B else (r * 2 % 2 ^ B) ^^^ S
/-- the k lowest bits of an octet, the highest first -/
def co (B S o : Nat) : Nat → Nat → Nat
  | 0, r => r
  | k + 1, r => co B S o k (cb B S r (o / 2 ^ k % 2))
def cs (B S : Nat) (g : Nat → Nat) (r : Nat) : Nat → Nat
  | 0 => r
  | k + 1 => co B S (g k) 8 (cs B S g r k)
def ck (B S G E d : Nat) (g : Nat → Nat) (w : Nat) : Nat := cs B S g (co B S d 8 (co B S (d / 256) 8 G)) w ^^^ E
theorem cs_0 {B S r : Nat} {g : Nat → Nat} : cs B S g r 0 = r := rfl
theorem cs_1 {B S r k : Nat} {g : Nat → Nat} : cs B S g r (k + 1) = co B S (g k) 8 (cs B S g r k) := rfl
theorem co_0 {B S o r : Nat} : co B S o 0 r = r := rfl
def isB (B : Nat) : Prop := B = 8 ∨ B = 16 ∨ B = 32
theorem cb_lt {B S r b : Nat} (hS : S < 2 ^ B) : cb B S r b < 2 ^ B := by
  unfold cb
  have h : r * 2 % 2 ^ B < 2 ^ B := Nat.mod_lt _ (Nat.two_pow_pos B)
  split
  · exact h
  · exact Nat.xor_lt_two_pow h hS
theorem co_lt {B S o : Nat} (hS : S < 2 ^ B) : ∀ (k r : Nat), r < 2 ^ B → co B S o k r < 2 ^ B
  | 0, _, h => h
  | k + 1, _, _ => co_lt hS k _ (cb_lt hS)
theorem cs_lt {B S r : Nat} {g : Nat → Nat} (hS : S < 2 ^ B) (hr : r < 2 ^ B) : ∀ k, cs B S g r k < 2 ^ B
  | 0 => hr
  | k + 1 => co_lt hS 8 _ (cs_lt hS hr k)
theorem ck_lt {B S G E d w : Nat} {g : Nat → Nat} (hS : S < 2 ^ B) (hG : G < 2 ^ B) (hE : E < 2 ^ B) : ck B S G E d g w < 2 ^ B :=
  Nat.xor_lt_two_pow (cs_lt hS (co_lt hS 8 _ (co_lt hS 8 _ hG)) w) hE
theorem isB_32 {B r : Nat} (hB : isB B) (h : r < 2 ^ B) : r < 2 ^ 32 := by
  rcases hB with rfl | rfl | rfl <;> omega
theorem sh_mask {B : Nat} (hB : isB B) : ((-1 : Int32).toUInt32 >>> ((32 - nI B).toUInt32 &&& Int32.toUInt32 31)).toInt32 = nI (2 ^ B - 1) := by
  rcases hB with rfl | rfl | rfl <;> decide
theorem sh_hi {B r : Nat} (hB : isB B) (h : r < 2 ^ B) : ((nI r).toUInt32 >>> ((nI B - 1).toUInt32 &&& Int32.toUInt32 31)).toInt32 = nI (r / 2 ^ (B - 1)) := by
  have h2 := isB_32 hB h
  rcases hB with rfl | rfl | rfl
  · exact pk_ushrN h2 _ 7 (by decide)
  · exact pk_ushrN h2 _ 15 (by decide)
  · exact pk_ushrN h2 _ 31 (by decide)
theorem sh_bit {o z : Nat} (ho : o < 2 ^ 31) (hz : z < 8) : (nI o >>> ((nI (z + 1) - 1) &&& 31)) &&& 1 = nI (o / 2 ^ z % 2) := by
  rw [nI_pred, pk_shrN ho _ z (s_l z (by omega))]
  exact pk_andN (Nat.lt_of_le_of_lt (Nat.div_le_self _ _) (by omega)) 1 (by decide)
theorem sh_dbl {B r : Nat} (hB : isB B) (h : r < 2 ^ B) : (nI r <<< ((1 : Int32) &&& 31)) &&& nI (2 ^ B - 1) = nI (r * 2 % 2 ^ B) := by
  have h2 := isB_32 hB h
  have hm : (nI (2 ^ B - 1)).toBitVec.toNat = 2 ^ B - 1 := pk_tn (by rcases hB with rfl | rfl | rfl <;> decide)
  rw [pk_and _ B hm, pk_shl _ _ 1 (by decide), pk_tn h2]
  congr 1
  rcases hB with rfl | rfl | rfl <;> omega
theorem sh_hi2 {B r : Nat} (hB : isB B) (h : r < 2 ^ B) : r / 2 ^ (B - 1) < 2 := by
  rcases hB with rfl | rfl | rfl <;> omega
theorem sh_eq {B r z o : Nat} (hB : isB B) (h : r < 2 ^ B) : nI (r / 2 ^ (B - 1)) = nI (o / 2 ^ z % 2) ↔ r / 2 ^ (B - 1) = o / 2 ^ z % 2 :=
  nI_eq (by have := sh_hi2 hB h; omega) (by omega)
theorem co_t {B S r z o : Nat} (h : r / 2 ^ (B - 1) = o / 2 ^ z % 2) : co B S o z (r * 2 % 2 ^ B) = co B S o (z + 1) r := by
  show _ = co B S o z (cb B S r (o / 2 ^ z % 2))
  unfold cb; rw [if_pos h]
theorem co_f {B S r z o : Nat} (h : ¬ r / 2 ^ (B - 1) = o / 2 ^ z % 2) : co B S o z ((r * 2 % 2 ^ B) ^^^ S) = co B S o (z + 1) r := by
  show _ = co B S o z (cb B S r (o / 2 ^ z % 2))
  unfold cb; rw [if_neg h]
theorem sh_8 {d : Nat} (h : d < 65536) : nI d >>> ((8 : Int32) &&& 31) = nI (d / 256) := pk_shrN (by omega) _ 8 (by decide)
theorem sh_3 {d : Nat} (h : d ≤ 32) : nI d >>> ((3 : Int32) &&& 31) = nI (d / 8) := pk_shrN (by omega) _ 3 (by decide)
/-- what a row's octets are, as numbers -/
def oc_is (f : Nat → Int32) (n : Nat) (g : Nat → Nat) : Prop := ∀ j, j < n → f j = sb_b (g j) ∧ g j < 256
theorem oc_get_is {f : Nat → Int32} {n j : Nat} {g : Nat → Nat} (h : oc_is f n g) (hj : j < n) (hn : n ≤ 70) : oc_get f n (nI j) = nI (g j) := by
  obtain ⟨h1, h2⟩ := h j hj
  unfold oc_get
  rw [nI_toInt (by omega), if_pos (by omega), nI_clamp (by omega), h1]
  exact (sb_byte _ h2).1
/-- Math.floorMod as its code has it -/
def fm (x y : Int32) : Int32 := if 0 ≤ x ^^^ y then x - x / y * y else if x - x / y * y = 0 then x - x / y * y else (x - x / y * y) + y
theorem fm_pos {a b : Nat} (ha : a < 2 ^ 31) (h0 : 0 < b) (hb : b < 2 ^ 31) : fm (nI a) (nI b) = nI (a % b) := by
  unfold fm
  rw [pk_rem ha h0 hb, nx_xor, if_pos]
  exact nI_pos' (Nat.xor_lt_two_pow ha hb)
theorem fm_neg {a b w : Nat} (hab : a < b) (hw : b - a < w) (hb : b < 2 ^ 30) (hw2 : w < 2 ^ 30) : fm (nI a - nI b) (nI w) = nI (a + w - b) := by
  have e1 : (nI a - nI b).toInt = (a : Int) - b := pk_sub_toInt (by omega) (by omega)
  have ew : (nI w).toInt = (w : Int) := nI_toInt (by omega)
  have e2 : (nI a - nI b) / nI w = 0 := by
    apply Int32.toInt_inj.mp
    rw [Int32.toInt_div, e1, ew]
    have : ((a : Int) - b).tdiv w = 0 := by
      rw [show ((a : Int) - b) = -((b - a : Nat) : Int) by omega, Int.neg_tdiv]
      have : ((b - a : Nat) : Int).tdiv w = 0 := Int.tdiv_eq_zero_of_lt (by omega) (by omega)
      rw [this]; rfl
    rw [this]; rfl
  have e3 : nI a - nI b - (nI a - nI b) / nI w * nI w = nI a - nI b := by
    rw [e2, Int32.zero_mul, Int32.sub_zero]
  unfold fm
  rw [e3]
  have hx : ¬ 0 ≤ (nI a - nI b) ^^^ nI w := by
    rw [Int32.le_iff_toInt_le]
    have hmsb : ((nI a - nI b) ^^^ nI w).toBitVec.msb = true := by
      rw [Int32.toBitVec_xor, BitVec.msb_xor, BitVec.msb_eq_toInt, BitVec.msb_eq_toInt]
      have q1 : (nI a - nI b).toBitVec.toInt = (a : Int) - b := e1
      have q2 : (nI w).toBitVec.toInt = (w : Int) := ew
      rw [q1, q2, decide_eq_true (by omega), decide_eq_false (by omega)]; rfl
    rw [BitVec.msb_eq_toInt] at hmsb
    have h3 : ((nI a - nI b) ^^^ nI w).toInt < 0 := of_decide_eq_true hmsb
    simpa using h3
  have h0 : ¬ nI a - nI b = 0 := fun q => by
    have := congrArg Int32.toInt q
    rw [e1] at this
    simp at this
    omega
  rw [if_neg hx, if_neg h0]
  apply Int32.toInt_inj.mp
  rw [Int32.toInt_add, e1, ew, nI_toInt (by omega)]
  rw [show ((a : Int) - b + w) = ((a + w - b : Nat) : Int) by omega]
  exact Int.bmod_eq_of_le (by omega) (by omega)

/-- a contract out of a walk, of a method of a class with entries of its own (java.lang.Math) -/
theorem mt_ofF {l : Launch} {y : MethodName} {ws ws' : List Cond} {rm : Room} {Pc : Array Value → State → Prop} {Qc : Array Value → State → Outcome → State → Prop} {mc ms : Nat} {free : Addr → Prop} {cc : ByteArray} {maxL : Nat} {ret : Option FieldType}
    (hy : plainFor y = true) (hw : ws = Cond.code y cc maxL ret :: ws')
    (body : ∀ p e s m args below meth c s₁, BodyLoose p l y (headSpec ws rm) cc maxL ret e s m args below meth c s₁ → c.maxLocals = maxL → Pc args s →
      W p l e (headSpec ws rm).room s m args below meth c s.heap [] 0 0 (MQ below Qc args s mc ms free) (entryFrame m args maxL)) : Met l y ws rm Pc Qc mc ms free := by
  refine MetFree.of_bodySF (code := cc) (maxLocals := maxL) (ret := ret) hy ?_ ?_
  · intro args s m h hn
    obtain ⟨meth, c, h1, h2, h3, h4, h5, h6, -, -⟩ := Cond.code_spec hn (atoms_spec (ws := ws) h _ (by rw [hw]; exact List.mem_cons_self))
    exact ⟨meth, c, h1, h2, h3, h4, h5, h6⟩
  · intro p e s m args below meth c s₁ B hml hP _
    have hh0 : s₁.heap = s.heap := by rw [B.state]; rfl
    obtain ⟨t, a1, o, b1, b2, b3⟩ := body p e s m args below meth c s₁ B hml hP s₁ hh0 (Stand.of_body B)
    exact ⟨t, o, a1, b1, b2, ⟨b3.1, b3.2⟩⟩
