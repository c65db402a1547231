/-! DataGuards: what its calls answer and leave. -/
def idy (x : Int32) : Int32 := if ¬ x < 0 ∧ ¬ 65535 < x then 1 else 0
theorem idy_no {x : Int32} (h : idy x = 0) : ¬ (¬ x < 0 ∧ ¬ 65535 < x) := by
  intro q
  unfold idy at h
  rw [if_pos q] at h
  exact absurd h (by decide)
theorem idy_yes {x : Int32} (h : ¬ idy x = 0) : ∃ d, d < 65536 ∧ x = nI d := by
  have q : ¬ x < 0 ∧ ¬ 65535 < x := Classical.byContradiction fun q => h (by unfold idy; rw [if_neg q])
  obtain ⟨d, hd, e⟩ := nI_of2 (x := x) (M := 65535) (n := 65535) (by decide) q.1 (Int32.not_lt.mp q.2)
  exact ⟨d, by omega, e⟩
theorem idy_nI {d : Nat} (h : d < 65536) : ¬ idy (nI d) = 0 := by
  unfold idy
  rw [if_pos ⟨nI_pos (by omega), by rw [show (65535 : Int32) = nI 65535 by decide]; exact nI_nlt (by omega) (by decide)⟩]
  decide
/-- an octet more -/
def gpu (g : Nat → Nat) (n : Nat) (x : Int32) : Nat → Nat := fun j => if j = n then m8 x else g j
theorem b_m8 (x : Int32) : x.toInt8.toInt32 = sb_b (m8 x) := by
  have h := xor_b (a := 0) x (by decide)
  rw [Nat.zero_xor] at h
  rw [← h]
  congr 2
  show x = sb_b 0 ^^^ x
  rw [show sb_b 0 = 0 by decide, Int32.zero_xor]
theorem oc_is_push {f f2 : Nat → Int32} {n n2 : Nat} {g : Nat → Nat} {tm tm2 x : Int32} (hg : oc_is f n g) (hn : n ≤ 70) (h : rc_col f n tm x f2 n2 tm2) : oc_is f2 n2 (gpu g n x) ∧ n2 ≤ 70 := by
  rcases h with ⟨h1, rfl, rfl, rfl⟩ | ⟨h1, rfl, rfl, rfl⟩
  · refine ⟨fun j hj => ?_, by omega⟩
    unfold gpu
    by_cases e : j = n
    · subst e
      rw [pk_us, if_pos rfl]
      exact ⟨b_m8 x, Nat.mod_lt _ (by decide)⟩
    · rw [pk_un e, if_neg e]; exact hg j (by omega)
  · refine ⟨fun j hj => ?_, hn⟩
    unfold gpu
    rw [if_neg (by omega)]; exact hg j hj
/-- the end of a row at the receiver: what is found, and what it leaves -/
def eor (pB pS pG pE pC pO d n : Nat) (g : Nat → Nat) (tm cbf : Int32) (hf : Nat → Int32) (w : Nat) (gr bt jo : Int32) (tt tg : Int64) (res cb2 : Int32) (hf2 : Nat → Int32) (w2 : Nat) (gr2 bt2 jo2 : Int32) (tg2 : Int64) : Prop :=
  res = (if rc_err pB pS pG pE pC pO d n g tm = 0 then rc_fd cbf (nI (be g 0 pO)) pC else 4) ∧ cb2 = (if rc_err pB pS pG pE pC pO d n g tm = 0 then nI (be g 0 pO) else cbf) ∧ (∀ j, j < 10 → hf2 j = hi_s hf res j) ∧ w2 = min (w + 1) 10 ∧ gr2 = (if sd res = 1 then gr + 1 else gr) ∧ bt2 = bt ||| (1 <<< (res &&& 31)) ∧ jo2 = hi_j hf2 w2 (if jo = 0 then 1 else jo) ∧ tg2 = (if sd res = 1 then tt else tg)
/-- the row that protect makes -/
def rowv (pB pS pG pE pO d n u fp : Nat) (fk : Int32) (g : Nat → Nat) : Nat → Nat := flp fp (m8 fk) (rwv (pO + n) (pB / 8) (ck pB pS pG pE d (hdr pO u g) (pO + n)) (hdr pO u g))
def dpro (pB pS pG pE pC pO n rn ct fp sk : Nat) (rf : Nat → Int32) (fk i : Int32) (g : Nat → Nat) (res : Int32) (f2 : Nat → Int32) (n2 rn2 ct2 : Nat) (fk2 : Int32) (sk2 : Nat) : Prop :=
  (idy i = 0 ∧ res = -2 ∧ f2 = rf ∧ n2 = n ∧ rn2 = rn ∧ ct2 = ct ∧ fk2 = fk ∧ sk2 = sk) ∨
  (∃ d, d < 65536 ∧ i = nI d ∧ res = nI (pO + n + pB / 8) ∧ oc_is f2 (pO + n + pB / 8) (rowv pB pS pG pE pO d n ((ct + sk) % pC) fp fk g) ∧ n2 = 0 ∧ rn2 = pO + n + pB / 8 ∧ ct2 = ((ct + sk) % pC + 1) % pC ∧ fk2 = 0 ∧ sk2 = 0)
def dpl (k x y : Int32) (fp sk : Nat) (fk res : Int32) (fp2 sk2 : Nat) (fk2 : Int32) : Prop :=
  (¬ k = 0 ∧ ¬ k = 1 ∧ res = -1 ∧ fp2 = fp ∧ sk2 = sk ∧ fk2 = fk) ∨ ((k = 0 ∨ k = 1) ∧ (x < 0 ∨ ¬ x ≤ 100) ∧ res = -2 ∧ fp2 = fp ∧ sk2 = sk ∧ fk2 = fk) ∨
  (∃ a, a ≤ 100 ∧ x = nI a ∧ k = 0 ∧ res = 1 ∧ fp2 = a ∧ sk2 = sk ∧ fk2 = y) ∨ (∃ a, a ≤ 100 ∧ x = nI a ∧ k = 1 ∧ res = 1 ∧ fp2 = fp ∧ sk2 = a ∧ fk2 = fk)
theorem at_100 {x : Int32} (h0 : ¬ x < 0) (h : x ≤ 100) : ∃ a, a ≤ 100 ∧ x = nI a := by
  obtain ⟨a, ha, e⟩ := nI_of2 (x := x) (M := 100) (n := 100) (by decide) h0 h
  exact ⟨a, ha, e⟩
def drc (t tt tg : Int64) (jo res : Int32) (tt2 : Int64) : Prop := (t < tt ∧ res = -2 ∧ tt2 = tt) ∨ (¬ t < tt ∧ tt2 = t ∧ res = if 100 ≤ t - tg ∨ jo = 3 then 1 else 0)
def pol (x : Int32) : Int32 := if x = 8 then 29 else if x = 16 then 4129 else if x = 32 then -189989101 else -1
def dchk (pB pS pG pE pC pO : Nat) (ef : Nat → Int32) (en : Nat) (eg : Nat → Nat) (tm cbf : Int32) (hf : Nat → Int32) (w : Nat) (gr bt jo : Int32) (tt tg : Int64) (i x la res : Int32) (ef2 : Nat → Int32) (en2 : Nat) (tm2 cb2 : Int32) (hf2 : Nat → Int32) (w2 : Nat) (gr2 bt2 jo2 : Int32) (tg2 : Int64) : Prop :=
  (¬ la = 0 ∧ idy i = 0 ∧ res = -2 ∧ ef2 = ef ∧ en2 = en ∧ tm2 = tm ∧ cb2 = cbf ∧ hf2 = hf ∧ w2 = w ∧ gr2 = gr ∧ bt2 = bt ∧ jo2 = jo ∧ tg2 = tg) ∨
  (la = 0 ∧ res = 0 ∧ rc_col ef en tm x ef2 en2 tm2 ∧ cb2 = cbf ∧ hf2 = hf ∧ w2 = w ∧ gr2 = gr ∧ bt2 = bt ∧ jo2 = jo ∧ tg2 = tg) ∨
  (¬ la = 0 ∧ ∃ d, d < 65536 ∧ i = nI d ∧ en2 = 0 ∧ tm2 = 0 ∧ ∃ (fa : Nat → Int32) (na : Nat) (ta : Int32), rc_col ef en tm x fa na ta ∧ eor pB pS pG pE pC pO d na (gpu eg en x) ta cbf hf w gr bt jo tt tg res cb2 hf2 w2 gr2 bt2 jo2 tg2)
theorem hi_e_n (bt i : Int32) : narrow .boolean (.int (hi_e bt i)) = .int (hi_e bt i) := by
  unfold hi_e
  split <;> rfl
