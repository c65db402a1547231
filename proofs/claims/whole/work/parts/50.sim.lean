/-! The class and the reference, side by side. -/
def simR (pr pB pS pG pE pC pO : Nat) (f df : Nat → Int32) (n : Nat) (rf rm : Nat → Int32) (rn ct fp sk : Nat) (fk fa fl : Int32) (ef tf : Nat → Int32) (en cm : Nat) (tm cbf : Int32) (hf lf : Nat → Int32) (w : Nat) (bt : Int32) (bf : Nat → Int32) : Prop :=
  mpr pr pB pS pG pE pC pO ∧ (n ≤ 64 ∧ ∃ g, oc_is f n g ∧ mo_is df n g) ∧ (rn ≤ 70 ∧ ∃ g, oc_is rf rn g ∧ mo_is rm rn g) ∧ (ct < pC ∧ fp ≤ 100 ∧ sk ≤ 100 ∧ mfl fa fl fp fk) ∧ (cm ≤ 71 ∧ en = min cm 70 ∧ tm = tmf cm ∧ ∃ g, oc_is ef en g ∧ mo_is tf en g) ∧ bfo cbf pC ∧ (w ≤ 10 ∧ ∀ j, j < w → lf j = hf j) ∧ ∀ i, hi_e bt i = mtld bf i
theorem oc_push {f : Nat → Int32} {n : Nat} {g : Nat → Nat} {x : Int32} (hn : n < 70) (hg : oc_is f n g) : oc_is (upd f n x.toInt8.toInt32) (n + 1) (gpu g n x) :=
  (oc_is_push (tm := 0) (tm2 := 0) hg (by omega) (Or.inl ⟨hn, rfl, rfl, rfl⟩)).1
theorem sim_octet {pr pB pS pG pE pC pO : Nat} {f df : Nat → Int32} {n : Nat} {rf rm : Nat → Int32} {rn ct fp sk : Nat} {fk fa fl : Int32} {ef tf : Nat → Int32} {en cm : Nat} {tm cbf : Int32} {hf lf : Nat → Int32} {w : Nat} {bt : Int32} {bf : Nat → Int32}
    {x : Int32} {f2 df2 : Nat → Int32} {n2 n3 : Nat} (hs : simR pr pB pS pG pE pC pO f df n rf rm rn ct fp sk fk fa fl ef tf en cm tm cbf hf lf w bt bf) (h1 : sc_col f n x f2 n2) (h2 : moct df n x df2 n3) :
    n3 = n2 ∧ simR pr pB pS pG pE pC pO f2 df2 n2 rf rm rn ct fp sk fk fa fl ef tf en cm tm cbf hf lf w bt bf := by
  obtain ⟨hm, ⟨hn, g, hg1, hg2⟩, hrest⟩ := hs
  rcases h1 with ⟨a1, rfl, rfl⟩ | ⟨a1, rfl, rfl⟩ <;> rcases h2 with ⟨b1, rfl, rfl⟩ | ⟨b1, rfl, rfl⟩
  · exact ⟨rfl, hm, ⟨by omega, gpu g n x, oc_push (by omega) hg1, mo_push hg2⟩, hrest⟩
  · exact absurd a1 b1
  · exact absurd b1 a1
  · exact ⟨rfl, hm, ⟨hn, g, hg1, hg2⟩, hrest⟩
theorem sim_protect {pr pB pS pG pE pC pO : Nat} {f df : Nat → Int32} {n : Nat} {rf rm : Nat → Int32} {rn ct fp sk : Nat} {fk fa fl : Int32} {ef tf : Nat → Int32} {en cm : Nat} {tm cbf : Int32} {hf lf : Nat → Int32} {w : Nat} {bt : Int32} {bf : Nat → Int32}
    {g : Nat → Nat} {i r1 r2 : Int32} {f2 m2 : Nat → Int32} {n2 n3 rn2 rn3 ct2 ct3 sk2 sk3 : Nat} {fk2 fa2 : Int32} (hs : simR pr pB pS pG pE pC pO f df n rf rm rn ct fp sk fk fa fl ef tf en cm tm cbf hf lf w bt bf)
    (hg1 : oc_is f n g) (hg2 : mo_is df n g) (h1 : dpro pB pS pG pE pC pO n rn ct fp sk rf fk i g r1 f2 n2 rn2 ct2 fk2 sk2) (h2 : mpro pB pS pG pE pC pO n rn ct fp sk rm fk fa i g r2 m2 n3 rn3 ct3 fa2 sk3) :
    (r1 = r2 ∧ n3 = n2 ∧ rn3 = rn2 ∧ ct3 = ct2 ∧ sk3 = sk2) ∧ simR pr pB pS pG pE pC pO f df n2 f2 m2 rn2 ct2 fp sk2 fk2 fa2 fl ef tf en cm tm cbf hf lf w bt bf := by
  obtain ⟨hm, ⟨hn, hgx⟩, hr, ⟨hct, hfp, hsk, hfl⟩, hrest⟩ := hs
  have hpv := mpr_pvd hm
  have h8 := isB_8 hpv.1
  have hO2 := hpv.2.2.2.2.2.2
  have hC0 := hpv.2.2.2.2.1
  rcases h1 with ⟨a0, rfl, rfl, rfl, rfl, rfl, rfl, rfl⟩ | ⟨d, hd, rfl, rfl, a1, rfl, rfl, rfl, rfl, rfl⟩ <;> rcases h2 with ⟨b0, rfl, rfl, rfl, rfl, rfl, rfl, rfl⟩ | ⟨d', hd', e, rfl, b1, rfl, rfl, rfl, rfl, rfl⟩
  · exact ⟨⟨rfl, rfl, rfl, rfl, rfl⟩, hm, ⟨hn, hgx⟩, hr, ⟨hct, hfp, hsk, hfl⟩, hrest⟩
  · rw [e] at a0; exact absurd a0 (idy_nI hd')
  · exact absurd b0 (idy_nI hd)
  · obtain rfl := nI_inj32 (by omega) (by omega) e
    exact ⟨⟨rfl, rfl, rfl, rfl, rfl⟩, hm, ⟨Nat.zero_le _, g, fun j hj => absurd hj (Nat.not_lt_zero j), fun j hj => absurd hj (Nat.not_lt_zero j)⟩, ⟨by omega, _, a1, b1⟩, ⟨Nat.mod_lt _ hC0, hfp, Nat.zero_le _, Or.inr ⟨rfl, by decide⟩⟩, hrest⟩
theorem k01 {k : Int32} : (¬ k < 0 ∧ k ≤ 1) ↔ (k = 0 ∨ k = 1) := by
  constructor
  · rintro ⟨h0, h1⟩
    obtain ⟨j, hj, e⟩ := nI_of2 (x := k) (M := 1) (n := 1) (by decide) h0 h1
    rcases (show j = 0 ∨ j = 1 by omega) with rfl | rfl
    · exact Or.inl e
    · exact Or.inr e
  · rintro (rfl | rfl) <;> decide
theorem at_in {a : Nat} (ha : a ≤ 100) : ¬ (nI a < 0 ∨ ¬ nI a ≤ 100) := by
  rintro (h | h)
  · exact nI_pos (by omega) h
  · exact h (by rw [show (100 : Int32) = nI 100 by decide]; exact nI_le ha (by decide))
theorem sim_plant {pr pB pS pG pE pC pO : Nat} {f df : Nat → Int32} {n : Nat} {rf rm : Nat → Int32} {rn ct fp sk : Nat} {fk fa fl : Int32} {ef tf : Nat → Int32} {en cm : Nat} {tm cbf : Int32} {hf lf : Nat → Int32} {w : Nat} {bt : Int32} {bf : Nat → Int32}
    {k x y r1 r2 : Int32} {fp2 sk2 sk3 : Nat} {fk2 fa2 fl2 : Int32} (hs : simR pr pB pS pG pE pC pO f df n rf rm rn ct fp sk fk fa fl ef tf en cm tm cbf hf lf w bt bf)
    (h1 : dpl k x y fp sk fk r1 fp2 sk2 fk2) (h2 : mpl k x y fa fl sk r2 fa2 fl2 sk3) :
    (r1 = r2 ∧ sk3 = sk2) ∧ simR pr pB pS pG pE pC pO f df n rf rm rn ct fp2 sk2 fk2 fa2 fl2 ef tf en cm tm cbf hf lf w bt bf := by
  obtain ⟨hm, hd, hr, ⟨hct, hfp, hsk, hfl⟩, hrest⟩ := hs
  rcases h1 with ⟨a0, a1, rfl, rfl, rfl, rfl⟩ | ⟨a0, a1, rfl, rfl, rfl, rfl⟩ | ⟨a, ha, rfl, rfl, rfl, rfl, rfl, rfl⟩ | ⟨a, ha, rfl, rfl, rfl, rfl, rfl, rfl⟩ <;> rcases h2 with ⟨b0, rfl, rfl, rfl, rfl⟩ | ⟨b0, b1, rfl, rfl, rfl, rfl⟩ | ⟨b, hb, eb, b1, rfl, rfl, rfl, rfl⟩ | ⟨b, hb, eb, b1, b2, rfl, rfl, rfl, rfl⟩
  · exact ⟨⟨rfl, rfl⟩, hm, hd, hr, ⟨hct, hfp, hsk, hfl⟩, hrest⟩
  · rcases k01.mp b0 with q | q
    · exact absurd q a0
    · exact absurd q a1
  · exact absurd b1 a0
  · rcases k01.mp b1 with q | q
    · exact absurd q a0
    · exact absurd q a1
  · have q := k01.mpr a0
    rcases b0 with b0 | b0
    · exact absurd b0 q.1
    · exact absurd q.2 b0
  · exact ⟨⟨rfl, rfl⟩, hm, hd, hr, ⟨hct, hfp, hsk, hfl⟩, hrest⟩
  · rw [eb] at a1; exact absurd a1 (at_in hb)
  · rw [eb] at a1; exact absurd a1 (at_in hb)
  · rcases b0 with b0 | b0
    · exact absurd b0 (by decide)
    · exact absurd (by decide) b0
  · exact absurd b1 (at_in ha)
  · obtain rfl := nI_inj32 (by omega) (by omega) eb
    exact ⟨⟨rfl, rfl⟩, hm, hd, hr, ⟨hct, ha, hsk, Or.inl ⟨rfl, rfl⟩⟩, hrest⟩
  · exact absurd rfl b2
  · rcases b0 with b0 | b0
    · exact absurd b0 (by decide)
    · exact absurd (by decide) b0
  · exact absurd b1 (at_in ha)
  · exact absurd b1 (by decide)
  · obtain rfl := nI_inj32 (by omega) (by omega) eb
    exact ⟨⟨rfl, rfl⟩, hm, hd, hr, ⟨hct, hfp, ha, hfl⟩, hrest⟩
theorem sim_react {t tt tg : Int64} {jo r1 r2 : Int32} {t2 t3 : Int64} (h1 : drc t tt tg jo r1 t2) (h2 : drc t tt tg jo r2 t3) : r1 = r2 ∧ t3 = t2 := by
  rcases h1 with ⟨a0, rfl, rfl⟩ | ⟨a0, rfl, rfl⟩ <;> rcases h2 with ⟨b0, rfl, rfl⟩ | ⟨b0, rfl, rfl⟩
  · exact ⟨rfl, rfl⟩
  · exact absurd a0 b0
  · exact absurd b0 a0
  · exact ⟨rfl, rfl⟩
theorem col_sim {ef tf : Nat → Int32} {en cm : Nat} {tm x : Int32} {g : Nat → Nat} {ef2 tf2 : Nat → Int32} {en2 cm2 : Nat} {tm2 : Int32} (hc : cm ≤ 71) (he : en = min cm 70) (ht : tm = tmf cm) (hg1 : oc_is ef en g) (hg2 : mo_is tf en g)
    (h1 : rc_col ef en tm x ef2 en2 tm2) (h2 : mcol tf cm x tf2 cm2) : cm2 ≤ 71 ∧ en2 = min cm2 70 ∧ tm2 = tmf cm2 ∧ oc_is ef2 en2 (gpu g en x) ∧ mo_is tf2 en2 (gpu g en x) := by
  have hp := oc_is_push hg1 (by omega) h1
  obtain ⟨h3, rfl⟩ := h2
  have hm := mo_col (x := x) hc (by rw [← he]; exact hg2) h3
  rw [← he] at hm
  have e2 : en2 = min (min (cm + 1) 71) 70 := by
    rcases h1 with ⟨a1, -, rfl, -⟩ | ⟨a1, -, rfl, -⟩ <;> omega
  refine ⟨by omega, e2, ?_, hp.1, by rw [e2]; exact hm⟩
  rcases h1 with ⟨a1, -, -, rfl⟩ | ⟨a1, -, -, rfl⟩
  · rw [ht]; unfold tmf; rw [if_neg (by omega), if_neg (by omega)]
  · unfold tmf; rw [if_pos (by omega)]
theorem hi_f_cg {f f' : Nat → Int32} {w k : Nat} (h : ∀ j, j < w → f j = f' j) (hk : k < 20) : hi_f f w (nI k) = hi_f f' w (nI k) := by
  unfold hi_f
  rw [nI_toInt (by omega), nI_clamp (by omega)]
  by_cases q : 0 ≤ (k : Int) ∧ (k : Int) < w
  · rw [if_pos q, if_pos q]; exact h k (by omega)
  · rw [if_neg q, if_neg q]
theorem hi_c_cg {f f' : Nat → Int32} {w : Nat} {y : Int32} (h : ∀ j, j < w → f j = f' j) : ∀ k, k ≤ 20 → hi_c f w y k = hi_c f' w y k
  | 0, _ => rfl
  | k + 1, hk => by
    show hi_c f w y k + _ = hi_c f' w y k + _
    rw [hi_c_cg h k (by omega), hi_f_cg h (by omega)]
theorem hi_j_cg {f f' : Nat → Int32} {w : Nat} {b : Int32} (h : ∀ j, j < w → f j = f' j) : hi_j f w b = hi_j f' w b := by
  unfold hi_j
  rw [hi_c_cg h 10 (by decide), hi_c_cg h 10 (by decide), hi_c_cg h 3 (by decide)]
theorem or_shr (x c s : Int32) : ((x ||| c) >>> s) &&& 1 = ((x >>> s) &&& 1) ||| ((c >>> s) &&& 1) := by
  apply Int32.toBitVec_inj.mp
  rw [Int32.toBitVec_and, Int32.toBitVec_or, Int32.toBitVec_and, Int32.toBitVec_and, Int32.toBitVec_shiftRight, Int32.toBitVec_shiftRight, Int32.toBitVec_shiftRight, Int32.toBitVec_or]
  show ((x.toBitVec ||| c.toBitVec).sshiftRight _ &&& _) = (x.toBitVec.sshiftRight _ &&& _) ||| (c.toBitVec.sshiftRight _ &&& _)
  rw [BitVec.sshiftRight_or_distrib]
  apply BitVec.eq_of_getLsbD_eq
  intro i hi
  simp only [BitVec.getLsbD_and, BitVec.getLsbD_or]
  cases (1 : Int32).toBitVec.getLsbD i <;> simp
theorem and1 (x : Int32) : x &&& 1 = 0 ∨ x &&& 1 = 1 := by
  rw [pk_and x 1 (by decide)]
  rcases (show x.toBitVec.toNat % 2 ^ 1 = 0 ∨ x.toBitVec.toNat % 2 ^ 1 = 1 by omega) with h | h <;> rw [h]
  · exact Or.inl (by decide)
  · exact Or.inr (by decide)
theorem bit_c : ∀ k, k < 6 → ∀ j, j < 6 → (((1 : Int32) <<< (nI k &&& 31)) >>> (nI j &&& 31)) &&& 1 = if j = k then 1 else 0 := by decide +kernel
theorem sim_told {bt : Int32} {bf : Nat → Int32} {k : Nat} (hk : k < 6) (h : ∀ i, hi_e bt i = mtld bf i) : ∀ i, hi_e (bt ||| (1 <<< (nI k &&& 31))) i = mtld (upd bf k 1) i := by
  intro i
  have hi := h i
  by_cases hr : ¬ i < 0 ∧ ¬ 5 < i
  · obtain ⟨j, hj, rfl⟩ : ∃ j, j ≤ 5 ∧ i = nI j := nI_of2 (M := 5) (by decide) hr.1 (Int32.not_lt.mp hr.2)
    have h6 : nI j < 6 := by rw [show (6 : Int32) = nI 6 by decide]; exact nI_lt (by omega) (by decide)
    unfold hi_e mtld at hi ⊢
    rw [nI_clamp (by omega)] at hi ⊢
    rw [or_shr, bit_c k hk j (by omega)]
    by_cases e : j = k
    · subst e
      rw [if_pos rfl, pk_us, if_pos, if_pos]
      · exact ⟨hr.1, h6, by decide⟩
      · refine ⟨hr.1, hr.2, ?_⟩
        rcases and1 (bt >>> (nI j &&& 31)) with q | q <;> rw [q] <;> decide
    · rw [if_neg e, pk_un e]
      have e0 : ((bt >>> (nI j &&& 31)) &&& 1 ||| 0) = (bt >>> (nI j &&& 31)) &&& 1 := by rcases and1 (bt >>> (nI j &&& 31)) with q | q <;> rw [q] <;> decide
      rw [e0]
      exact hi
  · have e1 : ∀ b, hi_e b i = 0 := fun b => by unfold hi_e; rw [if_neg (fun q => hr ⟨q.1, q.2.1⟩)]
    have e2 : ∀ b, mtld b i = 0 := fun b => by
      unfold mtld
      rw [if_neg]
      rintro ⟨q0, q1, -⟩
      refine hr ⟨q0, fun q5 => ?_⟩
      rw [Int32.lt_iff_toInt_lt] at q1 q5
      have z5 : (5 : Int32).toInt = 5 := by decide
      have z6 : (6 : Int32).toInt = 6 := by decide
      omega
    rw [e1, e2]
theorem bfo_new {pB pS pG pE pC pO d n : Nat} {g : Nat → Nat} {tm cbf : Int32} (h : bfo cbf pC) : bfo (if rc_err pB pS pG pE pC pO d n g tm = 0 then nI (be g 0 pO) else cbf) pC := by
  by_cases q : rc_err pB pS pG pE pC pO d n g tm = 0
  · rw [if_pos q]
    refine Or.inr ⟨_, ?_, rfl⟩
    refine Nat.not_le.mp fun z => ?_
    exact mf_1 (Or.inr (Or.inr (Or.inr z))) q
  · rw [if_neg q]; exact h
theorem sim_check {pr pB pS pG pE pC pO : Nat} {f df : Nat → Int32} {n : Nat} {rf rm : Nat → Int32} {rn ct fp sk : Nat} {fk fa fl : Int32} {ef tf : Nat → Int32} {en cm : Nat} {tm cbf : Int32} {hf lf : Nat → Int32} {w : Nat} {bt : Int32} {bf : Nat → Int32}
    {g : Nat → Nat} {gr jo : Int32} {tt tg : Int64} {i x la r1 r2 : Int32} {ef2 tf2 : Nat → Int32} {en2 cm2 : Nat} {tm2 cb2 cb3 : Int32} {hf2 lf2 : Nat → Int32} {w2 w3 : Nat} {gr2 gr3 bt2 jo2 jo3 : Int32} {bf2 : Nat → Int32} {tg2 tg3 : Int64}
    (hs : simR pr pB pS pG pE pC pO f df n rf rm rn ct fp sk fk fa fl ef tf en cm tm cbf hf lf w bt bf) (hg1 : oc_is ef en g) (hg2 : mo_is tf en g)
    (h1 : dchk pB pS pG pE pC pO ef en g tm cbf hf w gr bt jo tt tg i x la r1 ef2 en2 tm2 cb2 hf2 w2 gr2 bt2 jo2 tg2) (h2 : mchk pB pS pG pE pC pO tf cm g cbf lf w gr bf jo tt tg i x la r2 tf2 cm2 cb3 lf2 w3 gr3 bf2 jo3 tg3) :
    (r1 = r2 ∧ cb3 = cb2 ∧ w3 = w2 ∧ gr3 = gr2 ∧ jo3 = jo2 ∧ tg3 = tg2) ∧ simR pr pB pS pG pE pC pO f df n rf rm rn ct fp sk fk fa fl ef2 tf2 en2 cm2 tm2 cb2 hf2 lf2 w2 bt2 bf2 := by
  obtain ⟨hm, hd, hr, hp, ⟨hc, he, ht, hgx⟩, hb, ⟨hw, hlf⟩, hto⟩ := hs
  rcases h1 with ⟨a0, a1, rfl, rfl, rfl, rfl, rfl, rfl, rfl, rfl, rfl, rfl, rfl⟩ | ⟨a0, rfl, a2, rfl, rfl, rfl, rfl, rfl, rfl, rfl⟩ | ⟨a0, d, hd1, rfl, rfl, rfl, fa1, na, ta, a2, a3⟩ <;> rcases h2 with ⟨b0, b1, rfl, rfl, rfl, rfl, rfl, rfl, rfl, rfl, rfl, rfl⟩ | ⟨b0, rfl, b2, rfl, rfl, rfl, rfl, rfl, rfl, rfl⟩ | ⟨b0, d', hd2, e, rfl, fb, ca, b2, b3⟩
  · exact ⟨⟨rfl, rfl, rfl, rfl, rfl, rfl⟩, hm, hd, hr, hp, ⟨hc, he, ht, hgx⟩, hb, ⟨hw, hlf⟩, hto⟩
  · exact absurd b0 a0
  · rw [e] at a1; exact absurd a1 (idy_nI hd2)
  · exact absurd a0 b0
  · obtain ⟨q1, q2, q3, q4, q5⟩ := col_sim hc he ht hg1 hg2 a2 b2
    exact ⟨⟨rfl, rfl, rfl, rfl, rfl, rfl⟩, hm, hd, hr, hp, ⟨q1, q2, q3, _, q4, q5⟩, hb, ⟨hw, hlf⟩, hto⟩
  · exact absurd a0 b0
  · exact absurd b1 (idy_nI hd1)
  · exact absurd b0 a0
  · obtain rfl := nI_inj32 (by omega) (by omega) e
    obtain ⟨q1, q2, q3, q4, q5⟩ := col_sim hc he ht hg1 hg2 a2 b2
    obtain ⟨c1, c2, c3, rfl, rfl, rfl, c7, rfl⟩ := a3
    obtain ⟨⟨d1, d2⟩, d3, rfl, rfl, rfl, d7, rfl⟩ := b3
    rw [← he, ← q2, ← q3] at d1 d2
    have er : r1 = r2 := c1.trans d1.symm
    subst er
    have hll : ∀ j, j < min (w + 1) 10 → lf2 j = hf2 j := fun j hj => by
      rw [d3 j hj, c3 j (by omega)]
      unfold hi_s
      by_cases z : j = 0
      · rw [if_pos z, if_pos z]
      · rw [if_neg z, if_neg z]; exact hlf _ (by omega)
    obtain ⟨k, hk, ek⟩ := fd_rng (rc_err pB pS pG pE pC pO d na (gpu g en x) ta = 0) cbf (nI (be (gpu g en x) 0 pO)) pC
    have ek2 : r1 = nI k := c1.trans ek
    refine ⟨⟨rfl, d2.trans c2.symm, rfl, rfl, ?_, rfl⟩, hm, hd, hr, hp, ⟨Nat.zero_le _, by omega, by decide, g, fun j hj => absurd hj (Nat.not_lt_zero j), fun j hj => absurd hj (Nat.not_lt_zero j)⟩, by rw [c2]; exact bfo_new hb, ⟨Nat.min_le_right _ _, hll⟩, ?_⟩
    · rw [d7, c7]; exact hi_j_cg hll
    · rw [ek2, nI_clamp (by omega)]; exact sim_told hk hto
