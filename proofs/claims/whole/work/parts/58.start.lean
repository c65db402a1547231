theorem iz_Jx00060 : (.instantiable RJx00060 6 : Cond) ∈ wsL_law := by decide +kernel
theorem iz_X0 : (.instantiable RX0 5 : Cond) ∈ wsL_law := by decide +kernel
theorem iz_X1 : (.instantiable RX1 2 : Cond) ∈ wsL_law := by decide +kernel
theorem iz_X2 : (.instantiable RX2 6 : Cond) ∈ wsL_law := by decide +kernel
theorem iz_X3 : (.instantiable RX3 4 : Cond) ∈ wsL_law := by decide +kernel
theorem iz_X4 : (.instantiable RX4 7 : Cond) ∈ wsL_law := by decide +kernel
theorem iz_X5 : (.instantiable RX5 5 : Cond) ∈ wsL_law := by decide +kernel
theorem iz_X6 : (.instantiable RX6 23 : Cond) ∈ wsL_law := by decide +kernel
theorem ia_byte : (.arrayClass .byte : Cond) ∈ wsL_law := by decide +kernel
theorem ia_int : (.arrayClass .int : Cond) ∈ wsL_law := by decide +kernel
theorem ia_boolean : (.arrayClass .boolean : Cond) ∈ wsL_law := by decide +kernel
theorem ia_long : (.arrayClass .long : Cond) ∈ wsL_law := by decide +kernel
set_option maxRecDepth 20000 in
theorem nwL_in : ∀ w ∈ nwL, w ∈ lw_tbl := by decide +kernel
theorem lw_blind {b L : Nat} {xs : Nat → Int32} {av : List Value} : FrameBlind (va_Pc av (fun U => va_X b L xs U U.heap ∧ b < U.heap.size)) := by
  intro a U g mk q
  obtain ⟨q0, q1, q2⟩ := q
  exact ⟨q0, va_X.moved (u := U) (U := U.calling g mk a) (Vm.Alike.refl U.vm) q1, q2⟩
theorem lw_arr {args : Array Value} {s : State} {ty : FieldType} (hp : ∀ C, ty ≠ .object C) (h : (Cond.arrayClass ty).before args s = true) : ∃ cA : ClassId, ArrOfT s cA ty ∧ va_RA s cA ty := by
  obtain ⟨cA, kA, comp, h1, h2, h3⟩ := Cond.arrayClass_spec h
  refine ⟨cA, fun n z => ⟨fun k q => (by cases q), kA, h2, comp, h3⟩, ?_⟩
  cases ty <;> first | exact absurd rfl (hp _) | exact h1
theorem nm_both {i v1 v2 v3 v4 v5 v6 u1 u2 u3 u4 : Int32} (h1 : nmb i v1 v2 v3 v4 v5 v6) (h2 : mnb i u1 u2 u3 u4) : ∃ pr pB pS pG pE pC pO, mpr pr pB pS pG pE pC pO ∧ v1 = nI pB ∧ v2 = nI pS ∧ v3 = nI pG ∧ v4 = nI pE ∧ v5 = nI pC ∧ v6 = nI pO ∧ u1 = nI pr ∧ u2 = nI pB ∧ u3 = nI pC ∧ u4 = nI pO := by
  rcases h1 with ⟨a1, a2, rfl, rfl, rfl, rfl, rfl, rfl⟩ | ⟨rfl, rfl, rfl, rfl, rfl, rfl, rfl⟩ | ⟨rfl, rfl, rfl, rfl, rfl, rfl, rfl⟩ <;> rcases h2 with ⟨b1, b2, rfl, rfl, rfl, rfl⟩ | ⟨b1, rfl, rfl, rfl, rfl⟩ | ⟨b1, rfl, rfl, rfl, rfl⟩
  · exact ⟨1, 8, 29, 255, 255, 15, 1, Or.inl ⟨rfl, rfl, rfl, rfl, rfl, rfl, rfl⟩, by decide, by decide, by decide, by decide, by decide, by decide, by decide, by decide, by decide, by decide⟩
  · exact absurd b1 a1
  · exact absurd b1 a2
  · exact absurd rfl b1
  · exact ⟨2, 16, 4129, 65535, 0, 256, 1, Or.inr (Or.inl ⟨rfl, rfl, rfl, rfl, rfl, rfl, rfl⟩), by decide, by decide, by decide, by decide, by decide, by decide, by decide, by decide, by decide, by decide⟩
  · exact absurd b1 (by decide)
  · exact absurd rfl b2
  · exact absurd b1 (by decide)
  · exact ⟨3, 32, 4104978195, 4294967295, 4294967295, 65536, 2, Or.inr (Or.inr ⟨rfl, rfl, rfl, rfl, rfl, rfl, rfl⟩), by decide, by decide, by decide, by decide, by decide, by decide, by decide, by decide, by decide, by decide⟩
theorem sh0 : ∀ s : Int32, (0 : Int32) >>> s = 0 := fun s => by
  apply Int32.toBitVec_inj.mp
  rw [Int32.toBitVec_shiftRight]
  exact BitVec.zero_sshiftRight
theorem sim_0 {pr pB pS pG pE pC pO : Nat} (hm : mpr pr pB pS pG pE pC pO) : simR pr pB pS pG pE pC pO (fun _ => 0) (fun _ => 0) 0 (fun _ => 0) (fun _ => 0) 0 0 0 0 0 (-1) 0 (fun _ => 0) (fun _ => 0) 0 0 0 (-1) (fun _ => 0) (fun _ => 0) 0 0 (fun _ => 0) := by
  have hpv := mpr_pvd hm
  have h0 : ∀ (f : Nat → Int32) (g : Nat → Nat), oc_is f 0 g := fun f g j hj => absurd hj (Nat.not_lt_zero j)
  have h1 : ∀ (f : Nat → Int32) (g : Nat → Nat), mo_is f 0 g := fun f g j hj => absurd hj (Nat.not_lt_zero j)
  refine ⟨hm, ⟨by decide, fun _ => 0, h0 _ _, h1 _ _⟩, ⟨by decide, fun _ => 0, h0 _ _, h1 _ _⟩, ⟨hpv.2.2.2.2.1, by decide, by decide, Or.inr ⟨rfl, by decide⟩⟩, ⟨by decide, by decide, by decide, fun _ => 0, h0 _ _, h1 _ _⟩, Or.inl rfl, ⟨by decide, fun j hj => absurd hj (Nat.not_lt_zero j)⟩, fun i => ?_⟩
  unfold hi_e mtld
  rw [sh0, if_neg, if_neg]
  · exact fun q => q.2.2 rfl
  · exact fun q => absurd q.2.2 (by decide)
theorem iw_L_law_X5 : ∀ w ∈ wsX50, w ∈ wsL_law := by decide +kernel
theorem lk_L_law_n8 : (.classLink RL 8 RX5 : Cond) ∈ wsL_law := by decide +kernel
theorem lk_L_law_niX5 : (.instantiable RX5 5 : Cond) ∈ wsL_law := by decide +kernel
theorem lk_L_law_iniX5 : (.initialized RX5 : Cond) ∈ wsL_law := by decide +kernel
theorem lk_L_law_m21 : (.methodLink RL 21 yX5_init : Cond) ∈ wsL_law := by decide +kernel
theorem lk_L_law_imyX5_init : (.instanceMethod yX5_init : Cond) ∈ wsL_law := by decide +kernel
theorem iw_L_law_X6 : ∀ w ∈ wsX60, w ∈ wsL_law := by decide +kernel
theorem lk_L_law_n24 : (.classLink RL 24 RX6 : Cond) ∈ wsL_law := by decide +kernel
theorem lk_L_law_niX6 : (.instantiable RX6 23 : Cond) ∈ wsL_law := by decide +kernel
theorem lk_L_law_iniX6 : (.initialized RX6 : Cond) ∈ wsL_law := by decide +kernel
theorem lk_L_law_m26 : (.methodLink RL 26 yX6_init : Cond) ∈ wsL_law := by decide +kernel
theorem lk_L_law_imyX6_init : (.instanceMethod yX6_init : Cond) ∈ wsL_law := by decide +kernel
theorem lk_L_law_along : (.arrayClass .long : Cond) ∈ wsL_law := by decide +kernel
set_option maxHeartbeats 8000000 in
set_option maxRecDepth 100000 in
/-- THE LAW, from its entry -/
theorem whole_start {p : Program} {e : Env} {s : State} {m : MethodId} {below : List Frame} {meth : Method} {c : Code} (l : Launch) (hfl : l.flags = flags0) {b L : Nat} {xs : Nat → Int32} (hL : L ≤ 2049) (C0 : lw_At p s m meth c b L xs) : W p l e room_1 s m #[Value.ref b] below meth c s.heap [] 0 0 (lw_Z below #[Value.ref b] s) (entryFrame m ([Value.ref b] : List Value).toArray 7) := by
  obtain ⟨hx, hb, hr, hml, hown0, hts0, hX, hbl, hlocks, hgv⟩ := id C0
  have hown : s.vm.findClass RL = some m.cls := hown0
  have hts : ∀ w ∈ wsL_law, w.before #[Value.ref b] s = true := fun w h => hts0 w (wsL_law_in w h)
  obtain ⟨c0, iS0, hKn0⟩ := u_known (C := RJx00060) (T := TJx00060) (N := 6) (n := 6) hts0 in_wsJx000600 (hts _ iz_Jx00060)
  obtain ⟨c1, iS1, hKn1⟩ := u_known (C := RX0) (T := TX0) (N := 5) (n := 5) hts0 in_wsX00 (hts _ iz_X0)
  obtain ⟨c2, iS2, hKn2⟩ := u_known (C := RX1) (T := TX1) (N := 2) (n := 2) hts0 in_wsX10 (hts _ iz_X1)
  obtain ⟨c3, iS3, hKn3⟩ := u_known (C := RX2) (T := TX2) (N := 6) (n := 6) hts0 in_wsX20 (hts _ iz_X2)
  obtain ⟨c4, iS4, hKn4⟩ := u_known (C := RX3) (T := TX3) (N := 4) (n := 4) hts0 in_wsX30 (hts _ iz_X3)
  obtain ⟨c5, iS5, hKn5⟩ := u_known (C := RX4) (T := TX4) (N := 7) (n := 7) hts0 in_wsX40 (hts _ iz_X4)
  obtain ⟨c6, iS6, hKn6⟩ := u_known (C := RX5) (T := TX5) (N := 5) (n := 5) hts0 in_wsX50 (hts _ iz_X5)
  obtain ⟨c7, iS7, hKn7⟩ := u_known (C := RX6) (T := TX6) (N := 23) (n := 23) hts0 in_wsX60 (hts _ iz_X6)
  obtain ⟨D, hKc⟩ : ∃ D : va_G, ∀ (k : Nat) (q : vw_C), vwCl[k]? = some q → u_Kn s q.1 q.2.1 q.2.2 (D.1 k) (D.2 k) := by
    refine ⟨(fun k => if k = 0 then c0 else if k = 1 then c1 else if k = 2 then c2 else if k = 3 then c3 else if k = 4 then c4 else if k = 5 then c5 else if k = 6 then c6 else c7, fun k => if k = 0 then iS0 else if k = 1 then iS1 else if k = 2 then iS2 else if k = 3 then iS3 else if k = 4 then iS4 else if k = 5 then iS5 else if k = 6 then iS6 else iS7), ?_⟩
    intro k q hq
    match k, hq with
    | 0, hq => cases hq; exact hKn0
    | 1, hq => cases hq; exact hKn1
    | 2, hq => cases hq; exact hKn2
    | 3, hq => cases hq; exact hKn3
    | 4, hq => cases hq; exact hKn4
    | 5, hq => cases hq; exact hKn5
    | 6, hq => cases hq; exact hKn6
    | 7, hq => cases hq; exact hKn7
    | k + 8, hq => simp [vwCl] at hq
  obtain ⟨y0, hy0⟩ := lw_arr (fun _ h => by cases h) (hts _ ia_byte)
  obtain ⟨y1, hy1⟩ := lw_arr (fun _ h => by cases h) (hts _ ia_int)
  obtain ⟨y2, hy2⟩ := lw_arr (fun _ h => by cases h) (hts _ ia_boolean)
  obtain ⟨y3, hy3⟩ := lw_arr (fun _ h => by cases h) (hts _ ia_long)
  obtain ⟨cy, e0, e1, e2, e3⟩ : ∃ cy : Nat → ClassId, cy 0 = y0 ∧ cy 1 = y1 ∧ cy 2 = y2 ∧ cy 3 = y3 := ⟨fun k => if k = 0 then y0 else if k = 1 then y1 else if k = 2 then y2 else y3, rfl, rfl, rfl, rfl⟩
  subst e0
  subst e1
  subst e2
  subst e3
  have hkk : kk D cy s := by
    refine ⟨⟨hKc, ?_⟩, fun w hw => va_Nw.of (nwL_tab w hw) (hts0 w (nwL_in w hw))⟩
    intro k q hq
    match k, hq with
    | 0, hq => cases hq; exact hy0
    | 1, hq => cases hq; exact hy1
    | 2, hq => cases hq; exact hy2
    | 3, hq => cases hq; exact hy3
    | k + 4, hq => simp at hq
  have hK := hkk.1
  obtain ⟨A, hA, hA2⟩ : ∃ A : Nat → Prop, (∀ q, s.heap.size ≤ q → A q) ∧ (∀ q, A q → s.heap.size ≤ q) := ⟨fun q => s.heap.size ≤ q, fun _ h => h, fun _ h => h⟩
  have hbA : ¬ A b := fun q => absurd (hA2 b q) (Nat.not_le.mpr hbl)
  have hS : va_S A s.heap s.heap [] := va_S.rf
  have hP : va_P D vwCl [] s.heap := fun k q h => by simp at h
  have hD : va_D A [] := ⟨fun i j p q h => by simp at h, fun k q h => by simp at h⟩
  have hl := lv_entry ([.ref b]) (n := 7) (Nat.le_of_ble_eq_true rfl)
  rw [lg_entry_eq]
  generalize (lg_sl ([.ref b]) ++ List.replicate (7 - (lg_sl ([.ref b])).length) Slot.unset).toArray = ls at hl ⊢
  have hl : lv_has ls 7 [(0, .ref b)] := hl
  refine va_new (ci := 6) (fs := [.null, .null, .null, .long 0, .long 0]) (C := RX5) (T := TX5) (N := 5) hx hb hts iw_L_law_X5 tyX5 tyX5_ok hown (hts _ lk_L_law_n8) (hts _ lk_L_law_niX5) (hts _ lk_L_law_iniX5) hK hP hD hS hA rfl (fun j hj => by rcases (show j = 0 ∨ j = 1 ∨ j = 2 ∨ j = 3 ∨ j = 4 by omega) with rfl | rfl | rfl | rfl | rfl <;> rfl) (Nat.le_of_ble_eq_true rfl) (Nat.le_of_ble_eq_true rfl) dL_law_0 (fun q_0 H hP hD hS => ?_)
  have hP : va_P D vwCl [(q_0, .inr (6, [.null, .null, .null, .long 0, .long 0]))] H := hP
  have hD : va_D A [(q_0, .inr (6, [.null, .null, .null, .long 0, .long 0]))] := hD
  refine W.widen (k := 1) (n := 5) (by decide) (by decide) ?_
  refine lv_dup hx hb dL_law_3 rfl ?_
  refine lv_aload_n hx hb dL_law_4 rfl (lv_at hl 0 rfl) ?_
  refine lv_iconst (v := 0) hx hb dL_law_5 (by decide) ?_
  refine W.callR (W.runS (As := [.ref b, .int 0]) (rest := [.ref q_0, .ref q_0]) ⟨hx, hb, hml, hown, hts⟩ (c_L_cell l b L xs hL) (va_cwS 2 hts gL_law_L_cell rfl rfl rfl (by decide +kernel) ⟨Nat.le_of_ble_eq_true rfl, Nat.le_of_ble_eq_true rfl⟩) ⟨lw_blind, fun U hU hW => ⟨rfl, by rw [hU]; exact va_X.moved hW.alike (va_X.kept hX (hS.2.1 b hbl hbA)), by rw [hU]; exact Nat.lt_of_lt_of_le hbl hS.1⟩⟩ rfl rfl hl.1 rfl (lv_room (Nat.le_of_ble_eq_true rfl)) dL_law_6 ⟨Nat.le_of_ble_eq_true rfl, Nat.le_of_ble_eq_true rfl⟩) ?_
  refine W.eq (g2 := F0 m 9 ls (.int (if 0 < L then xs 0 else 0) :: [.ref q_0, .ref q_0])) rfl ?_
  refine lv_topi (fun x_6 ex_6 => ?_)
  have hPc := hP.sub (ws' := [(q_0, .inr (6, [.null, .null, .null, .long 0, .long 0]))]) [0] rfl
  have hDc := hD.sub (ws' := [(q_0, .inr (6, [.null, .null, .null, .long 0, .long 0]))]) [0] (by decide) rfl
  have hFc := va_free (wc := [(q_0, .inr (6, [.null, .null, .null, .long 0, .long 0]))]) hD hS hA [0] rfl
  refine va_callv (va_runI (As := [.int x_6]) (rest := [.ref q_0]) ⟨hx, hb, hml, hown, hts⟩ (c_X5_init l D cy H.size q_0 x_6 ) (cwI 1 hts gL_law_X5_init rfl rfl rfl (hts _ lk_L_law_iniX5) (hts _ lk_L_law_m21) (hts _ lk_L_law_imyX5_init) rfl (by decide +kernel) ⟨Nat.le_of_ble_eq_true rfl, Nat.le_of_ble_eq_true rfl⟩) (pv_S hkk hPc hDc rfl) rfl rfl hl.1 rfl (lv_room (Nat.le_of_ble_eq_true rfl)) dL_law_9 ⟨Nat.le_of_ble_eq_true rfl, Nat.le_of_ble_eq_true rfl⟩) hS (fun q _ h => hFc q h) hFc (fun u t H1 locs ht hvm hw hB hz1 hk1 hS => ?_)
  obtain ⟨s0_9, v0_9, i0_9, p0_9, d0_9, d1_9, r0_9, r1_9, e0_9, e1_9, i1_9, v1_9, v2_9, v3_9, v4_9, v5_9, v6_9⟩ := u
  obtain ⟨hP1, hD1⟩ := hB
  rw [ht] at hP1
  try dsimp only at hw hP1 hD1
  obtain ⟨hP, hD⟩ := va_join (wr := []) (w1 := [(q_0, .inr (6, [.ref s0_9, .ref v0_9, .ref i0_9, .long 0, .long 0])), (s0_9, .inr (5, [.ref p0_9, .ref d0_9, .ref r0_9, .int 0, .int 0, .int 0, .int 0])), (p0_9, .inr (3, [.int v1_9, .int v2_9, .int v3_9, .int v4_9, .int v5_9, .int v6_9])), (d0_9, .inr (2, [.ref d1_9, .int 0])), (d1_9, .inl (cy 0, 70, .inl (fun _ => 0))), (r0_9, .inr (2, [.ref r1_9, .int 0])), (r1_9, .inl (cy 0, 70, .inl (fun _ => 0))), (v0_9, .inr (4, [.ref p0_9, .ref e0_9, .int 0, .int (-1)])), (e0_9, .inr (2, [.ref e1_9, .int 0])), (e1_9, .inl (cy 0, 70, .inl (fun _ => 0))), (i0_9, .inr (1, [.ref i1_9, .int 0, .int 0, .int 0, .int 0])), (i1_9, .inl (cy 1, 10, .inl (fun _ => 0)))]) hP hD [0] [] rfl rfl (by decide) (by decide) hk1 hFc hP1 hD1
  clear hPc hDc hFc hP1 hD1 hz1 hk1
  generalize H1 = H at hP hS ⊢
  have hP : va_P D vwCl [(q_0, .inr (6, [.ref s0_9, .ref v0_9, .ref i0_9, .long 0, .long 0])), (s0_9, .inr (5, [.ref p0_9, .ref d0_9, .ref r0_9, .int 0, .int 0, .int 0, .int 0])), (p0_9, .inr (3, [.int v1_9, .int v2_9, .int v3_9, .int v4_9, .int v5_9, .int v6_9])), (d0_9, .inr (2, [.ref d1_9, .int 0])), (d1_9, .inl (cy 0, 70, .inl (fun _ => 0))), (r0_9, .inr (2, [.ref r1_9, .int 0])), (r1_9, .inl (cy 0, 70, .inl (fun _ => 0))), (v0_9, .inr (4, [.ref p0_9, .ref e0_9, .int 0, .int (-1)])), (e0_9, .inr (2, [.ref e1_9, .int 0])), (e1_9, .inl (cy 0, 70, .inl (fun _ => 0))), (i0_9, .inr (1, [.ref i1_9, .int 0, .int 0, .int 0, .int 0])), (i1_9, .inl (cy 1, 10, .inl (fun _ => 0)))] H := hP
  have hD : va_D A [(q_0, .inr (6, [.ref s0_9, .ref v0_9, .ref i0_9, .long 0, .long 0])), (s0_9, .inr (5, [.ref p0_9, .ref d0_9, .ref r0_9, .int 0, .int 0, .int 0, .int 0])), (p0_9, .inr (3, [.int v1_9, .int v2_9, .int v3_9, .int v4_9, .int v5_9, .int v6_9])), (d0_9, .inr (2, [.ref d1_9, .int 0])), (d1_9, .inl (cy 0, 70, .inl (fun _ => 0))), (r0_9, .inr (2, [.ref r1_9, .int 0])), (r1_9, .inl (cy 0, 70, .inl (fun _ => 0))), (v0_9, .inr (4, [.ref p0_9, .ref e0_9, .int 0, .int (-1)])), (e0_9, .inr (2, [.ref e1_9, .int 0])), (e1_9, .inl (cy 0, 70, .inl (fun _ => 0))), (i0_9, .inr (1, [.ref i1_9, .int 0, .int 0, .int 0, .int 0])), (i1_9, .inl (cy 1, 10, .inl (fun _ => 0)))] := hD
  refine W.widen (k := 12) (n := 253) (by decide) (by decide) ?_
  have hw_9 := hw
  refine lv_astore_n (lv' := [(1, .ref q_0), (0, .ref b)]) hx hb dL_law_12 rfl hl (by decide) rfl (fun ls hl => ?_)
  refine va_new (ci := 7) (fs := [.int 0, .int 0, .int 0, .int 0, .int 0, .int 0, .null, .int 0, .null, .int 0, .int 0, .int 0, .int 0, .int 0, .null, .int 0, .int 0, .null, .int 0, .int 0, .null, .long 0, .long 0]) (C := RX6) (T := TX6) (N := 23) hx hb hts iw_L_law_X6 tyX6 tyX6_ok hown (hts _ lk_L_law_n24) (hts _ lk_L_law_niX6) (hts _ lk_L_law_iniX6) hK hP hD hS hA rfl (fun j hj => by rcases (show j = 0 ∨ j = 1 ∨ j = 2 ∨ j = 3 ∨ j = 4 ∨ j = 5 ∨ j = 6 ∨ j = 7 ∨ j = 8 ∨ j = 9 ∨ j = 10 ∨ j = 11 ∨ j = 12 ∨ j = 13 ∨ j = 14 ∨ j = 15 ∨ j = 16 ∨ j = 17 ∨ j = 18 ∨ j = 19 ∨ j = 20 ∨ j = 21 ∨ j = 22 by omega) with rfl | rfl | rfl | rfl | rfl | rfl | rfl | rfl | rfl | rfl | rfl | rfl | rfl | rfl | rfl | rfl | rfl | rfl | rfl | rfl | rfl | rfl | rfl <;> rfl) (Nat.le_of_ble_eq_true rfl) (Nat.le_of_ble_eq_true rfl) dL_law_13 (fun q_13 H hP hD hS => ?_)
  have hP : va_P D vwCl [(q_0, .inr (6, [.ref s0_9, .ref v0_9, .ref i0_9, .long 0, .long 0])), (s0_9, .inr (5, [.ref p0_9, .ref d0_9, .ref r0_9, .int 0, .int 0, .int 0, .int 0])), (p0_9, .inr (3, [.int v1_9, .int v2_9, .int v3_9, .int v4_9, .int v5_9, .int v6_9])), (d0_9, .inr (2, [.ref d1_9, .int 0])), (d1_9, .inl (cy 0, 70, .inl (fun _ => 0))), (r0_9, .inr (2, [.ref r1_9, .int 0])), (r1_9, .inl (cy 0, 70, .inl (fun _ => 0))), (v0_9, .inr (4, [.ref p0_9, .ref e0_9, .int 0, .int (-1)])), (e0_9, .inr (2, [.ref e1_9, .int 0])), (e1_9, .inl (cy 0, 70, .inl (fun _ => 0))), (i0_9, .inr (1, [.ref i1_9, .int 0, .int 0, .int 0, .int 0])), (i1_9, .inl (cy 1, 10, .inl (fun _ => 0))), (q_13, .inr (7, [.int 0, .int 0, .int 0, .int 0, .int 0, .int 0, .null, .int 0, .null, .int 0, .int 0, .int 0, .int 0, .int 0, .null, .int 0, .int 0, .null, .int 0, .int 0, .null, .long 0, .long 0]))] H := hP
  have hD : va_D A [(q_0, .inr (6, [.ref s0_9, .ref v0_9, .ref i0_9, .long 0, .long 0])), (s0_9, .inr (5, [.ref p0_9, .ref d0_9, .ref r0_9, .int 0, .int 0, .int 0, .int 0])), (p0_9, .inr (3, [.int v1_9, .int v2_9, .int v3_9, .int v4_9, .int v5_9, .int v6_9])), (d0_9, .inr (2, [.ref d1_9, .int 0])), (d1_9, .inl (cy 0, 70, .inl (fun _ => 0))), (r0_9, .inr (2, [.ref r1_9, .int 0])), (r1_9, .inl (cy 0, 70, .inl (fun _ => 0))), (v0_9, .inr (4, [.ref p0_9, .ref e0_9, .int 0, .int (-1)])), (e0_9, .inr (2, [.ref e1_9, .int 0])), (e1_9, .inl (cy 0, 70, .inl (fun _ => 0))), (i0_9, .inr (1, [.ref i1_9, .int 0, .int 0, .int 0, .int 0])), (i1_9, .inl (cy 1, 10, .inl (fun _ => 0))), (q_13, .inr (7, [.int 0, .int 0, .int 0, .int 0, .int 0, .int 0, .null, .int 0, .null, .int 0, .int 0, .int 0, .int 0, .int 0, .null, .int 0, .int 0, .null, .int 0, .int 0, .null, .long 0, .long 0]))] := hD
  refine W.widen (k := 13) (n := 276) (by decide) (by decide) ?_
  refine lv_dup hx hb dL_law_16 rfl ?_
  refine lv_aload_n hx hb dL_law_17 rfl (lv_at hl 1 rfl) ?_
  refine lv_iconst (v := 0) hx hb dL_law_18 (by decide) ?_
  refine W.callR (W.runS (As := [.ref b, .int 0]) (rest := [.ref q_13, .ref q_13]) ⟨hx, hb, hml, hown, hts⟩ (c_L_cell l b L xs hL) (va_cwS 2 hts gL_law_L_cell rfl rfl rfl (by decide +kernel) ⟨Nat.le_of_ble_eq_true rfl, Nat.le_of_ble_eq_true rfl⟩) ⟨lw_blind, fun U hU hW => ⟨rfl, by rw [hU]; exact va_X.moved hW.alike (va_X.kept hX (hS.2.1 b hbl hbA)), by rw [hU]; exact Nat.lt_of_lt_of_le hbl hS.1⟩⟩ rfl rfl hl.1 rfl (lv_room (Nat.le_of_ble_eq_true rfl)) dL_law_19 ⟨Nat.le_of_ble_eq_true rfl, Nat.le_of_ble_eq_true rfl⟩) ?_
  refine W.eq (g2 := F0 m 22 ls (.int (if 0 < L then xs 0 else 0) :: [.ref q_13, .ref q_13])) rfl ?_
  refine lv_topi (fun x_19 ex_19 => ?_)
  obtain rfl : x_6 = x_19 := ex_6.trans ex_19.symm
  have hPc := hP.sub (ws' := [(q_13, .inr (7, [.int 0, .int 0, .int 0, .int 0, .int 0, .int 0, .null, .int 0, .null, .int 0, .int 0, .int 0, .int 0, .int 0, .null, .int 0, .int 0, .null, .int 0, .int 0, .null, .long 0, .long 0]))]) [12] rfl
  have hDc := hD.sub (ws' := [(q_13, .inr (7, [.int 0, .int 0, .int 0, .int 0, .int 0, .int 0, .null, .int 0, .null, .int 0, .int 0, .int 0, .int 0, .int 0, .null, .int 0, .int 0, .null, .int 0, .int 0, .null, .long 0, .long 0]))]) [12] (by decide) rfl
  have hFc := va_free (wc := [(q_13, .inr (7, [.int 0, .int 0, .int 0, .int 0, .int 0, .int 0, .null, .int 0, .null, .int 0, .int 0, .int 0, .int 0, .int 0, .null, .int 0, .int 0, .null, .int 0, .int 0, .null, .long 0, .long 0]))]) hD hS hA [12] rfl
  refine va_callv (va_runI (As := [.int x_6]) (rest := [.ref q_13]) ⟨hx, hb, hml, hown, hts⟩ (c_X6_init l D cy H.size q_13 x_6 ) (cwI 1 hts gL_law_X6_init rfl rfl rfl (hts _ lk_L_law_iniX6) (hts _ lk_L_law_m26) (hts _ lk_L_law_imyX6_init) rfl (by decide +kernel) ⟨Nat.le_of_ble_eq_true rfl, Nat.le_of_ble_eq_true rfl⟩) (pv_S hkk hPc hDc rfl) rfl rfl hl.1 rfl (lv_room (Nat.le_of_ble_eq_true rfl)) dL_law_22 ⟨Nat.le_of_ble_eq_true rfl, Nat.le_of_ble_eq_true rfl⟩) hS (fun q _ h => hFc q h) hFc (fun u t H1 locs ht hvm hw hB hz1 hk1 hS => ?_)
  obtain ⟨a0_22, a1_22, a2_22, a3_22, a4_22, v1_22, v2_22, v3_22, v4_22⟩ := u
  obtain ⟨hP1, hD1⟩ := hB
  rw [ht] at hP1
  try dsimp only at hw hP1 hD1
  obtain ⟨hP, hD⟩ := va_join (wr := [(q_0, .inr (6, [.ref s0_9, .ref v0_9, .ref i0_9, .long 0, .long 0])), (s0_9, .inr (5, [.ref p0_9, .ref d0_9, .ref r0_9, .int 0, .int 0, .int 0, .int 0])), (p0_9, .inr (3, [.int v1_9, .int v2_9, .int v3_9, .int v4_9, .int v5_9, .int v6_9])), (d0_9, .inr (2, [.ref d1_9, .int 0])), (d1_9, .inl (cy 0, 70, .inl (fun _ => 0))), (r0_9, .inr (2, [.ref r1_9, .int 0])), (r1_9, .inl (cy 0, 70, .inl (fun _ => 0))), (v0_9, .inr (4, [.ref p0_9, .ref e0_9, .int 0, .int (-1)])), (e0_9, .inr (2, [.ref e1_9, .int 0])), (e1_9, .inl (cy 0, 70, .inl (fun _ => 0))), (i0_9, .inr (1, [.ref i1_9, .int 0, .int 0, .int 0, .int 0])), (i1_9, .inl (cy 1, 10, .inl (fun _ => 0)))]) (w1 := [(q_13, .inr (7, [.int 0, .int v1_22, .int v2_22, .int v3_22, .int v4_22, .int 0, .ref a0_22, .int 0, .ref a1_22, .int 0, .int (-1), .int 0, .int 0, .int 0, .ref a2_22, .int (-1), .int 0, .ref a3_22, .int 0, .int 0, .ref a4_22, .long 0, .long 0])), (a0_22, .inl (cy 1, 64, .inl (fun _ => 0))), (a1_22, .inl (cy 1, 80, .inl (fun _ => 0))), (a2_22, .inl (cy 1, 70, .inl (fun _ => 0))), (a3_22, .inl (cy 1, 10, .inl (fun _ => 0))), (a4_22, .inl (cy 2, 6, .inl (fun _ => 0)))]) hP hD [12] [0, 1, 2, 3, 4, 5, 6, 7, 8, 9, 10, 11] rfl rfl (by decide) (by decide) hk1 hFc hP1 hD1
  clear hPc hDc hFc hP1 hD1 hz1 hk1
  generalize H1 = H at hP hS ⊢
  have hP : va_P D vwCl [(q_0, .inr (6, [.ref s0_9, .ref v0_9, .ref i0_9, .long 0, .long 0])), (s0_9, .inr (5, [.ref p0_9, .ref d0_9, .ref r0_9, .int 0, .int 0, .int 0, .int 0])), (p0_9, .inr (3, [.int v1_9, .int v2_9, .int v3_9, .int v4_9, .int v5_9, .int v6_9])), (d0_9, .inr (2, [.ref d1_9, .int 0])), (d1_9, .inl (cy 0, 70, .inl (fun _ => 0))), (r0_9, .inr (2, [.ref r1_9, .int 0])), (r1_9, .inl (cy 0, 70, .inl (fun _ => 0))), (v0_9, .inr (4, [.ref p0_9, .ref e0_9, .int 0, .int (-1)])), (e0_9, .inr (2, [.ref e1_9, .int 0])), (e1_9, .inl (cy 0, 70, .inl (fun _ => 0))), (i0_9, .inr (1, [.ref i1_9, .int 0, .int 0, .int 0, .int 0])), (i1_9, .inl (cy 1, 10, .inl (fun _ => 0))), (q_13, .inr (7, [.int 0, .int v1_22, .int v2_22, .int v3_22, .int v4_22, .int 0, .ref a0_22, .int 0, .ref a1_22, .int 0, .int (-1), .int 0, .int 0, .int 0, .ref a2_22, .int (-1), .int 0, .ref a3_22, .int 0, .int 0, .ref a4_22, .long 0, .long 0])), (a0_22, .inl (cy 1, 64, .inl (fun _ => 0))), (a1_22, .inl (cy 1, 80, .inl (fun _ => 0))), (a2_22, .inl (cy 1, 70, .inl (fun _ => 0))), (a3_22, .inl (cy 1, 10, .inl (fun _ => 0))), (a4_22, .inl (cy 2, 6, .inl (fun _ => 0)))] H := hP
  have hD : va_D A [(q_0, .inr (6, [.ref s0_9, .ref v0_9, .ref i0_9, .long 0, .long 0])), (s0_9, .inr (5, [.ref p0_9, .ref d0_9, .ref r0_9, .int 0, .int 0, .int 0, .int 0])), (p0_9, .inr (3, [.int v1_9, .int v2_9, .int v3_9, .int v4_9, .int v5_9, .int v6_9])), (d0_9, .inr (2, [.ref d1_9, .int 0])), (d1_9, .inl (cy 0, 70, .inl (fun _ => 0))), (r0_9, .inr (2, [.ref r1_9, .int 0])), (r1_9, .inl (cy 0, 70, .inl (fun _ => 0))), (v0_9, .inr (4, [.ref p0_9, .ref e0_9, .int 0, .int (-1)])), (e0_9, .inr (2, [.ref e1_9, .int 0])), (e1_9, .inl (cy 0, 70, .inl (fun _ => 0))), (i0_9, .inr (1, [.ref i1_9, .int 0, .int 0, .int 0, .int 0])), (i1_9, .inl (cy 1, 10, .inl (fun _ => 0))), (q_13, .inr (7, [.int 0, .int v1_22, .int v2_22, .int v3_22, .int v4_22, .int 0, .ref a0_22, .int 0, .ref a1_22, .int 0, .int (-1), .int 0, .int 0, .int 0, .ref a2_22, .int (-1), .int 0, .ref a3_22, .int 0, .int 0, .ref a4_22, .long 0, .long 0])), (a0_22, .inl (cy 1, 64, .inl (fun _ => 0))), (a1_22, .inl (cy 1, 80, .inl (fun _ => 0))), (a2_22, .inl (cy 1, 70, .inl (fun _ => 0))), (a3_22, .inl (cy 1, 10, .inl (fun _ => 0))), (a4_22, .inl (cy 2, 6, .inl (fun _ => 0)))] := hD
  refine W.widen (k := 18) (n := 506) (by decide) (by decide) ?_
  have hw_22 := hw
  refine lv_astore_n (lv' := [(2, .ref q_13), (1, .ref q_0), (0, .ref b)]) hx hb dL_law_25 rfl hl (by decide) rfl (fun ls hl => ?_)
  refine lv_iconst (v := 1) hx hb dL_law_26 (by decide) ?_
  refine va_newa (atype := .long) (a0 := (1, .inr (.inl (fun _ => 0)))) (N' := 1) (ty := .long) hx hb (hts _ lk_L_law_along) rfl hK hP hD hS hA (fun _ => rfl) (by decide) (by decide) (by decide) (Nat.le_of_ble_eq_true rfl) (Nat.le_of_ble_eq_true rfl) dL_law_27 (fun q_27 cA_27 H hK2 hP hD hS => ?_)
  obtain rfl : cA_27 = cy 3 := kk_same hK2 3 4 rfl rfl (fun _ h => by cases h)
  have hP : va_P D vwCl [(q_0, .inr (6, [.ref s0_9, .ref v0_9, .ref i0_9, .long 0, .long 0])), (s0_9, .inr (5, [.ref p0_9, .ref d0_9, .ref r0_9, .int 0, .int 0, .int 0, .int 0])), (p0_9, .inr (3, [.int v1_9, .int v2_9, .int v3_9, .int v4_9, .int v5_9, .int v6_9])), (d0_9, .inr (2, [.ref d1_9, .int 0])), (d1_9, .inl (cy 0, 70, .inl (fun _ => 0))), (r0_9, .inr (2, [.ref r1_9, .int 0])), (r1_9, .inl (cy 0, 70, .inl (fun _ => 0))), (v0_9, .inr (4, [.ref p0_9, .ref e0_9, .int 0, .int (-1)])), (e0_9, .inr (2, [.ref e1_9, .int 0])), (e1_9, .inl (cy 0, 70, .inl (fun _ => 0))), (i0_9, .inr (1, [.ref i1_9, .int 0, .int 0, .int 0, .int 0])), (i1_9, .inl (cy 1, 10, .inl (fun _ => 0))), (q_13, .inr (7, [.int 0, .int v1_22, .int v2_22, .int v3_22, .int v4_22, .int 0, .ref a0_22, .int 0, .ref a1_22, .int 0, .int (-1), .int 0, .int 0, .int 0, .ref a2_22, .int (-1), .int 0, .ref a3_22, .int 0, .int 0, .ref a4_22, .long 0, .long 0])), (a0_22, .inl (cy 1, 64, .inl (fun _ => 0))), (a1_22, .inl (cy 1, 80, .inl (fun _ => 0))), (a2_22, .inl (cy 1, 70, .inl (fun _ => 0))), (a3_22, .inl (cy 1, 10, .inl (fun _ => 0))), (a4_22, .inl (cy 2, 6, .inl (fun _ => 0))), (q_27, .inl (cy 3, 1, .inr (.inl (fun _ => 0))))] H := hP
  have hD : va_D A [(q_0, .inr (6, [.ref s0_9, .ref v0_9, .ref i0_9, .long 0, .long 0])), (s0_9, .inr (5, [.ref p0_9, .ref d0_9, .ref r0_9, .int 0, .int 0, .int 0, .int 0])), (p0_9, .inr (3, [.int v1_9, .int v2_9, .int v3_9, .int v4_9, .int v5_9, .int v6_9])), (d0_9, .inr (2, [.ref d1_9, .int 0])), (d1_9, .inl (cy 0, 70, .inl (fun _ => 0))), (r0_9, .inr (2, [.ref r1_9, .int 0])), (r1_9, .inl (cy 0, 70, .inl (fun _ => 0))), (v0_9, .inr (4, [.ref p0_9, .ref e0_9, .int 0, .int (-1)])), (e0_9, .inr (2, [.ref e1_9, .int 0])), (e1_9, .inl (cy 0, 70, .inl (fun _ => 0))), (i0_9, .inr (1, [.ref i1_9, .int 0, .int 0, .int 0, .int 0])), (i1_9, .inl (cy 1, 10, .inl (fun _ => 0))), (q_13, .inr (7, [.int 0, .int v1_22, .int v2_22, .int v3_22, .int v4_22, .int 0, .ref a0_22, .int 0, .ref a1_22, .int 0, .int (-1), .int 0, .int 0, .int 0, .ref a2_22, .int (-1), .int 0, .ref a3_22, .int 0, .int 0, .ref a4_22, .long 0, .long 0])), (a0_22, .inl (cy 1, 64, .inl (fun _ => 0))), (a1_22, .inl (cy 1, 80, .inl (fun _ => 0))), (a2_22, .inl (cy 1, 70, .inl (fun _ => 0))), (a3_22, .inl (cy 1, 10, .inl (fun _ => 0))), (a4_22, .inl (cy 2, 6, .inl (fun _ => 0))), (q_27, .inl (cy 3, 1, .inr (.inl (fun _ => 0))))] := hD
  refine W.widen (k := 19) (n := 507) (by decide) (by decide) ?_
  refine lv_astore_n (lv' := [(3, .ref q_27), (2, .ref q_13), (1, .ref q_0), (0, .ref b)]) hx hb dL_law_29 rfl hl (by decide) rfl (fun ls hl => ?_)
  refine lv_iconst (v := 1) hx hb dL_law_30 (by decide) ?_
  refine lv_istore (lv' := [(4, .int 1), (3, .ref q_27), (2, .ref q_13), (1, .ref q_0), (0, .ref b)]) hx hb dL_law_31 hl (by decide) rfl (fun ls hl => ?_)
  obtain ⟨pr, pB, pS, pG, pE, pC, pO, hmp, rfl, rfl, rfl, rfl, rfl, rfl, rfl, rfl, rfl, rfl⟩ := nm_both hw_9 hw_22
  have hP9 : va_P D vwCl [(q_0, .inr (6, [.ref s0_9, .ref v0_9, .ref i0_9, .long 0, .long 0])), (s0_9, .inr (5, [.ref p0_9, .ref d0_9, .ref r0_9, .int (nI 0), .int (nI 0), .int 0, .int (nI 0)])), (p0_9, .inr (3, [.int (nI pB), .int (nI pS), .int (nI pG), .int (nI pE), .int (nI pC), .int (nI pO)])), (d0_9, .inr (2, [.ref d1_9, .int (nI 0)])), (d1_9, .inl (cy 0, 70, .inl (fun _ => 0))), (r0_9, .inr (2, [.ref r1_9, .int (nI 0)])), (r1_9, .inl (cy 0, 70, .inl (fun _ => 0))), (v0_9, .inr (4, [.ref p0_9, .ref e0_9, .int 0, .int (-1)])), (e0_9, .inr (2, [.ref e1_9, .int (nI 0)])), (e1_9, .inl (cy 0, 70, .inl (fun _ => 0))), (i0_9, .inr (1, [.ref i1_9, .int (nI 0), .int 0, .int 0, .int 0])), (i1_9, .inl (cy 1, 10, .inl (fun _ => 0))), (q_13, .inr (7, [.int 0, .int (nI pr), .int (nI pB), .int (nI pC), .int (nI pO), .int (nI 0), .ref a0_22, .int (nI 0), .ref a1_22, .int (nI 0), .int (-1), .int 0, .int (nI 0), .int (nI 0), .ref a2_22, .int (-1), .int (nI 0), .ref a3_22, .int 0, .int 0, .ref a4_22, .long 0, .long 0])), (a0_22, .inl (cy 1, 64, .inl (fun _ => 0))), (a1_22, .inl (cy 1, 80, .inl (fun _ => 0))), (a2_22, .inl (cy 1, 70, .inl (fun _ => 0))), (a3_22, .inl (cy 1, 10, .inl (fun _ => 0))), (a4_22, .inl (cy 2, 6, .inl (fun _ => 0))), (q_27, .inl (cy 3, 1, .inr (.inl (fun _ => 0))))] H := hP.sub (ws' := [(q_0, .inr (6, [.ref s0_9, .ref v0_9, .ref i0_9, .long 0, .long 0])), (s0_9, .inr (5, [.ref p0_9, .ref d0_9, .ref r0_9, .int (nI 0), .int (nI 0), .int 0, .int (nI 0)])), (p0_9, .inr (3, [.int (nI pB), .int (nI pS), .int (nI pG), .int (nI pE), .int (nI pC), .int (nI pO)])), (d0_9, .inr (2, [.ref d1_9, .int (nI 0)])), (d1_9, .inl (cy 0, 70, .inl (fun _ => 0))), (r0_9, .inr (2, [.ref r1_9, .int (nI 0)])), (r1_9, .inl (cy 0, 70, .inl (fun _ => 0))), (v0_9, .inr (4, [.ref p0_9, .ref e0_9, .int 0, .int (-1)])), (e0_9, .inr (2, [.ref e1_9, .int (nI 0)])), (e1_9, .inl (cy 0, 70, .inl (fun _ => 0))), (i0_9, .inr (1, [.ref i1_9, .int (nI 0), .int 0, .int 0, .int 0])), (i1_9, .inl (cy 1, 10, .inl (fun _ => 0))), (q_13, .inr (7, [.int 0, .int (nI pr), .int (nI pB), .int (nI pC), .int (nI pO), .int (nI 0), .ref a0_22, .int (nI 0), .ref a1_22, .int (nI 0), .int (-1), .int 0, .int (nI 0), .int (nI 0), .ref a2_22, .int (-1), .int (nI 0), .ref a3_22, .int 0, .int 0, .ref a4_22, .long 0, .long 0])), (a0_22, .inl (cy 1, 64, .inl (fun _ => 0))), (a1_22, .inl (cy 1, 80, .inl (fun _ => 0))), (a2_22, .inl (cy 1, 70, .inl (fun _ => 0))), (a3_22, .inl (cy 1, 10, .inl (fun _ => 0))), (a4_22, .inl (cy 2, 6, .inl (fun _ => 0))), (q_27, .inl (cy 3, 1, .inr (.inl (fun _ => 0))))]) [0, 1, 2, 3, 4, 5, 6, 7, 8, 9, 10, 11, 12, 13, 14, 15, 16, 17, 18] rfl
  have hD9 : va_D A [(q_0, .inr (6, [.ref s0_9, .ref v0_9, .ref i0_9, .long 0, .long 0])), (s0_9, .inr (5, [.ref p0_9, .ref d0_9, .ref r0_9, .int (nI 0), .int (nI 0), .int 0, .int (nI 0)])), (p0_9, .inr (3, [.int (nI pB), .int (nI pS), .int (nI pG), .int (nI pE), .int (nI pC), .int (nI pO)])), (d0_9, .inr (2, [.ref d1_9, .int (nI 0)])), (d1_9, .inl (cy 0, 70, .inl (fun _ => 0))), (r0_9, .inr (2, [.ref r1_9, .int (nI 0)])), (r1_9, .inl (cy 0, 70, .inl (fun _ => 0))), (v0_9, .inr (4, [.ref p0_9, .ref e0_9, .int 0, .int (-1)])), (e0_9, .inr (2, [.ref e1_9, .int (nI 0)])), (e1_9, .inl (cy 0, 70, .inl (fun _ => 0))), (i0_9, .inr (1, [.ref i1_9, .int (nI 0), .int 0, .int 0, .int 0])), (i1_9, .inl (cy 1, 10, .inl (fun _ => 0))), (q_13, .inr (7, [.int 0, .int (nI pr), .int (nI pB), .int (nI pC), .int (nI pO), .int (nI 0), .ref a0_22, .int (nI 0), .ref a1_22, .int (nI 0), .int (-1), .int 0, .int (nI 0), .int (nI 0), .ref a2_22, .int (-1), .int (nI 0), .ref a3_22, .int 0, .int 0, .ref a4_22, .long 0, .long 0])), (a0_22, .inl (cy 1, 64, .inl (fun _ => 0))), (a1_22, .inl (cy 1, 80, .inl (fun _ => 0))), (a2_22, .inl (cy 1, 70, .inl (fun _ => 0))), (a3_22, .inl (cy 1, 10, .inl (fun _ => 0))), (a4_22, .inl (cy 2, 6, .inl (fun _ => 0))), (q_27, .inl (cy 3, 1, .inr (.inl (fun _ => 0))))] := hD.sub (ws' := [(q_0, .inr (6, [.ref s0_9, .ref v0_9, .ref i0_9, .long 0, .long 0])), (s0_9, .inr (5, [.ref p0_9, .ref d0_9, .ref r0_9, .int (nI 0), .int (nI 0), .int 0, .int (nI 0)])), (p0_9, .inr (3, [.int (nI pB), .int (nI pS), .int (nI pG), .int (nI pE), .int (nI pC), .int (nI pO)])), (d0_9, .inr (2, [.ref d1_9, .int (nI 0)])), (d1_9, .inl (cy 0, 70, .inl (fun _ => 0))), (r0_9, .inr (2, [.ref r1_9, .int (nI 0)])), (r1_9, .inl (cy 0, 70, .inl (fun _ => 0))), (v0_9, .inr (4, [.ref p0_9, .ref e0_9, .int 0, .int (-1)])), (e0_9, .inr (2, [.ref e1_9, .int (nI 0)])), (e1_9, .inl (cy 0, 70, .inl (fun _ => 0))), (i0_9, .inr (1, [.ref i1_9, .int (nI 0), .int 0, .int 0, .int 0])), (i1_9, .inl (cy 1, 10, .inl (fun _ => 0))), (q_13, .inr (7, [.int 0, .int (nI pr), .int (nI pB), .int (nI pC), .int (nI pO), .int (nI 0), .ref a0_22, .int (nI 0), .ref a1_22, .int (nI 0), .int (-1), .int 0, .int (nI 0), .int (nI 0), .ref a2_22, .int (-1), .int (nI 0), .ref a3_22, .int 0, .int 0, .ref a4_22, .long 0, .long 0])), (a0_22, .inl (cy 1, 64, .inl (fun _ => 0))), (a1_22, .inl (cy 1, 80, .inl (fun _ => 0))), (a2_22, .inl (cy 1, 70, .inl (fun _ => 0))), (a3_22, .inl (cy 1, 10, .inl (fun _ => 0))), (a4_22, .inl (cy 2, 6, .inl (fun _ => 0))), (q_27, .inl (cy 3, 1, .inr (.inl (fun _ => 0))))]) [0, 1, 2, 3, 4, 5, 6, 7, 8, 9, 10, 11, 12, 13, 14, 15, 16, 17, 18] (by decide) rfl
  exact law_loop hL C0 hkk A hA hA2 q_0 s0_9 v0_9 i0_9 p0_9 d0_9 d1_9 r0_9 r1_9 e0_9 e1_9 i1_9 q_13 a0_22 a1_22 a2_22 a3_22 a4_22 q_27 pr pB pS pG pE pC pO (out_row hfl hL C0 hkk A hA hA2 q_0 s0_9 v0_9 i0_9 p0_9 d0_9 d1_9 r0_9 r1_9 e0_9 e1_9 i1_9 q_13 a0_22 a1_22 a2_22 a3_22 a4_22 q_27 pr pB pS pG pE pC pO) (L + 1) 1 0 0 0 0 0 0 (fun _ => 0) 0 (fun _ => 0) 0 0 (-1) (fun _ => 0) 0 (fun _ => 0) 0 0 0 0 0 (fun _ => 0) (fun _ => 0) (-1) 0 0 (fun _ => 0) (fun _ => 0) (fun _ => 0) (fun _ => 0) 19 507 _ _ (by omega) (by decide) (by decide) (by decide) (by decide) (sim_0 hmp) hP9 hD9 hS _ (lv_sub hl [4, 3, 2, 1, 0] rfl)
