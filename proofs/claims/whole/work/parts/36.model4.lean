theorem iw_X6_find_X6 : ∀ w ∈ wsX60, w ∈ wsX6_find := by decide +kernel
theorem lk_X6_find_f36 : (.fieldLink RX6 36 "DataGuardsModel" "bits" "I" : Cond) ∈ wsX6_find := by decide +kernel
theorem lk_X6_find_f87 : (.fieldLink RX6 87 "DataGuardsModel" "come" "I" : Cond) ∈ wsX6_find := by decide +kernel
theorem lk_X6_find_f43 : (.fieldLink RX6 43 "DataGuardsModel" "head" "I" : Cond) ∈ wsX6_find := by decide +kernel
theorem lk_X6_find_f40 : (.fieldLink RX6 40 "DataGuardsModel" "counters" "I" : Cond) ∈ wsX6_find := by decide +kernel
theorem lk_X6_find_f23 : (.fieldLink RX6 23 "DataGuardsModel" "before" "I" : Cond) ∈ wsX6_find := by decide +kernel
theorem lk_X6_find_f20 : (.fieldLink RX6 20 "DataGuardsModel" "taken" "[I" : Cond) ∈ wsX6_find := by decide +kernel
theorem lk_X6_find_k90 : (.constantLong RX6 90 (256) : Cond) ∈ wsX6_find := by decide +kernel
set_option maxHeartbeats 4000000 in
set_option maxRecDepth 100000 in
/-- the reference: find(identity) -/
theorem c_X6_find (l : Launch) (D : va_G) (cy : Nat → ClassId) (sz : Nat) (h0 : Nat) (a0 : Nat) (a1 : Nat) (a2 : Nat) (a3 : Nat) (a4 : Nat) (co0 : Int32) (pr : Nat) (pB : Nat) (pS : Nat) (pG : Nat) (pE : Nat) (pC : Nat) (pO : Nat) (n : Nat) (df : Nat → Int32) (rn : Nat) (rf : Nat → Int32) (ct : Nat) (fa : Int32) (fl : Int32) (sk : Nat) (cm : Nat) (tf : Nat → Int32) (cbf : Int32) (w : Nat) (lf : Nat → Int32) (jo : Int32) (gr : Int32) (bf : Nat → Int32) (tt : Int64) (tg : Int64) (g : Nat → Nat) (d : Nat) (hmp : mpr pr pB pS pG pE pC pO) (hd : d < 65536) (hcm : cm ≤ 71) (hg : mo_is tf (min cm 70) g) (hbf : bfo cbf pC) : Met l yX6_find wsX6_find ({ frames := 2, cells := 0, slots := 0, locals := 55 } : Room) (pre1 D cy [.ref h0, .int (nI d)] [(h0, .inr (7, [.int co0, .int (nI pr), .int (nI pB), .int (nI pC), .int (nI pO), .int (nI n), .ref a0, .int (nI rn), .ref a1, .int (nI ct), .int fa, .int fl, .int (nI sk), .int (nI cm), .ref a2, .int cbf, .int (nI w), .ref a3, .int jo, .int gr, .ref a4, .long tt, .long tg])), (a0, .inl (cy 1, 64, .inl df)), (a1, .inl (cy 1, 80, .inl rf)), (a2, .inl (cy 1, 70, .inl tf)), (a3, .inl (cy 1, 10, .inl lf)), (a4, .inl (cy 2, 6, .inl bf))] sz) (va_Qi (fun (r : Int32) (u : (Int32)) => (mfnd pB pS pG pE pC pO d cm g cbf r u)) (fun u t => va_P D vwCl [(h0, .inr (7, [.int co0, .int (nI pr), .int (nI pB), .int (nI pC), .int (nI pO), .int (nI n), .ref a0, .int (nI rn), .ref a1, .int (nI ct), .int fa, .int fl, .int (nI sk), .int (nI cm), .ref a2, .int u, .int (nI w), .ref a3, .int jo, .int gr, .ref a4, .long tt, .long tg])), (a0, .inl (cy 1, 64, .inl df)), (a1, .inl (cy 1, 80, .inl rf)), (a2, .inl (cy 1, 70, .inl tf)), (a3, .inl (cy 1, 10, .inl lf)), (a4, .inl (cy 2, 6, .inl bf))] t.heap ∧ va_D (va_A [(h0, .inr (7, [.int co0, .int (nI pr), .int (nI pB), .int (nI pC), .int (nI pO), .int (nI n), .ref a0, .int (nI rn), .ref a1, .int (nI ct), .int fa, .int fl, .int (nI sk), .int (nI cm), .ref a2, .int cbf, .int (nI w), .ref a3, .int jo, .int gr, .ref a4, .long tt, .long tg])), (a0, .inl (cy 1, 64, .inl df)), (a1, .inl (cy 1, 80, .inl rf)), (a2, .inl (cy 1, 70, .inl tf)), (a3, .inl (cy 1, 10, .inl lf)), (a4, .inl (cy 2, 6, .inl bf))] sz) [(h0, .inr (7, [.int co0, .int (nI pr), .int (nI pB), .int (nI pC), .int (nI pO), .int (nI n), .ref a0, .int (nI rn), .ref a1, .int (nI ct), .int fa, .int fl, .int (nI sk), .int (nI cm), .ref a2, .int u, .int (nI w), .ref a3, .int jo, .int gr, .ref a4, .long tt, .long tg])), (a0, .inl (cy 1, 64, .inl df)), (a1, .inl (cy 1, 80, .inl rf)), (a2, .inl (cy 1, 70, .inl tf)), (a3, .inl (cy 1, 10, .inl lf)), (a4, .inl (cy 2, 6, .inl bf))]) (va_A [(h0, .inr (7, [.int co0, .int (nI pr), .int (nI pB), .int (nI pC), .int (nI pO), .int (nI n), .ref a0, .int (nI rn), .ref a1, .int (nI ct), .int fa, .int fl, .int (nI sk), .int (nI cm), .ref a2, .int cbf, .int (nI w), .ref a3, .int jo, .int gr, .ref a4, .long tt, .long tg])), (a0, .inl (cy 1, 64, .inl df)), (a1, .inl (cy 1, 80, .inl rf)), (a2, .inl (cy 1, 70, .inl tf)), (a3, .inl (cy 1, 10, .inl lf)), (a4, .inl (cy 2, 6, .inl bf))] sz)) 0 0 (va_A [(h0, .inr (7, [.int co0, .int (nI pr), .int (nI pB), .int (nI pC), .int (nI pO), .int (nI n), .ref a0, .int (nI rn), .ref a1, .int (nI ct), .int fa, .int fl, .int (nI sk), .int (nI cm), .ref a2, .int cbf, .int (nI w), .ref a3, .int jo, .int gr, .ref a4, .long tt, .long tg])), (a0, .inl (cy 1, 64, .inl df)), (a1, .inl (cy 1, 80, .inl rf)), (a2, .inl (cy 1, 70, .inl tf)), (a3, .inl (cy 1, 10, .inl lf)), (a4, .inl (cy 2, 6, .inl bf))] sz) := by
  refine Met.ofW (cc := cX6_find) (maxL := 11) (ret := (some .int)) (by decide) rfl ?_
  intro p e s m args below meth c s₁ B hml hv
  obtain ⟨rfl, hsz, hP, hkk, hD0⟩ := hv
  have hx := B.exec
  have hb := B.bytes
  have hr := B.returns
  have hts := atoms_spec (ws := wsX6_find) B.pre
  have hown : s.vm.findClass RX6 = some m.cls := findClass_of_methodNamed B.named
  have hlocks := B.notSynchronized
  have hin : meth.name = _ := (name_of_methodNamed B.named B.method).1
  have hK := hkk.1
  subst hsz
  have hD := hD0.self (sz := s.heap.size)
  generalize hAe : va_A [(h0, .inr (7, [.int co0, .int (nI pr), .int (nI pB), .int (nI pC), .int (nI pO), .int (nI n), .ref a0, .int (nI rn), .ref a1, .int (nI ct), .int fa, .int fl, .int (nI sk), .int (nI cm), .ref a2, .int cbf, .int (nI w), .ref a3, .int jo, .int gr, .ref a4, .long tt, .long tg])), (a0, .inl (cy 1, 64, .inl df)), (a1, .inl (cy 1, 80, .inl rf)), (a2, .inl (cy 1, 70, .inl tf)), (a3, .inl (cy 1, 10, .inl lf)), (a4, .inl (cy 2, 6, .inl bf))] s.heap.size = A at hD ⊢
  have hA : ∀ q : Nat, s.heap.size ≤ q → A q := fun q h => by rw [← hAe]; exact Or.inr h
  have hS : va_S A s.heap s.heap [] := va_S.rf
  have hP : va_P D vwCl [(h0, .inr (7, [.int co0, .int (nI pr), .int (nI pB), .int (nI pC), .int (nI pO), .int (nI n), .ref a0, .int (nI rn), .ref a1, .int (nI ct), .int fa, .int fl, .int (nI sk), .int (nI cm), .ref a2, .int cbf, .int (nI w), .ref a3, .int jo, .int gr, .ref a4, .long tt, .long tg])), (a0, .inl (cy 1, 64, .inl df)), (a1, .inl (cy 1, 80, .inl rf)), (a2, .inl (cy 1, 70, .inl tf)), (a3, .inl (cy 1, 10, .inl lf)), (a4, .inl (cy 2, 6, .inl bf))] s.heap := hP
  have hl := lv_entry ([.ref h0, .int (nI d)]) (n := 11) (Nat.le_of_ble_eq_true rfl)
  rw [lg_entry_eq]
  generalize (lg_sl ([.ref h0, .int (nI d)]) ++ List.replicate (11 - (lg_sl ([.ref h0, .int (nI d)])).length) Slot.unset).toArray = ls at hl ⊢
  have hl : lv_has ls 11 [(0, .ref h0), (1, .int (nI d))] := hl
  have hpv := mpr_pvd hmp
  have h8 := isB_8 hpv.1
  have hO2 := hpv.2.2.2.2.2.2
  have hC9 := hpv.2.2.2.2.2.1
  have hC0 := hpv.2.2.2.2.1
  refine lv_aload_n hx hb dX6_find_0 rfl (lv_at hl 0 rfl) ?_
  refine va_get (D := D) (ci := 7) (v := .int (nI pB)) (C := RX6) (T := TX6) (N := 23) hx hb hts iw_X6_find_X6 hown hK hP 0 rfl rfl 2 (by decide) (hts _ lk_X6_find_f36) (fun _ h9 => h9) rfl dX6_find_1 ?_
  refine lv_bipush (v := 8) hx hb dX6_find_4 (by decide) ?_
  refine lv_idiv hx hb dX6_find_6 (by decide) ?_
  refine lv_topi (fun x_6 ex_6 => ?_)
  obtain rfl : x_6 = nI (pB / 8) := by rw [ex_6]; exact pk_div (by omega) (by decide) (by decide)
  refine lv_istore_n (lv' := [(2, .int (nI (pB / 8))), (0, .ref h0), (1, .int (nI d))]) hx hb dX6_find_7 rfl hl (by decide) rfl (fun ls hl => ?_)
  refine lv_aload_n hx hb dX6_find_8 rfl (lv_at hl 1 rfl) ?_
  refine va_get (D := D) (ci := 7) (v := .int (nI cm)) (C := RX6) (T := TX6) (N := 23) hx hb hts iw_X6_find_X6 hown hK hP 0 rfl rfl 13 (by decide) (hts _ lk_X6_find_f87) (fun _ h9 => h9) rfl dX6_find_9 ?_
  refine lv_iload_n hx hb dX6_find_12 rfl (lv_at hl 0 rfl) ?_
  refine lv_isub hx hb dX6_find_13 ?_
  refine lv_istore_n (lv' := [(3, .int ((nI cm) - (nI (pB / 8)))), (2, .int (nI (pB / 8))), (0, .ref h0), (1, .int (nI d))]) hx hb dX6_find_14 rfl hl (by decide) rfl (fun ls hl => ?_)
  refine lv_aload_n hx hb dX6_find_15 rfl (lv_at hl 2 rfl) ?_
  refine va_get (D := D) (ci := 7) (v := .int (nI cm)) (C := RX6) (T := TX6) (N := 23) hx hb hts iw_X6_find_X6 hown hK hP 0 rfl rfl 13 (by decide) (hts _ lk_X6_find_f87) (fun _ h9 => h9) rfl dX6_find_16 ?_
  refine lv_bipush (v := 70) hx hb dX6_find_19 (by decide) ?_
  refine lv_icmp_gt (tgt := 32) hx hb dX6_find_21 (by decide) (fun c_21 => ?_) (fun c_21 => ?_)
  · have h71 : cm = 71 := by rw [i32_70] at c_21; have := (nI_ltI (by decide) (by omega)).mp c_21; omega
    refine lv_iconst (v := 4) hx hb dX6_find_32 (by decide) ?_
    have hP9 := hP.sub (ws' := [(h0, .inr (7, [.int co0, .int (nI pr), .int (nI pB), .int (nI pC), .int (nI pO), .int (nI n), .ref a0, .int (nI rn), .ref a1, .int (nI ct), .int fa, .int fl, .int (nI sk), .int (nI cm), .ref a2, .int cbf, .int (nI w), .ref a3, .int jo, .int gr, .ref a4, .long tt, .long tg])), (a0, .inl (cy 1, 64, .inl df)), (a1, .inl (cy 1, 80, .inl rf)), (a2, .inl (cy 1, 70, .inl tf)), (a3, .inl (cy 1, 10, .inl lf)), (a4, .inl (cy 2, 6, .inl bf))]) [0, 1, 2, 3, 4, 5] rfl
    have hD9 := hD.sub (ws' := [(h0, .inr (7, [.int co0, .int (nI pr), .int (nI pB), .int (nI pC), .int (nI pO), .int (nI n), .ref a0, .int (nI rn), .ref a1, .int (nI ct), .int fa, .int fl, .int (nI sk), .int (nI cm), .ref a2, .int cbf, .int (nI w), .ref a3, .int jo, .int gr, .ref a4, .long tt, .long tg])), (a0, .inl (cy 1, 64, .inl df)), (a1, .inl (cy 1, 80, .inl rf)), (a2, .inl (cy 1, 70, .inl tf)), (a3, .inl (cy 1, 10, .inl lf)), (a4, .inl (cy 2, 6, .inl bf))]) [0, 1, 2, 3, 4, 5] (by decide) rfl
    exact W.iret (v := 4) hx hb hr (fun t ht hW => ⟨⟨4, cbf, rfl, mf_no (mf_1 (Or.inl (by rw [tmf, if_pos (by omega)]; decide))), by rw [ht]; exact hP9, hD9⟩, hS.F ht⟩) hS.2.2 dX6_find_33
  · have h70 : cm ≤ 70 := by rw [i32_70] at c_21; exact Nat.not_lt.mp fun q => c_21 (nI_lt q (by omega))
    refine lv_iload_n hx hb dX6_find_24 rfl (lv_at hl 0 rfl) ?_
    refine lv_aload_n hx hb dX6_find_25 rfl (lv_at hl 2 rfl) ?_
    refine va_get (D := D) (ci := 7) (v := .int (nI pO)) (C := RX6) (T := TX6) (N := 23) hx hb hts iw_X6_find_X6 hown hK hP 0 rfl rfl 4 (by decide) (hts _ lk_X6_find_f43) (fun _ h9 => h9) rfl dX6_find_26 ?_
    refine lv_icmp_ge (tgt := 34) hx hb dX6_find_29 (by decide) (fun c_29 => ?_) (fun c_29 => ?_)
    · have hc70 : cm ≤ 70 := h70
      have h36 : pB / 8 + pO ≤ cm := (rc_cmp hc70 h8.2.1 hO2.2).mp c_29
      rw [pk_sub (by omega)] at hl
      have hmn : min cm 70 = cm := Nat.min_eq_left hc70
      have hg2 := hg
      rw [hmn] at hg2
      refine lv_aload_n hx hb dX6_find_34 rfl (lv_at hl 2 rfl) ?_
      refine lv_iload_n hx hb dX6_find_35 rfl (lv_at hl 3 rfl) ?_
      have hPc := hP.sub (ws' := [(h0, .inr (7, [.int co0, .int (nI pr), .int (nI pB), .int (nI pC), .int (nI pO), .int (nI n), .ref a0, .int (nI rn), .ref a1, .int (nI ct), .int fa, .int fl, .int (nI sk), .int (nI cm), .ref a2, .int cbf, .int (nI w), .ref a3, .int jo, .int gr, .ref a4, .long tt, .long tg])), (a0, .inl (cy 1, 64, .inl df)), (a1, .inl (cy 1, 80, .inl rf)), (a2, .inl (cy 1, 70, .inl tf)), (a3, .inl (cy 1, 10, .inl lf)), (a4, .inl (cy 2, 6, .inl bf))]) [0, 1, 2, 3, 4, 5] rfl
      have hDc := hD.sub (ws' := [(h0, .inr (7, [.int co0, .int (nI pr), .int (nI pB), .int (nI pC), .int (nI pO), .int (nI n), .ref a0, .int (nI rn), .ref a1, .int (nI ct), .int fa, .int fl, .int (nI sk), .int (nI cm), .ref a2, .int cbf, .int (nI w), .ref a3, .int jo, .int gr, .ref a4, .long tt, .long tg])), (a0, .inl (cy 1, 64, .inl df)), (a1, .inl (cy 1, 80, .inl rf)), (a2, .inl (cy 1, 70, .inl tf)), (a3, .inl (cy 1, 10, .inl lf)), (a4, .inl (cy 2, 6, .inl bf))]) [0, 1, 2, 3, 4, 5] (by decide) rfl
      have hFc := va_free (wc := [(h0, .inr (7, [.int co0, .int (nI pr), .int (nI pB), .int (nI pC), .int (nI pO), .int (nI n), .ref a0, .int (nI rn), .ref a1, .int (nI ct), .int fa, .int fl, .int (nI sk), .int (nI cm), .ref a2, .int cbf, .int (nI w), .ref a3, .int jo, .int gr, .ref a4, .long tt, .long tg])), (a0, .inl (cy 1, 64, .inl df)), (a1, .inl (cy 1, 80, .inl rf)), (a2, .inl (cy 1, 70, .inl tf)), (a3, .inl (cy 1, 10, .inl lf)), (a4, .inl (cy 2, 6, .inl bf))]) hD hS hA [0, 1, 2, 3, 4, 5] rfl
      refine va_calll (va_runV (As := [.int (nI d)]) (rest := []) ⟨hx, hb, hml, hown, hts⟩ (c_X6_begin l D cy s.heap.size h0 a0 a1 a2 a3 a4 co0 pr pB pS pG pE pC pO n df rn rf ct fa fl sk cm tf cbf w lf jo gr bf tt tg d (by first | assumption | omega) (by first | assumption | omega)) (cwV 1 hts gX6_find_X6_begin rfl rfl rfl (by decide +kernel) ⟨Nat.le_of_ble_eq_true rfl, Nat.le_of_ble_eq_true rfl⟩) (pv_V (ci := 7) (q := (RX6, TX6, 23)) hkk hPc hDc rfl rfl rfl) rfl rfl hl.1 rfl (lv_room (Nat.le_of_ble_eq_true rfl)) dX6_find_36 ⟨Nat.le_of_ble_eq_true rfl, Nat.le_of_ble_eq_true rfl⟩) hS (fun q _ h => hFc q h) hFc (fun r_36 u t H1 locs ht hvm hw hB hz1 hk1 hS => ?_)
      obtain ⟨hP1, hD1⟩ := hB
      rw [ht] at hP1
      try dsimp only at hw hP1 hD1
      obtain ⟨hP, hD⟩ := va_join (wr := []) (w1 := [(h0, .inr (7, [.int co0, .int (nI pr), .int (nI pB), .int (nI pC), .int (nI pO), .int (nI n), .ref a0, .int (nI rn), .ref a1, .int (nI ct), .int fa, .int fl, .int (nI sk), .int (nI cm), .ref a2, .int cbf, .int (nI w), .ref a3, .int jo, .int gr, .ref a4, .long tt, .long tg])), (a0, .inl (cy 1, 64, .inl df)), (a1, .inl (cy 1, 80, .inl rf)), (a2, .inl (cy 1, 70, .inl tf)), (a3, .inl (cy 1, 10, .inl lf)), (a4, .inl (cy 2, 6, .inl bf))]) hP hD [0, 1, 2, 3, 4, 5] [] rfl rfl (by decide) (by decide) hk1 hFc hP1 hD1
      clear hPc hDc hFc hP1 hD1 hz1 hk1
      generalize H1 = H at hP hS ⊢
      have hP : va_P D vwCl [(h0, .inr (7, [.int co0, .int (nI pr), .int (nI pB), .int (nI pC), .int (nI pO), .int (nI n), .ref a0, .int (nI rn), .ref a1, .int (nI ct), .int fa, .int fl, .int (nI sk), .int (nI cm), .ref a2, .int cbf, .int (nI w), .ref a3, .int jo, .int gr, .ref a4, .long tt, .long tg])), (a0, .inl (cy 1, 64, .inl df)), (a1, .inl (cy 1, 80, .inl rf)), (a2, .inl (cy 1, 70, .inl tf)), (a3, .inl (cy 1, 10, .inl lf)), (a4, .inl (cy 2, 6, .inl bf))] H := hP
      have hD : va_D A [(h0, .inr (7, [.int co0, .int (nI pr), .int (nI pB), .int (nI pC), .int (nI pO), .int (nI n), .ref a0, .int (nI rn), .ref a1, .int (nI ct), .int fa, .int fl, .int (nI sk), .int (nI cm), .ref a2, .int cbf, .int (nI w), .ref a3, .int jo, .int gr, .ref a4, .long tt, .long tg])), (a0, .inl (cy 1, 64, .inl df)), (a1, .inl (cy 1, 80, .inl rf)), (a2, .inl (cy 1, 70, .inl tf)), (a3, .inl (cy 1, 10, .inl lf)), (a4, .inl (cy 2, 6, .inl bf))] := hD
      obtain rfl := hw
      refine lv_topl (fun x_36 ex_36 => ?_)
      obtain rfl : x_36 = lN (cs pB pS g (co pB pS d 8 (co pB pS (d / 256) 8 pG)) 0) := by rw [ex_36]; exact congrArg lN cs_0.symm
      refine lv_lstore (lv' := [(4, .long (lN (cs pB pS g (co pB pS d 8 (co pB pS (d / 256) 8 pG)) 0))), (3, .int (nI (cm - pB / 8))), (2, .int (nI (pB / 8))), (0, .ref h0), (1, .int (nI d))]) hx hb dX6_find_39 hl (by decide) rfl (fun ls hl => ?_)
      refine lv_iconst (v := 0) hx hb dX6_find_41 (by decide) ?_
      refine lv_topi (fun x_41 ex_41 => ?_)
      obtain rfl : x_41 = nI 0 := by rw [ex_41]; exact nI_0.symm
      refine lv_istore (lv' := [(6, .int (nI 0)), (4, .long (lN (cs pB pS g (co pB pS d 8 (co pB pS (d / 256) 8 pG)) 0))), (3, .int (nI (cm - pB / 8))), (2, .int (nI (pB / 8))), (0, .ref h0), (1, .int (nI d))]) hx hb dX6_find_42 hl (by decide) rfl (fun ls hl => ?_)
      have cut_44 : ∀ (N : Nat) (k : Nat) (H : Heap) (locs : List Loc), cm - pB / 8 - k < N → k ≤ cm - pB / 8 → va_P D vwCl [(h0, .inr (7, [.int co0, .int (nI pr), .int (nI pB), .int (nI pC), .int (nI pO), .int (nI n), .ref a0, .int (nI rn), .ref a1, .int (nI ct), .int fa, .int fl, .int (nI sk), .int (nI cm), .ref a2, .int cbf, .int (nI w), .ref a3, .int jo, .int gr, .ref a4, .long tt, .long tg])), (a0, .inl (cy 1, 64, .inl df)), (a1, .inl (cy 1, 80, .inl rf)), (a2, .inl (cy 1, 70, .inl tf)), (a3, .inl (cy 1, 10, .inl lf)), (a4, .inl (cy 2, 6, .inl bf))] H → va_D A [(h0, .inr (7, [.int co0, .int (nI pr), .int (nI pB), .int (nI pC), .int (nI pO), .int (nI n), .ref a0, .int (nI rn), .ref a1, .int (nI ct), .int fa, .int fl, .int (nI sk), .int (nI cm), .ref a2, .int cbf, .int (nI w), .ref a3, .int jo, .int gr, .ref a4, .long tt, .long tg])), (a0, .inl (cy 1, 64, .inl df)), (a1, .inl (cy 1, 80, .inl rf)), (a2, .inl (cy 1, 70, .inl tf)), (a3, .inl (cy 1, 10, .inl lf)), (a4, .inl (cy 2, 6, .inl bf))] → va_S A s.heap H locs → ∀ (ls : Array Slot), lv_has ls 11 [(0, .ref h0), (1, .int (nI d)), (3, .int (nI (cm - pB / 8))), (4, .long (lN (cs pB pS g (co pB pS d 8 (co pB pS (d / 256) 8 pG)) k))), (6, .int (nI k))] → W p l e (headSpec wsX6_find ({ frames := 2, cells := 0, slots := 0, locals := 55 } : Room)).room s m [.ref h0, .int (nI d)].toArray below meth c H locs 0 0 (MQ below (va_Qi (fun (r : Int32) (u : (Int32)) => (mfnd pB pS pG pE pC pO d cm g cbf r u)) (fun u t => va_P D vwCl [(h0, .inr (7, [.int co0, .int (nI pr), .int (nI pB), .int (nI pC), .int (nI pO), .int (nI n), .ref a0, .int (nI rn), .ref a1, .int (nI ct), .int fa, .int fl, .int (nI sk), .int (nI cm), .ref a2, .int u, .int (nI w), .ref a3, .int jo, .int gr, .ref a4, .long tt, .long tg])), (a0, .inl (cy 1, 64, .inl df)), (a1, .inl (cy 1, 80, .inl rf)), (a2, .inl (cy 1, 70, .inl tf)), (a3, .inl (cy 1, 10, .inl lf)), (a4, .inl (cy 2, 6, .inl bf))] t.heap ∧ va_D A [(h0, .inr (7, [.int co0, .int (nI pr), .int (nI pB), .int (nI pC), .int (nI pO), .int (nI n), .ref a0, .int (nI rn), .ref a1, .int (nI ct), .int fa, .int fl, .int (nI sk), .int (nI cm), .ref a2, .int u, .int (nI w), .ref a3, .int jo, .int gr, .ref a4, .long tt, .long tg])), (a0, .inl (cy 1, 64, .inl df)), (a1, .inl (cy 1, 80, .inl rf)), (a2, .inl (cy 1, 70, .inl tf)), (a3, .inl (cy 1, 10, .inl lf)), (a4, .inl (cy 2, 6, .inl bf))]) A) [.ref h0, .int (nI d)].toArray s 0 0 A) (F0 m 44 ls []) := by
        intro N
        induction N with
        | zero => intro k H locs hN; exact absurd hN (Nat.not_lt_zero _)
        | succ N ih =>
          intro k H locs hN hk hP hD hS ls hl
          refine lv_iload hx hb dX6_find_44 (lv_at hl 4 rfl) ?_
          refine lv_iload_n hx hb dX6_find_46 rfl (lv_at hl 2 rfl) ?_
          refine lv_icmp_ge (tgt := 71) hx hb dX6_find_47 (by decide) (fun c_47 => ?_) (fun c_47 => ?_)
          · obtain rfl : k = cm - pB / 8 := Nat.le_antisymm hk ((oc_ltN (by omega) (by omega)).mp c_47)
            refine lv_lconst (v := 0) hx hb dX6_find_71 (by decide) ?_
            refine lv_topl (fun x_71 ex_71 => ?_)
            obtain rfl : x_71 = lN (be g (cm - pB / 8) 0) := by rw [ex_71]; rw [be_0]; exact lN_0.symm
            refine lv_lstore (lv' := [(6, .long (lN (be g (cm - pB / 8) 0))), (0, .ref h0), (1, .int (nI d)), (3, .int (nI (cm - pB / 8))), (4, .long (lN (cs pB pS g (co pB pS d 8 (co pB pS (d / 256) 8 pG)) (cm - pB / 8))))]) hx hb dX6_find_72 hl (by decide) rfl (fun ls hl => ?_)
            refine lv_iload_n hx hb dX6_find_74 rfl (lv_at hl 3 rfl) ?_
            refine lv_istore (lv' := [(8, .int (nI (cm - pB / 8))), (6, .long (lN (be g (cm - pB / 8) 0))), (0, .ref h0), (1, .int (nI d)), (3, .int (nI (cm - pB / 8))), (4, .long (lN (cs pB pS g (co pB pS d 8 (co pB pS (d / 256) 8 pG)) (cm - pB / 8))))]) hx hb dX6_find_75 hl (by decide) rfl (fun ls hl => ?_)
            have cut_77 : ∀ (N : Nat) (t9 : Nat) (H : Heap) (locs : List Loc), pB / 8 - t9 < N → t9 ≤ pB / 8 → va_P D vwCl [(h0, .inr (7, [.int co0, .int (nI pr), .int (nI pB), .int (nI pC), .int (nI pO), .int (nI n), .ref a0, .int (nI rn), .ref a1, .int (nI ct), .int fa, .int fl, .int (nI sk), .int (nI cm), .ref a2, .int cbf, .int (nI w), .ref a3, .int jo, .int gr, .ref a4, .long tt, .long tg])), (a0, .inl (cy 1, 64, .inl df)), (a1, .inl (cy 1, 80, .inl rf)), (a2, .inl (cy 1, 70, .inl tf)), (a3, .inl (cy 1, 10, .inl lf)), (a4, .inl (cy 2, 6, .inl bf))] H → va_D A [(h0, .inr (7, [.int co0, .int (nI pr), .int (nI pB), .int (nI pC), .int (nI pO), .int (nI n), .ref a0, .int (nI rn), .ref a1, .int (nI ct), .int fa, .int fl, .int (nI sk), .int (nI cm), .ref a2, .int cbf, .int (nI w), .ref a3, .int jo, .int gr, .ref a4, .long tt, .long tg])), (a0, .inl (cy 1, 64, .inl df)), (a1, .inl (cy 1, 80, .inl rf)), (a2, .inl (cy 1, 70, .inl tf)), (a3, .inl (cy 1, 10, .inl lf)), (a4, .inl (cy 2, 6, .inl bf))] → va_S A s.heap H locs → ∀ (ls : Array Slot), lv_has ls 11 [(0, .ref h0), (4, .long (lN (cs pB pS g (co pB pS d 8 (co pB pS (d / 256) 8 pG)) (cm - pB / 8)))), (6, .long (lN (be g (cm - pB / 8) t9))), (8, .int (nI (cm - pB / 8 + t9)))] → W p l e (headSpec wsX6_find ({ frames := 2, cells := 0, slots := 0, locals := 55 } : Room)).room s m [.ref h0, .int (nI d)].toArray below meth c H locs 0 0 (MQ below (va_Qi (fun (r : Int32) (u : (Int32)) => (mfnd pB pS pG pE pC pO d cm g cbf r u)) (fun u t => va_P D vwCl [(h0, .inr (7, [.int co0, .int (nI pr), .int (nI pB), .int (nI pC), .int (nI pO), .int (nI n), .ref a0, .int (nI rn), .ref a1, .int (nI ct), .int fa, .int fl, .int (nI sk), .int (nI cm), .ref a2, .int u, .int (nI w), .ref a3, .int jo, .int gr, .ref a4, .long tt, .long tg])), (a0, .inl (cy 1, 64, .inl df)), (a1, .inl (cy 1, 80, .inl rf)), (a2, .inl (cy 1, 70, .inl tf)), (a3, .inl (cy 1, 10, .inl lf)), (a4, .inl (cy 2, 6, .inl bf))] t.heap ∧ va_D A [(h0, .inr (7, [.int co0, .int (nI pr), .int (nI pB), .int (nI pC), .int (nI pO), .int (nI n), .ref a0, .int (nI rn), .ref a1, .int (nI ct), .int fa, .int fl, .int (nI sk), .int (nI cm), .ref a2, .int u, .int (nI w), .ref a3, .int jo, .int gr, .ref a4, .long tt, .long tg])), (a0, .inl (cy 1, 64, .inl df)), (a1, .inl (cy 1, 80, .inl rf)), (a2, .inl (cy 1, 70, .inl tf)), (a3, .inl (cy 1, 10, .inl lf)), (a4, .inl (cy 2, 6, .inl bf))]) A) [.ref h0, .int (nI d)].toArray s 0 0 A) (F0 m 77 ls []) := by
              intro N
              induction N with
              | zero => intro t9 H locs hN; exact absurd hN (Nat.not_lt_zero _)
              | succ N ih =>
                intro t9 H locs hN ht9 hP hD hS ls hl
                refine lv_iload hx hb dX6_find_77 (lv_at hl 3 rfl) ?_
                refine lv_aload_n hx hb dX6_find_79 rfl (lv_at hl 0 rfl) ?_
                refine va_get (D := D) (ci := 7) (v := .int (nI cm)) (C := RX6) (T := TX6) (N := 23) hx hb hts iw_X6_find_X6 hown hK hP 0 rfl rfl 13 (by decide) (hts _ lk_X6_find_f87) (fun _ h9 => h9) rfl dX6_find_80 ?_
                refine lv_icmp_ge (tgt := 109) hx hb dX6_find_83 (by decide) (fun c_83 => ?_) (fun c_83 => ?_)
                · have hqq : cm ≤ cm - pB / 8 + t9 := (oc_ltN (by omega) (by omega)).mp c_83
                  obtain rfl : t9 = pB / 8 := by omega
                  have hbe : be g (cm - pB / 8) (pB / 8) < 2 ^ 32 := isB_32 hpv.1 (h8.2.2 ▸ be_lt (fun j hj => (hg2 _ (by omega)).2))
                  have hck : ck pB pS pG pE d g (cm - pB / 8) < 2 ^ 32 := isB_32 hpv.1 (ck_lt hpv.2.1 hpv.2.2.1 hpv.2.2.2.1)
                  have hbe0 : be g 0 pO < 2 ^ 31 := Nat.lt_of_lt_of_le (be_lt (fun j hj => (hg2 _ (by omega)).2)) (Nat.le_trans (Nat.pow_le_pow_right (by decide) hO2.2) (by decide))
                  have hcl := cs_lt (g := g) hpv.2.1 (co_lt (o := d) hpv.2.1 8 _ (co_lt (o := d / 256) hpv.2.1 8 _ hpv.2.2.1)) (cm - pB / 8)
                  refine lv_aload_n hx hb dX6_find_109 rfl (lv_at hl 0 rfl) ?_
                  have cut_143 : ∀  (H : Heap) (locs : List Loc), va_P D vwCl [(h0, .inr (7, [.int co0, .int (nI pr), .int (nI pB), .int (nI pC), .int (nI pO), .int (nI n), .ref a0, .int (nI rn), .ref a1, .int (nI ct), .int fa, .int fl, .int (nI sk), .int (nI cm), .ref a2, .int cbf, .int (nI w), .ref a3, .int jo, .int gr, .ref a4, .long tt, .long tg])), (a0, .inl (cy 1, 64, .inl df)), (a1, .inl (cy 1, 80, .inl rf)), (a2, .inl (cy 1, 70, .inl tf)), (a3, .inl (cy 1, 10, .inl lf)), (a4, .inl (cy 2, 6, .inl bf))] H → va_D A [(h0, .inr (7, [.int co0, .int (nI pr), .int (nI pB), .int (nI pC), .int (nI pO), .int (nI n), .ref a0, .int (nI rn), .ref a1, .int (nI ct), .int fa, .int fl, .int (nI sk), .int (nI cm), .ref a2, .int cbf, .int (nI w), .ref a3, .int jo, .int gr, .ref a4, .long tt, .long tg])), (a0, .inl (cy 1, 64, .inl df)), (a1, .inl (cy 1, 80, .inl rf)), (a2, .inl (cy 1, 70, .inl tf)), (a3, .inl (cy 1, 10, .inl lf)), (a4, .inl (cy 2, 6, .inl bf))] → va_S A s.heap H locs → ∀ (ls : Array Slot), lv_has ls 11 [(0, .ref h0), (4, .long (lN (cs pB pS g (co pB pS d 8 (co pB pS (d / 256) 8 pG)) (cm - pB / 8)))), (6, .long (lN (be g (cm - pB / 8) (pB / 8))))] → W p l e (headSpec wsX6_find ({ frames := 2, cells := 0, slots := 0, locals := 55 } : Room)).room s m [.ref h0, .int (nI d)].toArray below meth c H locs 0 0 (MQ below (va_Qi (fun (r : Int32) (u : (Int32)) => (mfnd pB pS pG pE pC pO d cm g cbf r u)) (fun u t => va_P D vwCl [(h0, .inr (7, [.int co0, .int (nI pr), .int (nI pB), .int (nI pC), .int (nI pO), .int (nI n), .ref a0, .int (nI rn), .ref a1, .int (nI ct), .int fa, .int fl, .int (nI sk), .int (nI cm), .ref a2, .int u, .int (nI w), .ref a3, .int jo, .int gr, .ref a4, .long tt, .long tg])), (a0, .inl (cy 1, 64, .inl df)), (a1, .inl (cy 1, 80, .inl rf)), (a2, .inl (cy 1, 70, .inl tf)), (a3, .inl (cy 1, 10, .inl lf)), (a4, .inl (cy 2, 6, .inl bf))] t.heap ∧ va_D A [(h0, .inr (7, [.int co0, .int (nI pr), .int (nI pB), .int (nI pC), .int (nI pO), .int (nI n), .ref a0, .int (nI rn), .ref a1, .int (nI ct), .int fa, .int fl, .int (nI sk), .int (nI cm), .ref a2, .int u, .int (nI w), .ref a3, .int jo, .int gr, .ref a4, .long tt, .long tg])), (a0, .inl (cy 1, 64, .inl df)), (a1, .inl (cy 1, 80, .inl rf)), (a2, .inl (cy 1, 70, .inl tf)), (a3, .inl (cy 1, 10, .inl lf)), (a4, .inl (cy 2, 6, .inl bf))]) A) [.ref h0, .int (nI d)].toArray s 0 0 A) (F0 m 143 ls [.int (nI (be g 0 pO))]) := by
                    intro  H locs  hP hD hS ls hl
                    refine lv_istore (lv' := [(8, .int (nI (be g 0 pO))), (0, .ref h0), (4, .long (lN (cs pB pS g (co pB pS d 8 (co pB pS (d / 256) 8 pG)) (cm - pB / 8)))), (6, .long (lN (be g (cm - pB / 8) (pB / 8))))]) hx hb dX6_find_143 hl (by decide) rfl (fun ls hl => ?_)
                    refine lv_lload hx hb dX6_find_145 (lv_at hl 3 rfl) ?_
                    refine lv_aload_n hx hb dX6_find_147 rfl (lv_at hl 1 rfl) ?_
                    refine lv_lload hx hb dX6_find_148 (lv_at hl 2 rfl) ?_
                    have hPc := hP.sub (ws' := [(h0, .inr (7, [.int co0, .int (nI pr), .int (nI pB), .int (nI pC), .int (nI pO), .int (nI n), .ref a0, .int (nI rn), .ref a1, .int (nI ct), .int fa, .int fl, .int (nI sk), .int (nI cm), .ref a2, .int cbf, .int (nI w), .ref a3, .int jo, .int gr, .ref a4, .long tt, .long tg])), (a0, .inl (cy 1, 64, .inl df)), (a1, .inl (cy 1, 80, .inl rf)), (a2, .inl (cy 1, 70, .inl tf)), (a3, .inl (cy 1, 10, .inl lf)), (a4, .inl (cy 2, 6, .inl bf))]) [0, 1, 2, 3, 4, 5] rfl
                    have hDc := hD.sub (ws' := [(h0, .inr (7, [.int co0, .int (nI pr), .int (nI pB), .int (nI pC), .int (nI pO), .int (nI n), .ref a0, .int (nI rn), .ref a1, .int (nI ct), .int fa, .int fl, .int (nI sk), .int (nI cm), .ref a2, .int cbf, .int (nI w), .ref a3, .int jo, .int gr, .ref a4, .long tt, .long tg])), (a0, .inl (cy 1, 64, .inl df)), (a1, .inl (cy 1, 80, .inl rf)), (a2, .inl (cy 1, 70, .inl tf)), (a3, .inl (cy 1, 10, .inl lf)), (a4, .inl (cy 2, 6, .inl bf))]) [0, 1, 2, 3, 4, 5] (by decide) rfl
                    have hFc := va_free (wc := [(h0, .inr (7, [.int co0, .int (nI pr), .int (nI pB), .int (nI pC), .int (nI pO), .int (nI n), .ref a0, .int (nI rn), .ref a1, .int (nI ct), .int fa, .int fl, .int (nI sk), .int (nI cm), .ref a2, .int cbf, .int (nI w), .ref a3, .int jo, .int gr, .ref a4, .long tt, .long tg])), (a0, .inl (cy 1, 64, .inl df)), (a1, .inl (cy 1, 80, .inl rf)), (a2, .inl (cy 1, 70, .inl tf)), (a3, .inl (cy 1, 10, .inl lf)), (a4, .inl (cy 2, 6, .inl bf))]) hD hS hA [0, 1, 2, 3, 4, 5] rfl
                    refine va_calll (va_runV (As := [.long (lN (cs pB pS g (co pB pS d 8 (co pB pS (d / 256) 8 pG)) (cm - pB / 8)))]) (rest := [.long (lN (be g (cm - pB / 8) (pB / 8)))]) ⟨hx, hb, hml, hown, hts⟩ (c_X6_end l D cy H.size h0 a0 a1 a2 a3 a4 co0 pr pB pS pG pE pC pO n df rn rf ct fa fl sk cm tf cbf w lf jo gr bf tt tg (cs pB pS g (co pB pS d 8 (co pB pS (d / 256) 8 pG)) (cm - pB / 8)) (by first | assumption | omega) hcl) (cwV 1 hts gX6_find_X6_end rfl rfl rfl (by decide +kernel) ⟨Nat.le_of_ble_eq_true rfl, Nat.le_of_ble_eq_true rfl⟩) (pv_V (ci := 7) (q := (RX6, TX6, 23)) hkk hPc hDc rfl rfl rfl) rfl rfl hl.1 rfl (lv_room (Nat.le_of_ble_eq_true rfl)) dX6_find_150 ⟨Nat.le_of_ble_eq_true rfl, Nat.le_of_ble_eq_true rfl⟩) hS (fun q _ h => hFc q h) hFc (fun r_150 u t H1 locs ht hvm hw hB hz1 hk1 hS => ?_)
                    obtain ⟨hP1, hD1⟩ := hB
                    rw [ht] at hP1
                    try dsimp only at hw hP1 hD1
                    obtain ⟨hP, hD⟩ := va_join (wr := []) (w1 := [(h0, .inr (7, [.int co0, .int (nI pr), .int (nI pB), .int (nI pC), .int (nI pO), .int (nI n), .ref a0, .int (nI rn), .ref a1, .int (nI ct), .int fa, .int fl, .int (nI sk), .int (nI cm), .ref a2, .int cbf, .int (nI w), .ref a3, .int jo, .int gr, .ref a4, .long tt, .long tg])), (a0, .inl (cy 1, 64, .inl df)), (a1, .inl (cy 1, 80, .inl rf)), (a2, .inl (cy 1, 70, .inl tf)), (a3, .inl (cy 1, 10, .inl lf)), (a4, .inl (cy 2, 6, .inl bf))]) hP hD [0, 1, 2, 3, 4, 5] [] rfl rfl (by decide) (by decide) hk1 hFc hP1 hD1
                    clear hPc hDc hFc hP1 hD1 hz1 hk1
                    generalize H1 = H at hP hS ⊢
                    have hP : va_P D vwCl [(h0, .inr (7, [.int co0, .int (nI pr), .int (nI pB), .int (nI pC), .int (nI pO), .int (nI n), .ref a0, .int (nI rn), .ref a1, .int (nI ct), .int fa, .int fl, .int (nI sk), .int (nI cm), .ref a2, .int cbf, .int (nI w), .ref a3, .int jo, .int gr, .ref a4, .long tt, .long tg])), (a0, .inl (cy 1, 64, .inl df)), (a1, .inl (cy 1, 80, .inl rf)), (a2, .inl (cy 1, 70, .inl tf)), (a3, .inl (cy 1, 10, .inl lf)), (a4, .inl (cy 2, 6, .inl bf))] H := hP
                    have hD : va_D A [(h0, .inr (7, [.int co0, .int (nI pr), .int (nI pB), .int (nI pC), .int (nI pO), .int (nI n), .ref a0, .int (nI rn), .ref a1, .int (nI ct), .int fa, .int fl, .int (nI sk), .int (nI cm), .ref a2, .int cbf, .int (nI w), .ref a3, .int jo, .int gr, .ref a4, .long tt, .long tg])), (a0, .inl (cy 1, 64, .inl df)), (a1, .inl (cy 1, 80, .inl rf)), (a2, .inl (cy 1, 70, .inl tf)), (a3, .inl (cy 1, 10, .inl lf)), (a4, .inl (cy 2, 6, .inl bf))] := hD
                    obtain rfl := hw
                    refine lv_topl (fun x_150 ex_150 => ?_)
                    obtain rfl : x_150 = lN (ck pB pS pG pE d g (cm - pB / 8)) := by rw [ex_150]; exact congrArg lN ck_eq.symm
                    refine W.lcmp hx hb dX6_find_153 ?_
                    refine lv_if_ne (tgt := 166) hx hb dX6_find_154 (by decide) (fun c_154 => ?_) (fun c_154 => ?_)
                    · refine lv_iconst (v := 4) hx hb dX6_find_166 (by decide) ?_
                      have hP9 := hP.sub (ws' := [(h0, .inr (7, [.int co0, .int (nI pr), .int (nI pB), .int (nI pC), .int (nI pO), .int (nI n), .ref a0, .int (nI rn), .ref a1, .int (nI ct), .int fa, .int fl, .int (nI sk), .int (nI cm), .ref a2, .int cbf, .int (nI w), .ref a3, .int jo, .int gr, .ref a4, .long tt, .long tg])), (a0, .inl (cy 1, 64, .inl df)), (a1, .inl (cy 1, 80, .inl rf)), (a2, .inl (cy 1, 70, .inl tf)), (a3, .inl (cy 1, 10, .inl lf)), (a4, .inl (cy 2, 6, .inl bf))]) [0, 1, 2, 3, 4, 5] rfl
                      have hD9 := hD.sub (ws' := [(h0, .inr (7, [.int co0, .int (nI pr), .int (nI pB), .int (nI pC), .int (nI pO), .int (nI n), .ref a0, .int (nI rn), .ref a1, .int (nI ct), .int fa, .int fl, .int (nI sk), .int (nI cm), .ref a2, .int cbf, .int (nI w), .ref a3, .int jo, .int gr, .ref a4, .long tt, .long tg])), (a0, .inl (cy 1, 64, .inl df)), (a1, .inl (cy 1, 80, .inl rf)), (a2, .inl (cy 1, 70, .inl tf)), (a3, .inl (cy 1, 10, .inl lf)), (a4, .inl (cy 2, 6, .inl bf))]) [0, 1, 2, 3, 4, 5] (by decide) rfl
                      exact W.iret (v := 4) hx hb hr (fun t ht hW => ⟨⟨4, cbf, rfl, mf_no (mf_1 (Or.inr (Or.inr (Or.inl (by rw [hmn]; exact fun q => c_154 ((lc_ne (by omega) (by omega)).mpr q)))))), by rw [ht]; exact hP9, hD9⟩, hS.F ht⟩) hS.2.2 dX6_find_167
                    · refine lv_iload hx hb dX6_find_157 (lv_at hl 0 rfl) ?_
                      refine lv_aload_n hx hb dX6_find_159 rfl (lv_at hl 1 rfl) ?_
                      refine va_get (D := D) (ci := 7) (v := .int (nI pC)) (C := RX6) (T := TX6) (N := 23) hx hb hts iw_X6_find_X6 hown hK hP 0 rfl rfl 3 (by decide) (hts _ lk_X6_find_f40) (fun _ h9 => h9) rfl dX6_find_160 ?_
                      refine lv_icmp_lt (tgt := 168) hx hb dX6_find_163 (by decide) (fun c_163 => ?_) (fun c_163 => ?_)
                      · refine lv_iload hx hb dX6_find_168 (lv_at hl 0 rfl) ?_
                        refine lv_aload_n hx hb dX6_find_170 rfl (lv_at hl 1 rfl) ?_
                        refine va_get (D := D) (ci := 7) (v := .int cbf) (C := RX6) (T := TX6) (N := 23) hx hb hts iw_X6_find_X6 hown hK hP 0 rfl rfl 15 (by decide) (hts _ lk_X6_find_f23) (fun _ h9 => h9) rfl dX6_find_171 ?_
                        refine lv_isub hx hb dX6_find_174 ?_
                        refine lv_aload_n hx hb dX6_find_175 rfl (lv_at hl 1 rfl) ?_
                        refine va_get (D := D) (ci := 7) (v := .int (nI pC)) (C := RX6) (T := TX6) (N := 23) hx hb hts iw_X6_find_X6 hown hK hP 0 rfl rfl 3 (by decide) (hts _ lk_X6_find_f40) (fun _ h9 => h9) rfl dX6_find_176 ?_
                        refine lv_iadd hx hb dX6_find_179 ?_
                        refine lv_aload_n hx hb dX6_find_180 rfl (lv_at hl 1 rfl) ?_
                        refine va_get (D := D) (ci := 7) (v := .int (nI pC)) (C := RX6) (T := TX6) (N := 23) hx hb hts iw_X6_find_X6 hown hK hP 0 rfl rfl 3 (by decide) (hts _ lk_X6_find_f40) (fun _ h9 => h9) rfl dX6_find_181 ?_
                        refine lv_irem hx hb dX6_find_184 (nI_ne0 hC0 (by omega)) ?_
                        refine lv_topi (fun x_184 ex_184 => ?_)
                        refine lv_istore (lv' := [(9, .int x_184), (8, .int (nI (be g 0 pO))), (0, .ref h0), (4, .long (lN (cs pB pS g (co pB pS d 8 (co pB pS (d / 256) 8 pG)) (cm - pB / 8)))), (6, .long (lN (be g (cm - pB / 8) (pB / 8))))]) hx hb dX6_find_185 hl (by decide) rfl (fun ls hl => ?_)
                        refine lv_aload_n hx hb dX6_find_187 rfl (lv_at hl 2 rfl) ?_
                        refine va_get (D := D) (ci := 7) (v := .int cbf) (C := RX6) (T := TX6) (N := 23) hx hb hts iw_X6_find_X6 hown hK hP 0 rfl rfl 15 (by decide) (hts _ lk_X6_find_f23) (fun _ h9 => h9) rfl dX6_find_188 ?_
                        refine lv_if_ge (tgt := 198) hx hb dX6_find_191 (by decide) (fun c_191 => ?_) (fun c_191 => ?_)
                        · obtain ⟨q9, hq1, hq2, hq3⟩ := mf_d hbf ((nI_ltI hbe0 (by omega)).mp c_163) hC9 c_191
                          obtain rfl : x_184 = nI q9 := ex_184.trans hq2
                          refine lv_iconst (v := 0) hx hb dX6_find_198 (by decide) ?_
                          refine lv_istore (lv' := [(10, .int 0), (9, .int (nI q9)), (8, .int (nI (be g 0 pO))), (0, .ref h0), (4, .long (lN (cs pB pS g (co pB pS d 8 (co pB pS (d / 256) 8 pG)) (cm - pB / 8)))), (6, .long (lN (be g (cm - pB / 8) (pB / 8))))]) hx hb dX6_find_199 hl (by decide) rfl (fun ls hl => ?_)
                          refine lv_aload_n hx hb dX6_find_201 rfl (lv_at hl 3 rfl) ?_
                          refine lv_iload hx hb dX6_find_202 (lv_at hl 2 rfl) ?_
                          refine va_put (D := D) (ci := 7) (v := .int (nI (be g 0 pO))) (ty := .int) (C := RX6) (T := TX6) (N := 23) hx hb hts iw_X6_find_X6 tyX6 tyX6_ok nmX6 hown hK hP hD hS 0 rfl rfl 15 (by decide) (hts _ lk_X6_find_f23) (fun _ h9 => h9) rfl (by decide +kernel) rfl rfl (Nat.le_of_ble_eq_true rfl) dX6_find_204 (fun H locs hP hD hS => ?_)
                          have hP : va_P D vwCl [(h0, .inr (7, [.int co0, .int (nI pr), .int (nI pB), .int (nI pC), .int (nI pO), .int (nI n), .ref a0, .int (nI rn), .ref a1, .int (nI ct), .int fa, .int fl, .int (nI sk), .int (nI cm), .ref a2, .int (nI (be g 0 pO)), .int (nI w), .ref a3, .int jo, .int gr, .ref a4, .long tt, .long tg])), (a0, .inl (cy 1, 64, .inl df)), (a1, .inl (cy 1, 80, .inl rf)), (a2, .inl (cy 1, 70, .inl tf)), (a3, .inl (cy 1, 10, .inl lf)), (a4, .inl (cy 2, 6, .inl bf))] H := hP
                          have hD : va_D A [(h0, .inr (7, [.int co0, .int (nI pr), .int (nI pB), .int (nI pC), .int (nI pO), .int (nI n), .ref a0, .int (nI rn), .ref a1, .int (nI ct), .int fa, .int fl, .int (nI sk), .int (nI cm), .ref a2, .int (nI (be g 0 pO)), .int (nI w), .ref a3, .int jo, .int gr, .ref a4, .long tt, .long tg])), (a0, .inl (cy 1, 64, .inl df)), (a1, .inl (cy 1, 80, .inl rf)), (a2, .inl (cy 1, 70, .inl tf)), (a3, .inl (cy 1, 10, .inl lf)), (a4, .inl (cy 2, 6, .inl bf))] := hD
                          refine lv_iload hx hb dX6_find_207 (lv_at hl 0 rfl) ?_
                          refine lv_if_eq (tgt := 214) hx hb dX6_find_209 (by decide) (fun c_209 => ?_) (fun c_209 => ?_)
                          · refine lv_iload hx hb dX6_find_214 (lv_at hl 1 rfl) ?_
                            refine lv_iconst (v := 2) hx hb dX6_find_216 (by decide) ?_
                            refine lv_icmp_ge (tgt := 225) hx hb dX6_find_217 (by decide) (fun c_217 => ?_) (fun c_217 => ?_)
                            · refine lv_iload hx hb dX6_find_225 (lv_at hl 1 rfl) ?_
                              refine lv_iconst (v := 4) hx hb dX6_find_227 (by decide) ?_
                              refine lv_icmp_ge (tgt := 235) hx hb dX6_find_228 (by decide) (fun c_228 => ?_) (fun c_228 => ?_)
                              · refine lv_iconst (v := 3) hx hb dX6_find_235 (by decide) ?_
                                have hP9 := hP.sub (ws' := [(h0, .inr (7, [.int co0, .int (nI pr), .int (nI pB), .int (nI pC), .int (nI pO), .int (nI n), .ref a0, .int (nI rn), .ref a1, .int (nI ct), .int fa, .int fl, .int (nI sk), .int (nI cm), .ref a2, .int (nI (be g 0 pO)), .int (nI w), .ref a3, .int jo, .int gr, .ref a4, .long tt, .long tg])), (a0, .inl (cy 1, 64, .inl df)), (a1, .inl (cy 1, 80, .inl rf)), (a2, .inl (cy 1, 70, .inl tf)), (a3, .inl (cy 1, 10, .inl lf)), (a4, .inl (cy 2, 6, .inl bf))]) [0, 1, 2, 3, 4, 5] rfl
                                have hD9 := hD.sub (ws' := [(h0, .inr (7, [.int co0, .int (nI pr), .int (nI pB), .int (nI pC), .int (nI pO), .int (nI n), .ref a0, .int (nI rn), .ref a1, .int (nI ct), .int fa, .int fl, .int (nI sk), .int (nI cm), .ref a2, .int (nI (be g 0 pO)), .int (nI w), .ref a3, .int jo, .int gr, .ref a4, .long tt, .long tg])), (a0, .inl (cy 1, 64, .inl df)), (a1, .inl (cy 1, 80, .inl rf)), (a2, .inl (cy 1, 70, .inl tf)), (a3, .inl (cy 1, 10, .inl lf)), (a4, .inl (cy 2, 6, .inl bf))]) [0, 1, 2, 3, 4, 5] (by decide) rfl
                                exact W.iret (v := 3) hx hb hr (fun t ht hW => ⟨⟨3, nI (be g 0 pO), rfl, mf_yes (by rw [hmn]; exact mf_0 (if_neg (by omega)) h36 ((lc_ne (by omega) (by omega)).mp c_154) ((nI_ltI hbe0 (by omega)).mp c_163)) ((fst_c (by omega) c_228).trans hq3.symm), by rw [ht]; exact hP9, hD9⟩, hS.F ht⟩) hS.2.2 dX6_find_236
                              · refine lv_iconst (v := 2) hx hb dX6_find_231 (by decide) ?_
                                refine lv_goto (tgt := 236) hx hb dX6_find_232 (by decide) ?_
                                have hP9 := hP.sub (ws' := [(h0, .inr (7, [.int co0, .int (nI pr), .int (nI pB), .int (nI pC), .int (nI pO), .int (nI n), .ref a0, .int (nI rn), .ref a1, .int (nI ct), .int fa, .int fl, .int (nI sk), .int (nI cm), .ref a2, .int (nI (be g 0 pO)), .int (nI w), .ref a3, .int jo, .int gr, .ref a4, .long tt, .long tg])), (a0, .inl (cy 1, 64, .inl df)), (a1, .inl (cy 1, 80, .inl rf)), (a2, .inl (cy 1, 70, .inl tf)), (a3, .inl (cy 1, 10, .inl lf)), (a4, .inl (cy 2, 6, .inl bf))]) [0, 1, 2, 3, 4, 5] rfl
                                have hD9 := hD.sub (ws' := [(h0, .inr (7, [.int co0, .int (nI pr), .int (nI pB), .int (nI pC), .int (nI pO), .int (nI n), .ref a0, .int (nI rn), .ref a1, .int (nI ct), .int fa, .int fl, .int (nI sk), .int (nI cm), .ref a2, .int (nI (be g 0 pO)), .int (nI w), .ref a3, .int jo, .int gr, .ref a4, .long tt, .long tg])), (a0, .inl (cy 1, 64, .inl df)), (a1, .inl (cy 1, 80, .inl rf)), (a2, .inl (cy 1, 70, .inl tf)), (a3, .inl (cy 1, 10, .inl lf)), (a4, .inl (cy 2, 6, .inl bf))]) [0, 1, 2, 3, 4, 5] (by decide) rfl
                                exact W.iret (v := 2) hx hb hr (fun t ht hW => ⟨⟨2, nI (be g 0 pO), rfl, mf_yes (by rw [hmn]; exact mf_0 (if_neg (by omega)) h36 ((lc_ne (by omega) (by omega)).mp c_154) ((nI_ltI hbe0 (by omega)).mp c_163)) ((fst_b (by omega) c_217 c_228).trans hq3.symm), by rw [ht]; exact hP9, hD9⟩, hS.F ht⟩) hS.2.2 dX6_find_236
                            · refine lv_iconst (v := 1) hx hb dX6_find_220 (by decide) ?_
                              refine lv_iload hx hb dX6_find_221 (lv_at hl 1 rfl) ?_
                              refine lv_isub hx hb dX6_find_223 ?_
                              have hP9 := hP.sub (ws' := [(h0, .inr (7, [.int co0, .int (nI pr), .int (nI pB), .int (nI pC), .int (nI pO), .int (nI n), .ref a0, .int (nI rn), .ref a1, .int (nI ct), .int fa, .int fl, .int (nI sk), .int (nI cm), .ref a2, .int (nI (be g 0 pO)), .int (nI w), .ref a3, .int jo, .int gr, .ref a4, .long tt, .long tg])), (a0, .inl (cy 1, 64, .inl df)), (a1, .inl (cy 1, 80, .inl rf)), (a2, .inl (cy 1, 70, .inl tf)), (a3, .inl (cy 1, 10, .inl lf)), (a4, .inl (cy 2, 6, .inl bf))]) [0, 1, 2, 3, 4, 5] rfl
                              have hD9 := hD.sub (ws' := [(h0, .inr (7, [.int co0, .int (nI pr), .int (nI pB), .int (nI pC), .int (nI pO), .int (nI n), .ref a0, .int (nI rn), .ref a1, .int (nI ct), .int fa, .int fl, .int (nI sk), .int (nI cm), .ref a2, .int (nI (be g 0 pO)), .int (nI w), .ref a3, .int jo, .int gr, .ref a4, .long tt, .long tg])), (a0, .inl (cy 1, 64, .inl df)), (a1, .inl (cy 1, 80, .inl rf)), (a2, .inl (cy 1, 70, .inl tf)), (a3, .inl (cy 1, 10, .inl lf)), (a4, .inl (cy 2, 6, .inl bf))]) [0, 1, 2, 3, 4, 5] (by decide) rfl
                              exact W.iret (v := 1 - (nI q9)) hx hb hr (fun t ht hW => ⟨⟨1 - (nI q9), nI (be g 0 pO), rfl, mf_yes (by rw [hmn]; exact mf_0 (if_neg (by omega)) h36 ((lc_ne (by omega) (by omega)).mp c_154) ((nI_ltI hbe0 (by omega)).mp c_163)) ((fst_a (by omega) c_217).trans hq3.symm), by rw [ht]; exact hP9, hD9⟩, hS.F ht⟩) hS.2.2 dX6_find_224
                          · exact absurd c_209 (by decide)
                        · refine lv_iconst (v := 1) hx hb dX6_find_194 (by decide) ?_
                          refine lv_goto (tgt := 199) hx hb dX6_find_195 (by decide) ?_
                          refine lv_istore (lv' := [(10, .int 1), (9, .int x_184), (8, .int (nI (be g 0 pO))), (0, .ref h0), (4, .long (lN (cs pB pS g (co pB pS d 8 (co pB pS (d / 256) 8 pG)) (cm - pB / 8)))), (6, .long (lN (be g (cm - pB / 8) (pB / 8))))]) hx hb dX6_find_199 hl (by decide) rfl (fun ls hl => ?_)
                          refine lv_aload_n hx hb dX6_find_201 rfl (lv_at hl 3 rfl) ?_
                          refine lv_iload hx hb dX6_find_202 (lv_at hl 2 rfl) ?_
                          refine va_put (D := D) (ci := 7) (v := .int (nI (be g 0 pO))) (ty := .int) (C := RX6) (T := TX6) (N := 23) hx hb hts iw_X6_find_X6 tyX6 tyX6_ok nmX6 hown hK hP hD hS 0 rfl rfl 15 (by decide) (hts _ lk_X6_find_f23) (fun _ h9 => h9) rfl (by decide +kernel) rfl rfl (Nat.le_of_ble_eq_true rfl) dX6_find_204 (fun H locs hP hD hS => ?_)
                          have hP : va_P D vwCl [(h0, .inr (7, [.int co0, .int (nI pr), .int (nI pB), .int (nI pC), .int (nI pO), .int (nI n), .ref a0, .int (nI rn), .ref a1, .int (nI ct), .int fa, .int fl, .int (nI sk), .int (nI cm), .ref a2, .int (nI (be g 0 pO)), .int (nI w), .ref a3, .int jo, .int gr, .ref a4, .long tt, .long tg])), (a0, .inl (cy 1, 64, .inl df)), (a1, .inl (cy 1, 80, .inl rf)), (a2, .inl (cy 1, 70, .inl tf)), (a3, .inl (cy 1, 10, .inl lf)), (a4, .inl (cy 2, 6, .inl bf))] H := hP
                          have hD : va_D A [(h0, .inr (7, [.int co0, .int (nI pr), .int (nI pB), .int (nI pC), .int (nI pO), .int (nI n), .ref a0, .int (nI rn), .ref a1, .int (nI ct), .int fa, .int fl, .int (nI sk), .int (nI cm), .ref a2, .int (nI (be g 0 pO)), .int (nI w), .ref a3, .int jo, .int gr, .ref a4, .long tt, .long tg])), (a0, .inl (cy 1, 64, .inl df)), (a1, .inl (cy 1, 80, .inl rf)), (a2, .inl (cy 1, 70, .inl tf)), (a3, .inl (cy 1, 10, .inl lf)), (a4, .inl (cy 2, 6, .inl bf))] := hD
                          refine lv_iload hx hb dX6_find_207 (lv_at hl 0 rfl) ?_
                          refine lv_if_eq (tgt := 214) hx hb dX6_find_209 (by decide) (fun c_209 => ?_) (fun c_209 => ?_)
                          · exact absurd c_209 (by decide)
                          · refine lv_iconst (v := 5) hx hb dX6_find_212 (by decide) ?_
                            have hP9 := hP.sub (ws' := [(h0, .inr (7, [.int co0, .int (nI pr), .int (nI pB), .int (nI pC), .int (nI pO), .int (nI n), .ref a0, .int (nI rn), .ref a1, .int (nI ct), .int fa, .int fl, .int (nI sk), .int (nI cm), .ref a2, .int (nI (be g 0 pO)), .int (nI w), .ref a3, .int jo, .int gr, .ref a4, .long tt, .long tg])), (a0, .inl (cy 1, 64, .inl df)), (a1, .inl (cy 1, 80, .inl rf)), (a2, .inl (cy 1, 70, .inl tf)), (a3, .inl (cy 1, 10, .inl lf)), (a4, .inl (cy 2, 6, .inl bf))]) [0, 1, 2, 3, 4, 5] rfl
                            have hD9 := hD.sub (ws' := [(h0, .inr (7, [.int co0, .int (nI pr), .int (nI pB), .int (nI pC), .int (nI pO), .int (nI n), .ref a0, .int (nI rn), .ref a1, .int (nI ct), .int fa, .int fl, .int (nI sk), .int (nI cm), .ref a2, .int (nI (be g 0 pO)), .int (nI w), .ref a3, .int jo, .int gr, .ref a4, .long tt, .long tg])), (a0, .inl (cy 1, 64, .inl df)), (a1, .inl (cy 1, 80, .inl rf)), (a2, .inl (cy 1, 70, .inl tf)), (a3, .inl (cy 1, 10, .inl lf)), (a4, .inl (cy 2, 6, .inl bf))]) [0, 1, 2, 3, 4, 5] (by decide) rfl
                            exact W.iret (v := 5) hx hb hr (fun t ht hW => ⟨⟨5, nI (be g 0 pO), rfl, mf_yes (by rw [hmn]; exact mf_0 (if_neg (by omega)) h36 ((lc_ne (by omega) (by omega)).mp c_154) ((nI_ltI hbe0 (by omega)).mp c_163)) (mf_f hbf hC9 c_191), by rw [ht]; exact hP9, hD9⟩, hS.F ht⟩) hS.2.2 dX6_find_213
                      · refine lv_iconst (v := 4) hx hb dX6_find_166 (by decide) ?_
                        have hP9 := hP.sub (ws' := [(h0, .inr (7, [.int co0, .int (nI pr), .int (nI pB), .int (nI pC), .int (nI pO), .int (nI n), .ref a0, .int (nI rn), .ref a1, .int (nI ct), .int fa, .int fl, .int (nI sk), .int (nI cm), .ref a2, .int cbf, .int (nI w), .ref a3, .int jo, .int gr, .ref a4, .long tt, .long tg])), (a0, .inl (cy 1, 64, .inl df)), (a1, .inl (cy 1, 80, .inl rf)), (a2, .inl (cy 1, 70, .inl tf)), (a3, .inl (cy 1, 10, .inl lf)), (a4, .inl (cy 2, 6, .inl bf))]) [0, 1, 2, 3, 4, 5] rfl
                        have hD9 := hD.sub (ws' := [(h0, .inr (7, [.int co0, .int (nI pr), .int (nI pB), .int (nI pC), .int (nI pO), .int (nI n), .ref a0, .int (nI rn), .ref a1, .int (nI ct), .int fa, .int fl, .int (nI sk), .int (nI cm), .ref a2, .int cbf, .int (nI w), .ref a3, .int jo, .int gr, .ref a4, .long tt, .long tg])), (a0, .inl (cy 1, 64, .inl df)), (a1, .inl (cy 1, 80, .inl rf)), (a2, .inl (cy 1, 70, .inl tf)), (a3, .inl (cy 1, 10, .inl lf)), (a4, .inl (cy 2, 6, .inl bf))]) [0, 1, 2, 3, 4, 5] (by decide) rfl
                        exact W.iret (v := 4) hx hb hr (fun t ht hW => ⟨⟨4, cbf, rfl, mf_no (mf_1 (Or.inr (Or.inr (Or.inr (Nat.not_lt.mp fun q => c_163 (nI_lt q (by omega))))))), by rw [ht]; exact hP9, hD9⟩, hS.F ht⟩) hS.2.2 dX6_find_167
                  refine va_get (D := D) (ci := 7) (v := .int (nI pO)) (C := RX6) (T := TX6) (N := 23) hx hb hts iw_X6_find_X6 hown hK hP 0 rfl rfl 4 (by decide) (hts _ lk_X6_find_f43) (fun _ h9 => h9) rfl dX6_find_110 ?_
                  refine lv_iconst (v := 1) hx hb dX6_find_113 (by decide) ?_
                  refine lv_icmp_ne (tgt := 126) hx hb dX6_find_114 (by decide) (fun c_114 => ?_) (fun c_114 => ?_)
                  · have hO1 : pO = 2 := by have : ¬ pO = 1 := fun q => c_114 (by rw [q]; decide); omega
                    refine lv_sipush (v := 256) hx hb dX6_find_126 (by decide) ?_
                    refine lv_aload_n hx hb dX6_find_129 rfl (lv_at hl 0 rfl) ?_
                    refine va_get (D := D) (ci := 7) (v := .ref a2) (C := RX6) (T := TX6) (N := 23) hx hb hts iw_X6_find_X6 hown hK hP 0 rfl rfl 14 (by decide) (hts _ lk_X6_find_f20) (fun _ h9 => h9) rfl dX6_find_130 ?_
                    refine lv_iconst (v := 0) hx hb dX6_find_133 (by decide) ?_
                    refine lv_topi (fun x_133 ex_133 => ?_)
                    obtain rfl : x_133 = nI 0 := by rw [ex_133]; exact nI_0.symm
                    refine va_iald hx hb hK hP 3 1 rfl rfl (vp_in_nI (by decide) (by decide)) dX6_find_134 ?_
                    refine lv_topi (fun x_134 ex_134 => ?_)
                    obtain rfl : x_134 = nI (g 0) := by rw [ex_134]; rw [nI_clamp (by decide)]; exact (hg2 0 (by omega)).1
                    refine lv_imul hx hb dX6_find_135 ?_
                    refine lv_topi (fun x_135 ex_135 => ?_)
                    obtain rfl : x_135 = nI (256 * g 0) := by rw [ex_135]; exact pk_mul 256 _
                    refine lv_aload_n hx hb dX6_find_136 rfl (lv_at hl 0 rfl) ?_
                    refine va_get (D := D) (ci := 7) (v := .ref a2) (C := RX6) (T := TX6) (N := 23) hx hb hts iw_X6_find_X6 hown hK hP 0 rfl rfl 14 (by decide) (hts _ lk_X6_find_f20) (fun _ h9 => h9) rfl dX6_find_137 ?_
                    refine lv_iconst (v := 1) hx hb dX6_find_140 (by decide) ?_
                    refine lv_topi (fun x_140 ex_140 => ?_)
                    obtain rfl : x_140 = nI 1 := by rw [ex_140]; decide
                    refine va_iald hx hb hK hP 3 1 rfl rfl (vp_in_nI (by decide) (by decide)) dX6_find_141 ?_
                    refine lv_topi (fun x_141 ex_141 => ?_)
                    obtain rfl : x_141 = nI (g 1) := by rw [ex_141]; rw [nI_clamp (by decide)]; exact (hg2 1 (by omega)).1
                    refine lv_iadd hx hb dX6_find_142 ?_
                    refine lv_topi (fun x_142 ex_142 => ?_)
                    obtain rfl : x_142 = nI (be g 0 pO) := by rw [ex_142]; rw [nI_add]; exact congrArg nI (be_h2 hO1)
                    exact cut_143  _ _  hP hD hS _ (lv_sub hl [0, 1, 2] rfl)
                  · have hO1 : pO = 1 := (nI_eq (b := 1) (by omega) (by decide)).mp c_114
                    refine lv_aload_n hx hb dX6_find_117 rfl (lv_at hl 0 rfl) ?_
                    refine va_get (D := D) (ci := 7) (v := .ref a2) (C := RX6) (T := TX6) (N := 23) hx hb hts iw_X6_find_X6 hown hK hP 0 rfl rfl 14 (by decide) (hts _ lk_X6_find_f20) (fun _ h9 => h9) rfl dX6_find_118 ?_
                    refine lv_iconst (v := 0) hx hb dX6_find_121 (by decide) ?_
                    refine lv_topi (fun x_121 ex_121 => ?_)
                    obtain rfl : x_121 = nI 0 := by rw [ex_121]; exact nI_0.symm
                    refine va_iald hx hb hK hP 3 1 rfl rfl (vp_in_nI (by decide) (by decide)) dX6_find_122 ?_
                    refine lv_topi (fun x_122 ex_122 => ?_)
                    obtain rfl : x_122 = nI (be g 0 pO) := by rw [ex_122]; rw [nI_clamp (by decide), (hg2 0 (by omega)).1]; exact congrArg nI (be_h1 hO1)
                    refine lv_goto (tgt := 143) hx hb dX6_find_123 (by decide) ?_
                    exact cut_143  _ _  hP hD hS _ (lv_sub hl [0, 1, 2] rfl)
                · have htm : t9 < pB / 8 := by have : ¬ cm ≤ cm - pB / 8 + t9 := fun q => c_83 ((oc_ltN (by omega) (by omega)).mpr q); omega
                  have hgt := hg2 (cm - pB / 8 + t9) (by omega)
                  refine lv_lload hx hb dX6_find_86 (lv_at hl 2 rfl) ?_
                  refine lv_ldc2 (v := 256) hx hb hown (hts _ lk_X6_find_k90) dX6_find_88 ?_
                  refine lv_lmul hx hb dX6_find_91 ?_
                  refine lv_topl (fun x_91 ex_91 => ?_)
                  obtain rfl : x_91 = lN (be g (cm - pB / 8) t9 * 256) := by rw [ex_91]; exact lN_mul _ 256
                  refine lv_aload_n hx hb dX6_find_92 rfl (lv_at hl 0 rfl) ?_
                  refine va_get (D := D) (ci := 7) (v := .ref a2) (C := RX6) (T := TX6) (N := 23) hx hb hts iw_X6_find_X6 hown hK hP 0 rfl rfl 14 (by decide) (hts _ lk_X6_find_f20) (fun _ h9 => h9) rfl dX6_find_93 ?_
                  refine lv_iload hx hb dX6_find_96 (lv_at hl 3 rfl) ?_
                  refine va_iald hx hb hK hP 3 1 rfl rfl (vp_in_nI (by omega) (by decide)) dX6_find_98 ?_
                  refine lv_topi (fun x_98 ex_98 => ?_)
                  obtain rfl : x_98 = nI (g (cm - pB / 8 + t9)) := by rw [ex_98]; rw [nI_clamp (by omega)]; exact hgt.1
                  refine lv_i2l (v := (nI (g (cm - pB / 8 + t9))).toInt64) hx hb dX6_find_99 rfl ?_
                  refine lv_topl (fun x_99 ex_99 => ?_)
                  obtain rfl : x_99 = lN (g (cm - pB / 8 + t9)) := by rw [ex_99]; exact nI_l (by omega)
                  refine lv_ladd hx hb dX6_find_100 ?_
                  refine lv_topl (fun x_100 ex_100 => ?_)
                  obtain rfl : x_100 = lN (be g (cm - pB / 8) (t9 + 1)) := by rw [ex_100]; rw [be_1]; exact lN_add _ _
                  refine lv_lstore (lv' := [(6, .long (lN (be g (cm - pB / 8) (t9 + 1)))), (0, .ref h0), (4, .long (lN (cs pB pS g (co pB pS d 8 (co pB pS (d / 256) 8 pG)) (cm - pB / 8)))), (8, .int (nI (cm - pB / 8 + t9)))]) hx hb dX6_find_101 hl (by decide) rfl (fun ls hl => ?_)
                  refine lv_iinc (v := nI (cm - pB / 8 + t9 + 1)) (lv' := [(8, .int (nI (cm - pB / 8 + t9 + 1))), (6, .long (lN (be g (cm - pB / 8) (t9 + 1)))), (0, .ref h0), (4, .long (lN (cs pB pS g (co pB pS d 8 (co pB pS (d / 256) 8 pG)) (cm - pB / 8))))]) hx hb dX6_find_103 hl (k := 3) rfl (nI_1 _) (by decide) rfl (fun ls hl => ?_)
                  refine lv_goto (tgt := 77) hx hb dX6_find_106 (by decide) ?_
                  exact ih (t9 + 1) _ _ (by omega) (by omega) hP hD hS _ (lv_sub hl [2, 3, 1, 0] rfl)
            exact cut_77 _ 0 _ _ (Nat.lt_succ_self _) (Nat.zero_le _) hP hD hS _ (lv_sub hl [2, 5, 1, 0] rfl)
          · have hkm : k < cm - pB / 8 := Nat.not_le.mp fun q => c_47 ((oc_ltN (by omega) (by omega)).mpr q)
            have hgk := hg2 k (by omega)
            refine lv_aload_n hx hb dX6_find_50 rfl (lv_at hl 0 rfl) ?_
            refine lv_lload hx hb dX6_find_51 (lv_at hl 3 rfl) ?_
            refine lv_aload_n hx hb dX6_find_53 rfl (lv_at hl 0 rfl) ?_
            refine va_get (D := D) (ci := 7) (v := .ref a2) (C := RX6) (T := TX6) (N := 23) hx hb hts iw_X6_find_X6 hown hK hP 0 rfl rfl 14 (by decide) (hts _ lk_X6_find_f20) (fun _ h9 => h9) rfl dX6_find_54 ?_
            refine lv_iload hx hb dX6_find_57 (lv_at hl 4 rfl) ?_
            refine va_iald hx hb hK hP 3 1 rfl rfl (vp_in_nI (by omega) (by decide)) dX6_find_59 ?_
            refine lv_topi (fun x_59 ex_59 => ?_)
            obtain rfl : x_59 = nI (g k) := by rw [ex_59]; rw [nI_clamp (by omega)]; exact hgk.1
            have hPc := hP.sub (ws' := [(h0, .inr (7, [.int co0, .int (nI pr), .int (nI pB), .int (nI pC), .int (nI pO), .int (nI n), .ref a0, .int (nI rn), .ref a1, .int (nI ct), .int fa, .int fl, .int (nI sk), .int (nI cm), .ref a2, .int cbf, .int (nI w), .ref a3, .int jo, .int gr, .ref a4, .long tt, .long tg])), (a0, .inl (cy 1, 64, .inl df)), (a1, .inl (cy 1, 80, .inl rf)), (a2, .inl (cy 1, 70, .inl tf)), (a3, .inl (cy 1, 10, .inl lf)), (a4, .inl (cy 2, 6, .inl bf))]) [0, 1, 2, 3, 4, 5] rfl
            have hDc := hD.sub (ws' := [(h0, .inr (7, [.int co0, .int (nI pr), .int (nI pB), .int (nI pC), .int (nI pO), .int (nI n), .ref a0, .int (nI rn), .ref a1, .int (nI ct), .int fa, .int fl, .int (nI sk), .int (nI cm), .ref a2, .int cbf, .int (nI w), .ref a3, .int jo, .int gr, .ref a4, .long tt, .long tg])), (a0, .inl (cy 1, 64, .inl df)), (a1, .inl (cy 1, 80, .inl rf)), (a2, .inl (cy 1, 70, .inl tf)), (a3, .inl (cy 1, 10, .inl lf)), (a4, .inl (cy 2, 6, .inl bf))]) [0, 1, 2, 3, 4, 5] (by decide) rfl
            have hFc := va_free (wc := [(h0, .inr (7, [.int co0, .int (nI pr), .int (nI pB), .int (nI pC), .int (nI pO), .int (nI n), .ref a0, .int (nI rn), .ref a1, .int (nI ct), .int fa, .int fl, .int (nI sk), .int (nI cm), .ref a2, .int cbf, .int (nI w), .ref a3, .int jo, .int gr, .ref a4, .long tt, .long tg])), (a0, .inl (cy 1, 64, .inl df)), (a1, .inl (cy 1, 80, .inl rf)), (a2, .inl (cy 1, 70, .inl tf)), (a3, .inl (cy 1, 10, .inl lf)), (a4, .inl (cy 2, 6, .inl bf))]) hD hS hA [0, 1, 2, 3, 4, 5] rfl
            refine va_calll (va_runV (As := [.long (lN (cs pB pS g (co pB pS d 8 (co pB pS (d / 256) 8 pG)) k)), .int (nI (g k))]) (rest := []) ⟨hx, hb, hml, hown, hts⟩ (c_X6_add l D cy H.size h0 a0 a1 a2 a3 a4 co0 pr pB pS pG pE pC pO n df rn rf ct fa fl sk cm tf cbf w lf jo gr bf tt tg (cs pB pS g (co pB pS d 8 (co pB pS (d / 256) 8 pG)) k) (g k) (by first | assumption | omega) (cs_lt hpv.2.1 (co_lt hpv.2.1 8 _ (co_lt hpv.2.1 8 _ hpv.2.2.1)) k) (by omega)) (cwV 2 hts gX6_find_X6_add rfl rfl rfl (by decide +kernel) ⟨Nat.le_of_ble_eq_true rfl, Nat.le_of_ble_eq_true rfl⟩) (pv_V (ci := 7) (q := (RX6, TX6, 23)) hkk hPc hDc rfl rfl rfl) rfl rfl hl.1 rfl (lv_room (Nat.le_of_ble_eq_true rfl)) dX6_find_60 ⟨Nat.le_of_ble_eq_true rfl, Nat.le_of_ble_eq_true rfl⟩) hS (fun q _ h => hFc q h) hFc (fun r_60 u t H1 locs ht hvm hw hB hz1 hk1 hS => ?_)
            obtain ⟨hP1, hD1⟩ := hB
            rw [ht] at hP1
            try dsimp only at hw hP1 hD1
            obtain ⟨hP, hD⟩ := va_join (wr := []) (w1 := [(h0, .inr (7, [.int co0, .int (nI pr), .int (nI pB), .int (nI pC), .int (nI pO), .int (nI n), .ref a0, .int (nI rn), .ref a1, .int (nI ct), .int fa, .int fl, .int (nI sk), .int (nI cm), .ref a2, .int cbf, .int (nI w), .ref a3, .int jo, .int gr, .ref a4, .long tt, .long tg])), (a0, .inl (cy 1, 64, .inl df)), (a1, .inl (cy 1, 80, .inl rf)), (a2, .inl (cy 1, 70, .inl tf)), (a3, .inl (cy 1, 10, .inl lf)), (a4, .inl (cy 2, 6, .inl bf))]) hP hD [0, 1, 2, 3, 4, 5] [] rfl rfl (by decide) (by decide) hk1 hFc hP1 hD1
            clear hPc hDc hFc hP1 hD1 hz1 hk1
            generalize H1 = H at hP hS ⊢
            have hP : va_P D vwCl [(h0, .inr (7, [.int co0, .int (nI pr), .int (nI pB), .int (nI pC), .int (nI pO), .int (nI n), .ref a0, .int (nI rn), .ref a1, .int (nI ct), .int fa, .int fl, .int (nI sk), .int (nI cm), .ref a2, .int cbf, .int (nI w), .ref a3, .int jo, .int gr, .ref a4, .long tt, .long tg])), (a0, .inl (cy 1, 64, .inl df)), (a1, .inl (cy 1, 80, .inl rf)), (a2, .inl (cy 1, 70, .inl tf)), (a3, .inl (cy 1, 10, .inl lf)), (a4, .inl (cy 2, 6, .inl bf))] H := hP
            have hD : va_D A [(h0, .inr (7, [.int co0, .int (nI pr), .int (nI pB), .int (nI pC), .int (nI pO), .int (nI n), .ref a0, .int (nI rn), .ref a1, .int (nI ct), .int fa, .int fl, .int (nI sk), .int (nI cm), .ref a2, .int cbf, .int (nI w), .ref a3, .int jo, .int gr, .ref a4, .long tt, .long tg])), (a0, .inl (cy 1, 64, .inl df)), (a1, .inl (cy 1, 80, .inl rf)), (a2, .inl (cy 1, 70, .inl tf)), (a3, .inl (cy 1, 10, .inl lf)), (a4, .inl (cy 2, 6, .inl bf))] := hD
            obtain rfl := hw
            refine lv_topl (fun x_60 ex_60 => ?_)
            obtain rfl : x_60 = lN (cs pB pS g (co pB pS d 8 (co pB pS (d / 256) 8 pG)) (k + 1)) := by rw [ex_60]; exact congrArg lN cs_1.symm
            refine lv_lstore (lv' := [(4, .long (lN (cs pB pS g (co pB pS d 8 (co pB pS (d / 256) 8 pG)) (k + 1)))), (0, .ref h0), (1, .int (nI d)), (3, .int (nI (cm - pB / 8))), (6, .int (nI k))]) hx hb dX6_find_63 hl (by decide) rfl (fun ls hl => ?_)
            refine lv_iinc (v := nI (k + 1)) (lv' := [(6, .int (nI (k + 1))), (4, .long (lN (cs pB pS g (co pB pS d 8 (co pB pS (d / 256) 8 pG)) (k + 1)))), (0, .ref h0), (1, .int (nI d)), (3, .int (nI (cm - pB / 8)))]) hx hb dX6_find_65 hl (k := 4) rfl (nI_1 k) (by decide) rfl (fun ls hl => ?_)
            refine lv_goto (tgt := 44) hx hb dX6_find_68 (by decide) ?_
            exact ih (k + 1) _ _ (by omega) (by omega) hP hD hS _ (lv_sub hl [2, 3, 4, 1, 0] rfl)
      exact cut_44 _ 0 _ _ (Nat.lt_succ_self _) (Nat.zero_le _) hP hD hS _ (lv_sub hl [4, 5, 2, 1, 0] rfl)
    · refine lv_iconst (v := 4) hx hb dX6_find_32 (by decide) ?_
      have hP9 := hP.sub (ws' := [(h0, .inr (7, [.int co0, .int (nI pr), .int (nI pB), .int (nI pC), .int (nI pO), .int (nI n), .ref a0, .int (nI rn), .ref a1, .int (nI ct), .int fa, .int fl, .int (nI sk), .int (nI cm), .ref a2, .int cbf, .int (nI w), .ref a3, .int jo, .int gr, .ref a4, .long tt, .long tg])), (a0, .inl (cy 1, 64, .inl df)), (a1, .inl (cy 1, 80, .inl rf)), (a2, .inl (cy 1, 70, .inl tf)), (a3, .inl (cy 1, 10, .inl lf)), (a4, .inl (cy 2, 6, .inl bf))]) [0, 1, 2, 3, 4, 5] rfl
      have hD9 := hD.sub (ws' := [(h0, .inr (7, [.int co0, .int (nI pr), .int (nI pB), .int (nI pC), .int (nI pO), .int (nI n), .ref a0, .int (nI rn), .ref a1, .int (nI ct), .int fa, .int fl, .int (nI sk), .int (nI cm), .ref a2, .int cbf, .int (nI w), .ref a3, .int jo, .int gr, .ref a4, .long tt, .long tg])), (a0, .inl (cy 1, 64, .inl df)), (a1, .inl (cy 1, 80, .inl rf)), (a2, .inl (cy 1, 70, .inl tf)), (a3, .inl (cy 1, 10, .inl lf)), (a4, .inl (cy 2, 6, .inl bf))]) [0, 1, 2, 3, 4, 5] (by decide) rfl
      exact W.iret (v := 4) hx hb hr (fun t ht hW => ⟨⟨4, cbf, rfl, mf_no (mf_1 (Or.inr (Or.inl (by rw [Nat.min_eq_left h70]; exact Nat.not_le.mp fun q => c_29 ((rc_cmp h70 h8.2.1 hO2.2).mpr q))))), by rw [ht]; exact hP9, hD9⟩, hS.F ht⟩) hS.2.2 dX6_find_33


set_option maxHeartbeats 4000000 in
set_option maxRecDepth 100000 in
theorem c_X6_good (l : Launch) (D : va_G) (cy : Nat → ClassId) (sz : Nat) (x : Int32)  : Met l yX6_good wsX6_good ({ frames := 0, cells := 0, slots := 0, locals := 0 } : Room) (pre1 D cy [.int x] [] sz) (va_Qi (fun (r : Int32) (u : Unit) => r = gd x) (fun u t => va_P D vwCl [] t.heap ∧ va_D (va_A [] sz) []) (va_A [] sz)) 0 0 (va_A [] sz) := by
  refine Met.ofW (cc := cX6_good) (maxL := 1) (ret := (some .boolean)) (by decide) rfl ?_
  intro p e s m args below meth c s₁ B hml hv
  obtain ⟨rfl, hsz, hP, hkk, hD0⟩ := hv
  have hx := B.exec
  have hb := B.bytes
  have hr := B.returns
  have hts := atoms_spec (ws := wsX6_good) B.pre
  have hown : s.vm.findClass RX6 = some m.cls := findClass_of_methodNamed B.named
  have hlocks := B.notSynchronized
  have hin : meth.name = _ := (name_of_methodNamed B.named B.method).1
  have hK := hkk.1
  subst hsz
  have hD := hD0.self (sz := s.heap.size)
  generalize hAe : va_A [] s.heap.size = A at hD ⊢
  have hA : ∀ q : Nat, s.heap.size ≤ q → A q := fun q h => by rw [← hAe]; exact Or.inr h
  have hS : va_S A s.heap s.heap [] := va_S.rf
  have hP : va_P D vwCl [] s.heap := hP
  have hl := lv_entry ([.int x]) (n := 1) (Nat.le_of_ble_eq_true rfl)
  rw [lg_entry_eq]
  generalize (lg_sl ([.int x]) ++ List.replicate (1 - (lg_sl ([.int x])).length) Slot.unset).toArray = ls at hl ⊢
  have hl : lv_has ls 1 [(0, .int x)] := hl
  refine lv_iload_n hx hb dX6_good_0 rfl (lv_at hl 0 rfl) ?_
  refine lv_if_eq (tgt := 14) hx hb dX6_good_1 (by decide) (fun c_1 => ?_) (fun c_1 => ?_)
  · refine lv_iconst (v := 1) hx hb dX6_good_14 (by decide) ?_
    refine lv_goto (tgt := 19) hx hb dX6_good_15 (by decide) ?_
    have hP9 := hP.sub (ws' := []) [] rfl
    have hD9 := hD.sub (ws' := []) [] (by decide) rfl
    exact W.zret (v := 1) hx hb hr rfl (fun t ht hW => ⟨⟨1, (), rfl, by unfold gd; rw [if_pos (Or.inl c_1)], by rw [ht]; exact hP9, hD9⟩, hS.F ht⟩) hS.2.2 dX6_good_19
  · refine lv_iload_n hx hb dX6_good_4 rfl (lv_at hl 0 rfl) ?_
    refine lv_iconst (v := 2) hx hb dX6_good_5 (by decide) ?_
    refine lv_icmp_eq (tgt := 14) hx hb dX6_good_6 (by decide) (fun c_6 => ?_) (fun c_6 => ?_)
    · refine lv_iconst (v := 1) hx hb dX6_good_14 (by decide) ?_
      refine lv_goto (tgt := 19) hx hb dX6_good_15 (by decide) ?_
      have hP9 := hP.sub (ws' := []) [] rfl
      have hD9 := hD.sub (ws' := []) [] (by decide) rfl
      exact W.zret (v := 1) hx hb hr rfl (fun t ht hW => ⟨⟨1, (), rfl, by unfold gd; rw [if_pos (Or.inr (Or.inl c_6))], by rw [ht]; exact hP9, hD9⟩, hS.F ht⟩) hS.2.2 dX6_good_19
    · refine lv_iload_n hx hb dX6_good_9 rfl (lv_at hl 0 rfl) ?_
      refine lv_iconst (v := 5) hx hb dX6_good_10 (by decide) ?_
      refine lv_icmp_ne (tgt := 18) hx hb dX6_good_11 (by decide) (fun c_11 => ?_) (fun c_11 => ?_)
      · refine lv_iconst (v := 0) hx hb dX6_good_18 (by decide) ?_
        have hP9 := hP.sub (ws' := []) [] rfl
        have hD9 := hD.sub (ws' := []) [] (by decide) rfl
        exact W.zret (v := 0) hx hb hr rfl (fun t ht hW => ⟨⟨0, (), rfl, by unfold gd; rw [if_neg (fun q => q.elim c_1 (fun q => q.elim c_6 c_11))], by rw [ht]; exact hP9, hD9⟩, hS.F ht⟩) hS.2.2 dX6_good_19
      · refine lv_iconst (v := 1) hx hb dX6_good_14 (by decide) ?_
        refine lv_goto (tgt := 19) hx hb dX6_good_15 (by decide) ?_
        have hP9 := hP.sub (ws' := []) [] rfl
        have hD9 := hD.sub (ws' := []) [] (by decide) rfl
        exact W.zret (v := 1) hx hb hr rfl (fun t ht hW => ⟨⟨1, (), rfl, by unfold gd; rw [if_pos (Or.inr (Or.inr c_11))], by rw [ht]; exact hP9, hD9⟩, hS.F ht⟩) hS.2.2 dX6_good_19
