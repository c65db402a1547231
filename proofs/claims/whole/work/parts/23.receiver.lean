theorem iw_X3_collect_X3 : ∀ w ∈ wsX30, w ∈ wsX3_collect := by decide +kernel
theorem lk_X3_collect_f12 : (.fieldLink RX3 12 "DataGuards$Receiver" "row" "LDataGuards$Octets;" : Cond) ∈ wsX3_collect := by decide +kernel
theorem lk_X3_collect_f30 : (.fieldLink RX3 30 "DataGuards$Receiver" "tooMany" "Z" : Cond) ∈ wsX3_collect := by decide +kernel
set_option maxHeartbeats 4000000 in
set_option maxRecDepth 100000 in
/-- Receiver.collect(b) -/
theorem c_X3_collect (l : Launch) (D : va_G) (cy : Nat → ClassId) (sz : Nat) (h0 : Nat) (p0 : Nat) (r0 : Nat) (r1 : Nat) (tm : Int32) (cbf : Int32) (pB : Nat) (pS : Nat) (pG : Nat) (pE : Nat) (pC : Nat) (pO : Nat) (f : Nat → Int32) (n : Nat) (x : Int32) (hn : n ≤ 70) : Met l yX3_collect wsX3_collect ({ frames := 1, cells := 0, slots := 0, locals := 21 } : Room) (pre1 D cy [.ref h0, .int x] [(h0, .inr (4, [.ref p0, .ref r0, .int tm, .int cbf])), (p0, .inr (3, [.int (nI pB), .int (nI pS), .int (nI pG), .int (nI pE), .int (nI pC), .int (nI pO)])), (r0, .inr (2, [.ref r1, .int (nI n)])), (r1, .inl (cy 0, 70, .inl f))] sz) (va_Qv (fun (u : (Nat → Int32) × (Nat) × (Int32)) => (rc_col f n tm x u.1 u.2.1 u.2.2)) (fun u t => va_P D vwCl [(h0, .inr (4, [.ref p0, .ref r0, .int u.2.2, .int cbf])), (p0, .inr (3, [.int (nI pB), .int (nI pS), .int (nI pG), .int (nI pE), .int (nI pC), .int (nI pO)])), (r0, .inr (2, [.ref r1, .int (nI u.2.1)])), (r1, .inl (cy 0, 70, .inl u.1))] t.heap ∧ va_D (va_A [(h0, .inr (4, [.ref p0, .ref r0, .int tm, .int cbf])), (p0, .inr (3, [.int (nI pB), .int (nI pS), .int (nI pG), .int (nI pE), .int (nI pC), .int (nI pO)])), (r0, .inr (2, [.ref r1, .int (nI n)])), (r1, .inl (cy 0, 70, .inl f))] sz) [(h0, .inr (4, [.ref p0, .ref r0, .int u.2.2, .int cbf])), (p0, .inr (3, [.int (nI pB), .int (nI pS), .int (nI pG), .int (nI pE), .int (nI pC), .int (nI pO)])), (r0, .inr (2, [.ref r1, .int (nI u.2.1)])), (r1, .inl (cy 0, 70, .inl u.1))]) (va_A [(h0, .inr (4, [.ref p0, .ref r0, .int tm, .int cbf])), (p0, .inr (3, [.int (nI pB), .int (nI pS), .int (nI pG), .int (nI pE), .int (nI pC), .int (nI pO)])), (r0, .inr (2, [.ref r1, .int (nI n)])), (r1, .inl (cy 0, 70, .inl f))] sz)) 0 0 (va_A [(h0, .inr (4, [.ref p0, .ref r0, .int tm, .int cbf])), (p0, .inr (3, [.int (nI pB), .int (nI pS), .int (nI pG), .int (nI pE), .int (nI pC), .int (nI pO)])), (r0, .inr (2, [.ref r1, .int (nI n)])), (r1, .inl (cy 0, 70, .inl f))] sz) := by
  refine Met.ofW (cc := cX3_collect) (maxL := 2) (ret := none) (by decide) rfl ?_
  intro p e s m args below meth c s₁ B hml hv
  obtain ⟨rfl, hsz, hP, hkk, hD0⟩ := hv
  have hx := B.exec
  have hb := B.bytes
  have hr := B.returns
  have hts := atoms_spec (ws := wsX3_collect) B.pre
  have hown : s.vm.findClass RX3 = some m.cls := findClass_of_methodNamed B.named
  have hlocks := B.notSynchronized
  have hin : meth.name = _ := (name_of_methodNamed B.named B.method).1
  have hK := hkk.1
  subst hsz
  have hD := hD0.self (sz := s.heap.size)
  generalize hAe : va_A [(h0, .inr (4, [.ref p0, .ref r0, .int tm, .int cbf])), (p0, .inr (3, [.int (nI pB), .int (nI pS), .int (nI pG), .int (nI pE), .int (nI pC), .int (nI pO)])), (r0, .inr (2, [.ref r1, .int (nI n)])), (r1, .inl (cy 0, 70, .inl f))] s.heap.size = A at hD ⊢
  have hA : ∀ q : Nat, s.heap.size ≤ q → A q := fun q h => by rw [← hAe]; exact Or.inr h
  have hS : va_S A s.heap s.heap [] := va_S.rf
  have hP : va_P D vwCl [(h0, .inr (4, [.ref p0, .ref r0, .int tm, .int cbf])), (p0, .inr (3, [.int (nI pB), .int (nI pS), .int (nI pG), .int (nI pE), .int (nI pC), .int (nI pO)])), (r0, .inr (2, [.ref r1, .int (nI n)])), (r1, .inl (cy 0, 70, .inl f))] s.heap := hP
  have hl := lv_entry ([.ref h0, .int x]) (n := 2) (Nat.le_of_ble_eq_true rfl)
  rw [lg_entry_eq]
  generalize (lg_sl ([.ref h0, .int x]) ++ List.replicate (2 - (lg_sl ([.ref h0, .int x])).length) Slot.unset).toArray = ls at hl ⊢
  have hl : lv_has ls 2 [(0, .ref h0), (1, .int x)] := hl
  refine lv_aload_n hx hb dX3_collect_0 rfl (lv_at hl 0 rfl) ?_
  refine va_get (D := D) (ci := 4) (v := .ref r0) (C := RX3) (T := TX3) (N := 4) hx hb hts iw_X3_collect_X3 hown hK hP 0 rfl rfl 1 (by decide) (hts _ lk_X3_collect_f12) (fun _ h9 => h9) rfl dX3_collect_1 ?_
  refine lv_iload_n hx hb dX3_collect_4 rfl (lv_at hl 1 rfl) ?_
  have hPc := hP.sub (ws' := [(r0, .inr (2, [.ref r1, .int (nI n)])), (r1, .inl (cy 0, 70, .inl f))]) [2, 3] rfl
  have hDc := hD.sub (ws' := [(r0, .inr (2, [.ref r1, .int (nI n)])), (r1, .inl (cy 0, 70, .inl f))]) [2, 3] (by decide) rfl
  have hFc := va_free (wc := [(r0, .inr (2, [.ref r1, .int (nI n)])), (r1, .inl (cy 0, 70, .inl f))]) hD hS hA [2, 3] rfl
  refine va_calli (va_runV (As := [.int x]) (rest := []) ⟨hx, hb, hml, hown, hts⟩ (c_X1_add l D cy s.heap.size r0 r1 f n x (by first | assumption | omega)) (cwV 1 hts gX3_collect_X1_add rfl rfl rfl (by decide +kernel) ⟨Nat.le_of_ble_eq_true rfl, Nat.le_of_ble_eq_true rfl⟩) (pv_V (ci := 2) (q := (RX1, TX1, 2)) hkk hPc hDc rfl rfl rfl) rfl rfl hl.1 rfl (lv_room (Nat.le_of_ble_eq_true rfl)) dX3_collect_5 ⟨Nat.le_of_ble_eq_true rfl, Nat.le_of_ble_eq_true rfl⟩) hS (fun q _ h => hFc q h) hFc (fun r_5 u t H1 locs ht hvm hw hB hz1 hk1 hS => ?_)
  obtain ⟨f2_5, n2_5⟩ := u
  obtain ⟨hP1, hD1⟩ := hB
  rw [ht] at hP1
  try dsimp only at hw hP1 hD1
  obtain ⟨hP, hD⟩ := va_join (wr := [(h0, .inr (4, [.ref p0, .ref r0, .int tm, .int cbf])), (p0, .inr (3, [.int (nI pB), .int (nI pS), .int (nI pG), .int (nI pE), .int (nI pC), .int (nI pO)]))]) (w1 := [(r0, .inr (2, [.ref r1, .int (nI n2_5)])), (r1, .inl (cy 0, 70, .inl f2_5))]) hP hD [2, 3] [0, 1] rfl rfl (by decide) (by decide) hk1 hFc hP1 hD1
  clear hPc hDc hFc hP1 hD1 hz1 hk1
  generalize H1 = H at hP hS ⊢
  have hP : va_P D vwCl [(h0, .inr (4, [.ref p0, .ref r0, .int tm, .int cbf])), (p0, .inr (3, [.int (nI pB), .int (nI pS), .int (nI pG), .int (nI pE), .int (nI pC), .int (nI pO)])), (r0, .inr (2, [.ref r1, .int (nI n2_5)])), (r1, .inl (cy 0, 70, .inl f2_5))] H := hP
  have hD : va_D A [(h0, .inr (4, [.ref p0, .ref r0, .int tm, .int cbf])), (p0, .inr (3, [.int (nI pB), .int (nI pS), .int (nI pG), .int (nI pE), .int (nI pC), .int (nI pO)])), (r0, .inr (2, [.ref r1, .int (nI n2_5)])), (r1, .inl (cy 0, 70, .inl f2_5))] := hD
  have hw_5 := hw
  refine lv_if_ne (tgt := 16) hx hb dX3_collect_8 (by decide) (fun c_8 => ?_) (fun c_8 => ?_)
  · have hP9 := hP.sub (ws' := [(h0, .inr (4, [.ref p0, .ref r0, .int tm, .int cbf])), (p0, .inr (3, [.int (nI pB), .int (nI pS), .int (nI pG), .int (nI pE), .int (nI pC), .int (nI pO)])), (r0, .inr (2, [.ref r1, .int (nI n2_5)])), (r1, .inl (cy 0, 70, .inl f2_5))]) [0, 1, 2, 3] rfl
    have hD9 := hD.sub (ws' := [(h0, .inr (4, [.ref p0, .ref r0, .int tm, .int cbf])), (p0, .inr (3, [.int (nI pB), .int (nI pS), .int (nI pG), .int (nI pE), .int (nI pC), .int (nI pO)])), (r0, .inr (2, [.ref r1, .int (nI n2_5)])), (r1, .inl (cy 0, 70, .inl f2_5))]) [0, 1, 2, 3] (by decide) rfl
    exact W.vret hx hb hr (fun t ht hW => ⟨⟨(f2_5, n2_5, tm), rfl, oc_add_nz hw_5 c_8, by rw [ht]; exact hP9, hD9⟩, hS.F ht⟩) hS.2.2 dX3_collect_16
  · refine lv_aload_n hx hb dX3_collect_11 rfl (lv_at hl 0 rfl) ?_
    refine lv_iconst (v := 1) hx hb dX3_collect_12 (by decide) ?_
    refine va_put (D := D) (ci := 4) (v := .int 1) (ty := .boolean) (C := RX3) (T := TX3) (N := 4) hx hb hts iw_X3_collect_X3 tyX3 tyX3_ok nmX3 hown hK hP hD hS 0 rfl rfl 2 (by decide) (hts _ lk_X3_collect_f30) (fun _ h9 => h9) rfl (by decide +kernel) rfl rfl (Nat.le_of_ble_eq_true rfl) dX3_collect_13 (fun H locs hP hD hS => ?_)
    have hP : va_P D vwCl [(h0, .inr (4, [.ref p0, .ref r0, .int 1, .int cbf])), (p0, .inr (3, [.int (nI pB), .int (nI pS), .int (nI pG), .int (nI pE), .int (nI pC), .int (nI pO)])), (r0, .inr (2, [.ref r1, .int (nI n2_5)])), (r1, .inl (cy 0, 70, .inl f2_5))] H := hP
    have hD : va_D A [(h0, .inr (4, [.ref p0, .ref r0, .int 1, .int cbf])), (p0, .inr (3, [.int (nI pB), .int (nI pS), .int (nI pG), .int (nI pE), .int (nI pC), .int (nI pO)])), (r0, .inr (2, [.ref r1, .int (nI n2_5)])), (r1, .inl (cy 0, 70, .inl f2_5))] := hD
    have hP9 := hP.sub (ws' := [(h0, .inr (4, [.ref p0, .ref r0, .int 1, .int cbf])), (p0, .inr (3, [.int (nI pB), .int (nI pS), .int (nI pG), .int (nI pE), .int (nI pC), .int (nI pO)])), (r0, .inr (2, [.ref r1, .int (nI n2_5)])), (r1, .inl (cy 0, 70, .inl f2_5))]) [0, 1, 2, 3] rfl
    have hD9 := hD.sub (ws' := [(h0, .inr (4, [.ref p0, .ref r0, .int 1, .int cbf])), (p0, .inr (3, [.int (nI pB), .int (nI pS), .int (nI pG), .int (nI pE), .int (nI pC), .int (nI pO)])), (r0, .inr (2, [.ref r1, .int (nI n2_5)])), (r1, .inl (cy 0, 70, .inl f2_5))]) [0, 1, 2, 3] (by decide) rfl
    exact W.vret hx hb hr (fun t ht hW => ⟨⟨(f2_5, n2_5, 1), rfl, oc_add_z hw_5 c_8, by rw [ht]; exact hP9, hD9⟩, hS.F ht⟩) hS.2.2 dX3_collect_16

theorem iw_X3_rowCounter_X3 : ∀ w ∈ wsX30, w ∈ wsX3_rowCounter := by decide +kernel
theorem lk_X3_rowCounter_f12 : (.fieldLink RX3 12 "DataGuards$Receiver" "row" "LDataGuards$Octets;" : Cond) ∈ wsX3_rowCounter := by decide +kernel
theorem lk_X3_rowCounter_f22 : (.fieldLink RX3 22 "DataGuards$Receiver" "profile" "LDataGuards$Profile;" : Cond) ∈ wsX3_rowCounter := by decide +kernel
theorem iw_X3_rowCounter_X2 : ∀ w ∈ wsX20, w ∈ wsX3_rowCounter := by decide +kernel
set_option maxHeartbeats 4000000 in
set_option maxRecDepth 100000 in
theorem c_X3_rowCounter (l : Launch) (D : va_G) (cy : Nat → ClassId) (sz : Nat) (h0 : Nat) (p0 : Nat) (r0 : Nat) (r1 : Nat) (tm : Int32) (cbf : Int32) (pB : Nat) (pS : Nat) (pG : Nat) (pE : Nat) (pC : Nat) (pO : Nat) (f : Nat → Int32) (n : Nat) (g : Nat → Nat) (hn : n ≤ 70) (hg : oc_is f n g) (hpv : pvd pB pS pG pE pC pO) (hO : pO ≤ n) : Met l yX3_rowCounter wsX3_rowCounter ({ frames := 3, cells := 0, slots := 0, locals := 66 } : Room) (pre1 D cy [.ref h0] [(h0, .inr (4, [.ref p0, .ref r0, .int tm, .int cbf])), (p0, .inr (3, [.int (nI pB), .int (nI pS), .int (nI pG), .int (nI pE), .int (nI pC), .int (nI pO)])), (r0, .inr (2, [.ref r1, .int (nI n)])), (r1, .inl (cy 0, 70, .inl f))] sz) (va_Qi (fun (r : Int32) (u : Unit) => r = nI (be g 0 pO)) (fun u t => va_P D vwCl [(h0, .inr (4, [.ref p0, .ref r0, .int tm, .int cbf])), (p0, .inr (3, [.int (nI pB), .int (nI pS), .int (nI pG), .int (nI pE), .int (nI pC), .int (nI pO)])), (r0, .inr (2, [.ref r1, .int (nI n)])), (r1, .inl (cy 0, 70, .inl f))] t.heap ∧ va_D (va_A [(h0, .inr (4, [.ref p0, .ref r0, .int tm, .int cbf])), (p0, .inr (3, [.int (nI pB), .int (nI pS), .int (nI pG), .int (nI pE), .int (nI pC), .int (nI pO)])), (r0, .inr (2, [.ref r1, .int (nI n)])), (r1, .inl (cy 0, 70, .inl f))] sz) [(h0, .inr (4, [.ref p0, .ref r0, .int tm, .int cbf])), (p0, .inr (3, [.int (nI pB), .int (nI pS), .int (nI pG), .int (nI pE), .int (nI pC), .int (nI pO)])), (r0, .inr (2, [.ref r1, .int (nI n)])), (r1, .inl (cy 0, 70, .inl f))]) (va_A [(h0, .inr (4, [.ref p0, .ref r0, .int tm, .int cbf])), (p0, .inr (3, [.int (nI pB), .int (nI pS), .int (nI pG), .int (nI pE), .int (nI pC), .int (nI pO)])), (r0, .inr (2, [.ref r1, .int (nI n)])), (r1, .inl (cy 0, 70, .inl f))] sz)) 0 0 (va_A [(h0, .inr (4, [.ref p0, .ref r0, .int tm, .int cbf])), (p0, .inr (3, [.int (nI pB), .int (nI pS), .int (nI pG), .int (nI pE), .int (nI pC), .int (nI pO)])), (r0, .inr (2, [.ref r1, .int (nI n)])), (r1, .inl (cy 0, 70, .inl f))] sz) := by
  refine Met.ofW (cc := cX3_rowCounter) (maxL := 1) (ret := (some .int)) (by decide) rfl ?_
  intro p e s m args below meth c s₁ B hml hv
  obtain ⟨rfl, hsz, hP, hkk, hD0⟩ := hv
  have hx := B.exec
  have hb := B.bytes
  have hr := B.returns
  have hts := atoms_spec (ws := wsX3_rowCounter) B.pre
  have hown : s.vm.findClass RX3 = some m.cls := findClass_of_methodNamed B.named
  have hlocks := B.notSynchronized
  have hin : meth.name = _ := (name_of_methodNamed B.named B.method).1
  have hK := hkk.1
  subst hsz
  have hD := hD0.self (sz := s.heap.size)
  generalize hAe : va_A [(h0, .inr (4, [.ref p0, .ref r0, .int tm, .int cbf])), (p0, .inr (3, [.int (nI pB), .int (nI pS), .int (nI pG), .int (nI pE), .int (nI pC), .int (nI pO)])), (r0, .inr (2, [.ref r1, .int (nI n)])), (r1, .inl (cy 0, 70, .inl f))] s.heap.size = A at hD ⊢
  have hA : ∀ q : Nat, s.heap.size ≤ q → A q := fun q h => by rw [← hAe]; exact Or.inr h
  have hS : va_S A s.heap s.heap [] := va_S.rf
  have hP : va_P D vwCl [(h0, .inr (4, [.ref p0, .ref r0, .int tm, .int cbf])), (p0, .inr (3, [.int (nI pB), .int (nI pS), .int (nI pG), .int (nI pE), .int (nI pC), .int (nI pO)])), (r0, .inr (2, [.ref r1, .int (nI n)])), (r1, .inl (cy 0, 70, .inl f))] s.heap := hP
  have hl := lv_entry ([.ref h0]) (n := 1) (Nat.le_of_ble_eq_true rfl)
  rw [lg_entry_eq]
  generalize (lg_sl ([.ref h0]) ++ List.replicate (1 - (lg_sl ([.ref h0])).length) Slot.unset).toArray = ls at hl ⊢
  have hl : lv_has ls 1 [(0, .ref h0)] := hl
  refine lv_aload_n hx hb dX3_rowCounter_0 rfl (lv_at hl 0 rfl) ?_
  refine va_get (D := D) (ci := 4) (v := .ref r0) (C := RX3) (T := TX3) (N := 4) hx hb hts iw_X3_rowCounter_X3 hown hK hP 0 rfl rfl 1 (by decide) (hts _ lk_X3_rowCounter_f12) (fun _ h9 => h9) rfl dX3_rowCounter_1 ?_
  refine lv_iconst (v := 0) hx hb dX3_rowCounter_4 (by decide) ?_
  refine lv_topi (fun x_4 ex_4 => ?_)
  obtain rfl : x_4 = nI 0 := by rw [ex_4]; exact nI_0.symm
  refine lv_aload_n hx hb dX3_rowCounter_5 rfl (lv_at hl 0 rfl) ?_
  refine va_get (D := D) (ci := 4) (v := .ref p0) (C := RX3) (T := TX3) (N := 4) hx hb hts iw_X3_rowCounter_X3 hown hK hP 0 rfl rfl 0 (by decide) (hts _ lk_X3_rowCounter_f22) (fun _ h9 => h9) rfl dX3_rowCounter_6 ?_
  refine va_getN (D := D) (ci := 3) (v := .int (nI pO)) (C := RX2) (T := TX2) (N := 6) hx hb hts iw_X3_rowCounter_X2 hown hK hP 1 rfl rfl 5 (by decide) (nw_use 1 rfl rfl hkk.2) (fun _ h9 => h9) rfl dX3_rowCounter_9 ?_
  have hPc := hP.sub (ws' := [(r0, .inr (2, [.ref r1, .int (nI n)])), (r1, .inl (cy 0, 70, .inl f))]) [2, 3] rfl
  have hDc := hD.sub (ws' := [(r0, .inr (2, [.ref r1, .int (nI n)])), (r1, .inl (cy 0, 70, .inl f))]) [2, 3] (by decide) rfl
  have hFc := va_free (wc := [(r0, .inr (2, [.ref r1, .int (nI n)])), (r1, .inl (cy 0, 70, .inl f))]) hD hS hA [2, 3] rfl
  refine va_calli (va_runV (As := [.int (nI 0), .int (nI pO)]) (rest := []) ⟨hx, hb, hml, hown, hts⟩ (c_X1_numberAt l D cy s.heap.size r0 r1 f n (nI 0) pO (by first | assumption | omega) (by have := hpv.2.2.2.2.2.2; omega)) (cwV 2 hts gX3_rowCounter_X1_numberAt rfl rfl rfl (by decide +kernel) ⟨Nat.le_of_ble_eq_true rfl, Nat.le_of_ble_eq_true rfl⟩) (pv_V (ci := 2) (q := (RX1, TX1, 2)) hkk hPc hDc rfl rfl rfl) rfl rfl hl.1 rfl (lv_room (Nat.le_of_ble_eq_true rfl)) dX3_rowCounter_12 ⟨Nat.le_of_ble_eq_true rfl, Nat.le_of_ble_eq_true rfl⟩) hS (fun q _ h => hFc q h) hFc (fun r_12 u t H1 locs ht hvm hw hB hz1 hk1 hS => ?_)
  obtain ⟨hP1, hD1⟩ := hB
  rw [ht] at hP1
  try dsimp only at hw hP1 hD1
  obtain ⟨hP, hD⟩ := va_join (wr := [(h0, .inr (4, [.ref p0, .ref r0, .int tm, .int cbf])), (p0, .inr (3, [.int (nI pB), .int (nI pS), .int (nI pG), .int (nI pE), .int (nI pC), .int (nI pO)]))]) (w1 := [(r0, .inr (2, [.ref r1, .int (nI n)])), (r1, .inl (cy 0, 70, .inl f))]) hP hD [2, 3] [0, 1] rfl rfl (by decide) (by decide) hk1 hFc hP1 hD1
  clear hPc hDc hFc hP1 hD1 hz1 hk1
  generalize H1 = H at hP hS ⊢
  have hP : va_P D vwCl [(h0, .inr (4, [.ref p0, .ref r0, .int tm, .int cbf])), (p0, .inr (3, [.int (nI pB), .int (nI pS), .int (nI pG), .int (nI pE), .int (nI pC), .int (nI pO)])), (r0, .inr (2, [.ref r1, .int (nI n)])), (r1, .inl (cy 0, 70, .inl f))] H := hP
  have hD : va_D A [(h0, .inr (4, [.ref p0, .ref r0, .int tm, .int cbf])), (p0, .inr (3, [.int (nI pB), .int (nI pS), .int (nI pG), .int (nI pE), .int (nI pC), .int (nI pO)])), (r0, .inr (2, [.ref r1, .int (nI n)])), (r1, .inl (cy 0, 70, .inl f))] := hD
  obtain rfl := hw
  refine lv_topi (fun x_12 ex_12 => ?_)
  obtain rfl : x_12 = nI (be g 0 pO) := by rw [ex_12]; exact oc_num_be hg hn pO (by have := hpv.2.2.2.2.2.2; omega) (by omega)
  have hP9 := hP.sub (ws' := [(h0, .inr (4, [.ref p0, .ref r0, .int tm, .int cbf])), (p0, .inr (3, [.int (nI pB), .int (nI pS), .int (nI pG), .int (nI pE), .int (nI pC), .int (nI pO)])), (r0, .inr (2, [.ref r1, .int (nI n)])), (r1, .inl (cy 0, 70, .inl f))]) [0, 1, 2, 3] rfl
  have hD9 := hD.sub (ws' := [(h0, .inr (4, [.ref p0, .ref r0, .int tm, .int cbf])), (p0, .inr (3, [.int (nI pB), .int (nI pS), .int (nI pG), .int (nI pE), .int (nI pC), .int (nI pO)])), (r0, .inr (2, [.ref r1, .int (nI n)])), (r1, .inl (cy 0, 70, .inl f))]) [0, 1, 2, 3] (by decide) rfl
  exact W.iret (v := nI (be g 0 pO)) hx hb hr (fun t ht hW => ⟨⟨nI (be g 0 pO), (), rfl, rfl, by rw [ht]; exact hP9, hD9⟩, hS.F ht⟩) hS.2.2 dX3_rowCounter_15


set_option maxHeartbeats 4000000 in
set_option maxRecDepth 100000 in
theorem c_X3_findingOfSteps (l : Launch) (D : va_G) (cy : Nat → ClassId) (sz : Nat) (x : Int32)  : Met l yX3_findingOfSteps wsX3_findingOfSteps ({ frames := 0, cells := 0, slots := 0, locals := 0 } : Room) (pre1 D cy [.int x] [] sz) (va_Qi (fun (r : Int32) (u : Unit) => r = fst x) (fun u t => va_P D vwCl [] t.heap ∧ va_D (va_A [] sz) []) (va_A [] sz)) 0 0 (va_A [] sz) := by
  refine Met.ofW (cc := cX3_findingOfSteps) (maxL := 1) (ret := (some .int)) (by decide) rfl ?_
  intro p e s m args below meth c s₁ B hml hv
  obtain ⟨rfl, hsz, hP, hkk, hD0⟩ := hv
  have hx := B.exec
  have hb := B.bytes
  have hr := B.returns
  have hts := atoms_spec (ws := wsX3_findingOfSteps) B.pre
  have hown : s.vm.findClass RX3 = some m.cls := findClass_of_methodNamed B.named
  have hlocks := B.notSynchronized
  have hin : meth.name = _ := (name_of_methodNamed B.named B.method).1
  have hK := hkk.1
  subst hsz
  have hD := hD0.self (sz := s.heap.size)
  generalize hAe : va_A [] s.heap.size = A at hD ⊢
  have hA : ∀ q : Nat, s.heap.size ≤ q → A q := fun q h => by rw [← hAe]; exact Or.inr h
  have hS : va_S A s.heap s.heap [] := va_S.rf
  have hP : va_P D vwCl [] s.heap := hP
  have hl := lv_entry ([.int x]) (n := 1) (Nat.le_of_ble_eq_true rfl)
  rw [lg_entry_eq]
  generalize (lg_sl ([.int x]) ++ List.replicate (1 - (lg_sl ([.int x])).length) Slot.unset).toArray = ls at hl ⊢
  have hl : lv_has ls 1 [(0, .int x)] := hl
  refine lv_iload_n hx hb dX3_findingOfSteps_0 rfl (lv_at hl 0 rfl) ?_
  refine lv_if_ne (tgt := 6) hx hb dX3_findingOfSteps_1 (by decide) (fun c_1 => ?_) (fun c_1 => ?_)
  · refine lv_iload_n hx hb dX3_findingOfSteps_6 rfl (lv_at hl 0 rfl) ?_
    refine lv_iconst (v := 1) hx hb dX3_findingOfSteps_7 (by decide) ?_
    refine lv_icmp_ne (tgt := 13) hx hb dX3_findingOfSteps_8 (by decide) (fun c_8 => ?_) (fun c_8 => ?_)
    · refine lv_iload_n hx hb dX3_findingOfSteps_13 rfl (lv_at hl 0 rfl) ?_
      refine lv_iconst (v := 3) hx hb dX3_findingOfSteps_14 (by decide) ?_
      refine lv_icmp_gt (tgt := 22) hx hb dX3_findingOfSteps_15 (by decide) (fun c_15 => ?_) (fun c_15 => ?_)
      · refine lv_iconst (v := 3) hx hb dX3_findingOfSteps_22 (by decide) ?_
        have hP9 := hP.sub (ws' := []) [] rfl
        have hD9 := hD.sub (ws' := []) [] (by decide) rfl
        exact W.iret (v := 3) hx hb hr (fun t ht hW => ⟨⟨3, (), rfl, by unfold fst; rw [if_neg c_1, if_neg c_8, if_pos c_15], by rw [ht]; exact hP9, hD9⟩, hS.F ht⟩) hS.2.2 dX3_findingOfSteps_23
      · refine lv_iconst (v := 2) hx hb dX3_findingOfSteps_18 (by decide) ?_
        refine lv_goto (tgt := 23) hx hb dX3_findingOfSteps_19 (by decide) ?_
        have hP9 := hP.sub (ws' := []) [] rfl
        have hD9 := hD.sub (ws' := []) [] (by decide) rfl
        exact W.iret (v := 2) hx hb hr (fun t ht hW => ⟨⟨2, (), rfl, by unfold fst; rw [if_neg c_1, if_neg c_8, if_neg c_15], by rw [ht]; exact hP9, hD9⟩, hS.F ht⟩) hS.2.2 dX3_findingOfSteps_23
    · refine lv_iconst (v := 0) hx hb dX3_findingOfSteps_11 (by decide) ?_
      have hP9 := hP.sub (ws' := []) [] rfl
      have hD9 := hD.sub (ws' := []) [] (by decide) rfl
      exact W.iret (v := 0) hx hb hr (fun t ht hW => ⟨⟨0, (), rfl, by unfold fst; rw [if_neg c_1, if_pos c_8], by rw [ht]; exact hP9, hD9⟩, hS.F ht⟩) hS.2.2 dX3_findingOfSteps_12
  · refine lv_iconst (v := 1) hx hb dX3_findingOfSteps_4 (by decide) ?_
    have hP9 := hP.sub (ws' := []) [] rfl
    have hD9 := hD.sub (ws' := []) [] (by decide) rfl
    exact W.iret (v := 1) hx hb hr (fun t ht hW => ⟨⟨1, (), rfl, by unfold fst; rw [if_pos c_1], by rw [ht]; exact hP9, hD9⟩, hS.F ht⟩) hS.2.2 dX3_findingOfSteps_5

theorem iw_X3_findingOf_X3 : ∀ w ∈ wsX30, w ∈ wsX3_findingOf := by decide +kernel
theorem lk_X3_findingOf_f18 : (.fieldLink RX3 18 "DataGuards$Receiver" "counterBefore" "I" : Cond) ∈ wsX3_findingOf := by decide +kernel
theorem lk_X3_findingOf_f22 : (.fieldLink RX3 22 "DataGuards$Receiver" "profile" "LDataGuards$Profile;" : Cond) ∈ wsX3_findingOf := by decide +kernel
set_option maxHeartbeats 4000000 in
set_option maxRecDepth 100000 in
theorem c_X3_findingOf (l : Launch) (D : va_G) (cy : Nat → ClassId) (sz : Nat) (h0 : Nat) (p0 : Nat) (r0 : Nat) (r1 : Nat) (tm : Int32) (cbf : Int32) (pB : Nat) (pS : Nat) (pG : Nat) (pE : Nat) (pC : Nat) (pO : Nat) (f : Nat → Int32) (n : Nat) (v : Int32) (hpv : pvd pB pS pG pE pC pO) : Met l yX3_findingOf wsX3_findingOf ({ frames := 2, cells := 0, slots := 0, locals := 43 } : Room) (pre1 D cy [.ref h0, .int v] [(h0, .inr (4, [.ref p0, .ref r0, .int tm, .int cbf])), (p0, .inr (3, [.int (nI pB), .int (nI pS), .int (nI pG), .int (nI pE), .int (nI pC), .int (nI pO)])), (r0, .inr (2, [.ref r1, .int (nI n)])), (r1, .inl (cy 0, 70, .inl f))] sz) (va_Qi (fun (r : Int32) (u : Unit) => r = rc_fd cbf v pC) (fun u t => va_P D vwCl [(h0, .inr (4, [.ref p0, .ref r0, .int tm, .int v])), (p0, .inr (3, [.int (nI pB), .int (nI pS), .int (nI pG), .int (nI pE), .int (nI pC), .int (nI pO)])), (r0, .inr (2, [.ref r1, .int (nI n)])), (r1, .inl (cy 0, 70, .inl f))] t.heap ∧ va_D (va_A [(h0, .inr (4, [.ref p0, .ref r0, .int tm, .int cbf])), (p0, .inr (3, [.int (nI pB), .int (nI pS), .int (nI pG), .int (nI pE), .int (nI pC), .int (nI pO)])), (r0, .inr (2, [.ref r1, .int (nI n)])), (r1, .inl (cy 0, 70, .inl f))] sz) [(h0, .inr (4, [.ref p0, .ref r0, .int tm, .int v])), (p0, .inr (3, [.int (nI pB), .int (nI pS), .int (nI pG), .int (nI pE), .int (nI pC), .int (nI pO)])), (r0, .inr (2, [.ref r1, .int (nI n)])), (r1, .inl (cy 0, 70, .inl f))]) (va_A [(h0, .inr (4, [.ref p0, .ref r0, .int tm, .int cbf])), (p0, .inr (3, [.int (nI pB), .int (nI pS), .int (nI pG), .int (nI pE), .int (nI pC), .int (nI pO)])), (r0, .inr (2, [.ref r1, .int (nI n)])), (r1, .inl (cy 0, 70, .inl f))] sz)) 0 0 (va_A [(h0, .inr (4, [.ref p0, .ref r0, .int tm, .int cbf])), (p0, .inr (3, [.int (nI pB), .int (nI pS), .int (nI pG), .int (nI pE), .int (nI pC), .int (nI pO)])), (r0, .inr (2, [.ref r1, .int (nI n)])), (r1, .inl (cy 0, 70, .inl f))] sz) := by
  refine Met.ofW (cc := cX3_findingOf) (maxL := 3) (ret := (some .int)) (by decide) rfl ?_
  intro p e s m args below meth c s₁ B hml hv
  obtain ⟨rfl, hsz, hP, hkk, hD0⟩ := hv
  have hx := B.exec
  have hb := B.bytes
  have hr := B.returns
  have hts := atoms_spec (ws := wsX3_findingOf) B.pre
  have hown : s.vm.findClass RX3 = some m.cls := findClass_of_methodNamed B.named
  have hlocks := B.notSynchronized
  have hin : meth.name = _ := (name_of_methodNamed B.named B.method).1
  have hK := hkk.1
  subst hsz
  have hD := hD0.self (sz := s.heap.size)
  generalize hAe : va_A [(h0, .inr (4, [.ref p0, .ref r0, .int tm, .int cbf])), (p0, .inr (3, [.int (nI pB), .int (nI pS), .int (nI pG), .int (nI pE), .int (nI pC), .int (nI pO)])), (r0, .inr (2, [.ref r1, .int (nI n)])), (r1, .inl (cy 0, 70, .inl f))] s.heap.size = A at hD ⊢
  have hA : ∀ q : Nat, s.heap.size ≤ q → A q := fun q h => by rw [← hAe]; exact Or.inr h
  have hS : va_S A s.heap s.heap [] := va_S.rf
  have hP : va_P D vwCl [(h0, .inr (4, [.ref p0, .ref r0, .int tm, .int cbf])), (p0, .inr (3, [.int (nI pB), .int (nI pS), .int (nI pG), .int (nI pE), .int (nI pC), .int (nI pO)])), (r0, .inr (2, [.ref r1, .int (nI n)])), (r1, .inl (cy 0, 70, .inl f))] s.heap := hP
  have hl := lv_entry ([.ref h0, .int v]) (n := 3) (Nat.le_of_ble_eq_true rfl)
  rw [lg_entry_eq]
  generalize (lg_sl ([.ref h0, .int v]) ++ List.replicate (3 - (lg_sl ([.ref h0, .int v])).length) Slot.unset).toArray = ls at hl ⊢
  have hl : lv_has ls 3 [(0, .ref h0), (1, .int v)] := hl
  refine lv_aload_n hx hb dX3_findingOf_0 rfl (lv_at hl 0 rfl) ?_
  refine va_get (D := D) (ci := 4) (v := .int cbf) (C := RX3) (T := TX3) (N := 4) hx hb hts iw_X3_findingOf_X3 hown hK hP 0 rfl rfl 3 (by decide) (hts _ lk_X3_findingOf_f18) (fun _ h9 => h9) rfl dX3_findingOf_1 ?_
  refine lv_istore_n (lv' := [(2, .int cbf), (0, .ref h0), (1, .int v)]) hx hb dX3_findingOf_4 rfl hl (by decide) rfl (fun ls hl => ?_)
  refine lv_aload_n hx hb dX3_findingOf_5 rfl (lv_at hl 1 rfl) ?_
  refine lv_iload_n hx hb dX3_findingOf_6 rfl (lv_at hl 2 rfl) ?_
  refine va_put (D := D) (ci := 4) (v := .int v) (ty := .int) (C := RX3) (T := TX3) (N := 4) hx hb hts iw_X3_findingOf_X3 tyX3 tyX3_ok nmX3 hown hK hP hD hS 0 rfl rfl 3 (by decide) (hts _ lk_X3_findingOf_f18) (fun _ h9 => h9) rfl (by decide +kernel) rfl rfl (Nat.le_of_ble_eq_true rfl) dX3_findingOf_7 (fun H locs hP hD hS => ?_)
  have hP : va_P D vwCl [(h0, .inr (4, [.ref p0, .ref r0, .int tm, .int v])), (p0, .inr (3, [.int (nI pB), .int (nI pS), .int (nI pG), .int (nI pE), .int (nI pC), .int (nI pO)])), (r0, .inr (2, [.ref r1, .int (nI n)])), (r1, .inl (cy 0, 70, .inl f))] H := hP
  have hD : va_D A [(h0, .inr (4, [.ref p0, .ref r0, .int tm, .int v])), (p0, .inr (3, [.int (nI pB), .int (nI pS), .int (nI pG), .int (nI pE), .int (nI pC), .int (nI pO)])), (r0, .inr (2, [.ref r1, .int (nI n)])), (r1, .inl (cy 0, 70, .inl f))] := hD
  refine lv_iload_n hx hb dX3_findingOf_10 rfl (lv_at hl 0 rfl) ?_
  refine lv_iconst (v := (-1)) hx hb dX3_findingOf_11 (by decide) ?_
  refine lv_icmp_ne (tgt := 19) hx hb dX3_findingOf_12 (by decide) (fun c_12 => ?_) (fun c_12 => ?_)
  · refine lv_aload_n hx hb dX3_findingOf_19 rfl (lv_at hl 1 rfl) ?_
    refine va_get (D := D) (ci := 4) (v := .ref p0) (C := RX3) (T := TX3) (N := 4) hx hb hts iw_X3_findingOf_X3 hown hK hP 0 rfl rfl 0 (by decide) (hts _ lk_X3_findingOf_f22) (fun _ h9 => h9) rfl dX3_findingOf_20 ?_
    refine lv_iload_n hx hb dX3_findingOf_23 rfl (lv_at hl 2 rfl) ?_
    refine lv_iload_n hx hb dX3_findingOf_24 rfl (lv_at hl 0 rfl) ?_
    refine lv_isub hx hb dX3_findingOf_25 ?_
    have hPc := hP.sub (ws' := [(p0, .inr (3, [.int (nI pB), .int (nI pS), .int (nI pG), .int (nI pE), .int (nI pC), .int (nI pO)]))]) [1] rfl
    have hDc := hD.sub (ws' := [(p0, .inr (3, [.int (nI pB), .int (nI pS), .int (nI pG), .int (nI pE), .int (nI pC), .int (nI pO)]))]) [1] (by decide) rfl
    have hFc := va_free (wc := [(p0, .inr (3, [.int (nI pB), .int (nI pS), .int (nI pG), .int (nI pE), .int (nI pC), .int (nI pO)]))]) hD hS hA [1] rfl
    refine va_calli (va_runV (As := [.int (v - cbf)]) (rest := []) ⟨hx, hb, hml, hown, hts⟩ (c_X2_goingRound l D cy H.size p0 pB pS pG pE pC pO (v - cbf) hpv.2.2.2.2.1 hpv.2.2.2.2.2.1) (cwV 1 hts gX3_findingOf_X2_goingRound rfl rfl rfl (by decide +kernel) ⟨Nat.le_of_ble_eq_true rfl, Nat.le_of_ble_eq_true rfl⟩) (pv_V (ci := 3) (q := (RX2, TX2, 6)) hkk hPc hDc rfl rfl rfl) rfl rfl hl.1 rfl (lv_room (Nat.le_of_ble_eq_true rfl)) dX3_findingOf_26 ⟨Nat.le_of_ble_eq_true rfl, Nat.le_of_ble_eq_true rfl⟩) hS (fun q _ h => hFc q h) hFc (fun r_26 u t H1 locs ht hvm hw hB hz1 hk1 hS => ?_)
    obtain ⟨hP1, hD1⟩ := hB
    rw [ht] at hP1
    try dsimp only at hw hP1 hD1
    obtain ⟨hP, hD⟩ := va_join (wr := [(h0, .inr (4, [.ref p0, .ref r0, .int tm, .int v])), (r0, .inr (2, [.ref r1, .int (nI n)])), (r1, .inl (cy 0, 70, .inl f))]) (w1 := [(p0, .inr (3, [.int (nI pB), .int (nI pS), .int (nI pG), .int (nI pE), .int (nI pC), .int (nI pO)]))]) hP hD [1] [0, 2, 3] rfl rfl (by decide) (by decide) hk1 hFc hP1 hD1
    clear hPc hDc hFc hP1 hD1 hz1 hk1
    generalize H1 = H at hP hS ⊢
    have hP : va_P D vwCl [(h0, .inr (4, [.ref p0, .ref r0, .int tm, .int v])), (r0, .inr (2, [.ref r1, .int (nI n)])), (r1, .inl (cy 0, 70, .inl f)), (p0, .inr (3, [.int (nI pB), .int (nI pS), .int (nI pG), .int (nI pE), .int (nI pC), .int (nI pO)]))] H := hP
    have hD : va_D A [(h0, .inr (4, [.ref p0, .ref r0, .int tm, .int v])), (r0, .inr (2, [.ref r1, .int (nI n)])), (r1, .inl (cy 0, 70, .inl f)), (p0, .inr (3, [.int (nI pB), .int (nI pS), .int (nI pG), .int (nI pE), .int (nI pC), .int (nI pO)]))] := hD
    obtain rfl := hw
    have hPc := hP.sub (ws' := []) [] rfl
    have hDc := hD.sub (ws' := []) [] (by decide) rfl
    have hFc := va_free (wc := []) hD hS hA [] rfl
    refine va_calli (va_runS (As := [.int (fm (v - cbf) (nI pC))]) (rest := []) ⟨hx, hb, hml, hown, hts⟩ (c_X3_findingOfSteps l D cy H.size (fm (v - cbf) (nI pC)) ) (va_cwS 1 hts gX3_findingOf_X3_findingOfSteps rfl rfl rfl (by decide +kernel) ⟨Nat.le_of_ble_eq_true rfl, Nat.le_of_ble_eq_true rfl⟩) (pv_S hkk hPc hDc rfl) rfl rfl hl.1 rfl (lv_room (Nat.le_of_ble_eq_true rfl)) dX3_findingOf_29 ⟨Nat.le_of_ble_eq_true rfl, Nat.le_of_ble_eq_true rfl⟩) hS (fun q _ h => hFc q h) hFc (fun r_29 u t H1 locs ht hvm hw hB hz1 hk1 hS => ?_)
    obtain ⟨hP1, hD1⟩ := hB
    rw [ht] at hP1
    try dsimp only at hw hP1 hD1
    obtain ⟨hP, hD⟩ := va_join (wr := [(h0, .inr (4, [.ref p0, .ref r0, .int tm, .int v])), (r0, .inr (2, [.ref r1, .int (nI n)])), (r1, .inl (cy 0, 70, .inl f)), (p0, .inr (3, [.int (nI pB), .int (nI pS), .int (nI pG), .int (nI pE), .int (nI pC), .int (nI pO)]))]) (w1 := []) hP hD [] [0, 1, 2, 3] rfl rfl (by decide) (by decide) hk1 hFc hP1 hD1
    clear hPc hDc hFc hP1 hD1 hz1 hk1
    generalize H1 = H at hP hS ⊢
    have hP : va_P D vwCl [(h0, .inr (4, [.ref p0, .ref r0, .int tm, .int v])), (r0, .inr (2, [.ref r1, .int (nI n)])), (r1, .inl (cy 0, 70, .inl f)), (p0, .inr (3, [.int (nI pB), .int (nI pS), .int (nI pG), .int (nI pE), .int (nI pC), .int (nI pO)]))] H := hP
    have hD : va_D A [(h0, .inr (4, [.ref p0, .ref r0, .int tm, .int v])), (r0, .inr (2, [.ref r1, .int (nI n)])), (r1, .inl (cy 0, 70, .inl f)), (p0, .inr (3, [.int (nI pB), .int (nI pS), .int (nI pG), .int (nI pE), .int (nI pC), .int (nI pO)]))] := hD
    obtain rfl := hw
    have hP9 := hP.sub (ws' := [(h0, .inr (4, [.ref p0, .ref r0, .int tm, .int v])), (p0, .inr (3, [.int (nI pB), .int (nI pS), .int (nI pG), .int (nI pE), .int (nI pC), .int (nI pO)])), (r0, .inr (2, [.ref r1, .int (nI n)])), (r1, .inl (cy 0, 70, .inl f))]) [0, 3, 1, 2] rfl
    have hD9 := hD.sub (ws' := [(h0, .inr (4, [.ref p0, .ref r0, .int tm, .int v])), (p0, .inr (3, [.int (nI pB), .int (nI pS), .int (nI pG), .int (nI pE), .int (nI pC), .int (nI pO)])), (r0, .inr (2, [.ref r1, .int (nI n)])), (r1, .inl (cy 0, 70, .inl f))]) [0, 3, 1, 2] (by decide) rfl
    exact W.iret (v := fst (fm (v - cbf) (nI pC))) hx hb hr (fun t ht hW => ⟨⟨fst (fm (v - cbf) (nI pC)), (), rfl, by unfold rc_fd; rw [if_neg c_12], by rw [ht]; exact hP9, hD9⟩, hS.F ht⟩) hS.2.2 dX3_findingOf_32
  · refine lv_iconst (v := 5) hx hb dX3_findingOf_15 (by decide) ?_
    refine lv_goto (tgt := 32) hx hb dX3_findingOf_16 (by decide) ?_
    have hP9 := hP.sub (ws' := [(h0, .inr (4, [.ref p0, .ref r0, .int tm, .int v])), (p0, .inr (3, [.int (nI pB), .int (nI pS), .int (nI pG), .int (nI pE), .int (nI pC), .int (nI pO)])), (r0, .inr (2, [.ref r1, .int (nI n)])), (r1, .inl (cy 0, 70, .inl f))]) [0, 1, 2, 3] rfl
    have hD9 := hD.sub (ws' := [(h0, .inr (4, [.ref p0, .ref r0, .int tm, .int v])), (p0, .inr (3, [.int (nI pB), .int (nI pS), .int (nI pG), .int (nI pE), .int (nI pC), .int (nI pO)])), (r0, .inr (2, [.ref r1, .int (nI n)])), (r1, .inl (cy 0, 70, .inl f))]) [0, 1, 2, 3] (by decide) rfl
    exact W.iret (v := 5) hx hb hr (fun t ht hW => ⟨⟨5, (), rfl, by unfold rc_fd; rw [if_pos c_12], by rw [ht]; exact hP9, hD9⟩, hS.F ht⟩) hS.2.2 dX3_findingOf_32

theorem iw_X3_isInError_X3 : ∀ w ∈ wsX30, w ∈ wsX3_isInError := by decide +kernel
theorem lk_X3_isInError_f12 : (.fieldLink RX3 12 "DataGuards$Receiver" "row" "LDataGuards$Octets;" : Cond) ∈ wsX3_isInError := by decide +kernel
theorem iw_X3_isInError_X1 : ∀ w ∈ wsX10, w ∈ wsX3_isInError := by decide +kernel
theorem lk_X3_isInError_f22 : (.fieldLink RX3 22 "DataGuards$Receiver" "profile" "LDataGuards$Profile;" : Cond) ∈ wsX3_isInError := by decide +kernel
theorem lk_X3_isInError_f30 : (.fieldLink RX3 30 "DataGuards$Receiver" "tooMany" "Z" : Cond) ∈ wsX3_isInError := by decide +kernel
theorem iw_X3_isInError_X2 : ∀ w ∈ wsX20, w ∈ wsX3_isInError := by decide +kernel
set_option maxHeartbeats 4000000 in
set_option maxRecDepth 100000 in
/-- Receiver.isInError(identity) -/
theorem c_X3_isInError (l : Launch) (D : va_G) (cy : Nat → ClassId) (sz : Nat) (h0 : Nat) (p0 : Nat) (r0 : Nat) (r1 : Nat) (tm : Int32) (cbf : Int32) (pB : Nat) (pS : Nat) (pG : Nat) (pE : Nat) (pC : Nat) (pO : Nat) (f : Nat → Int32) (n : Nat) (g : Nat → Nat) (d : Nat) (hn : n ≤ 70) (hg : oc_is f n g) (hpv : pvd pB pS pG pE pC pO) (hd : d < 65536) : Met l yX3_isInError wsX3_isInError ({ frames := 4, cells := 0, slots := 0, locals := 86 } : Room) (pre1 D cy [.ref h0, .int (nI d)] [(h0, .inr (4, [.ref p0, .ref r0, .int tm, .int cbf])), (p0, .inr (3, [.int (nI pB), .int (nI pS), .int (nI pG), .int (nI pE), .int (nI pC), .int (nI pO)])), (r0, .inr (2, [.ref r1, .int (nI n)])), (r1, .inl (cy 0, 70, .inl f))] sz) (va_Qi (fun (r : Int32) (u : Unit) => r = rc_err pB pS pG pE pC pO d n g tm) (fun u t => va_P D vwCl [(h0, .inr (4, [.ref p0, .ref r0, .int tm, .int cbf])), (p0, .inr (3, [.int (nI pB), .int (nI pS), .int (nI pG), .int (nI pE), .int (nI pC), .int (nI pO)])), (r0, .inr (2, [.ref r1, .int (nI n)])), (r1, .inl (cy 0, 70, .inl f))] t.heap ∧ va_D (va_A [(h0, .inr (4, [.ref p0, .ref r0, .int tm, .int cbf])), (p0, .inr (3, [.int (nI pB), .int (nI pS), .int (nI pG), .int (nI pE), .int (nI pC), .int (nI pO)])), (r0, .inr (2, [.ref r1, .int (nI n)])), (r1, .inl (cy 0, 70, .inl f))] sz) [(h0, .inr (4, [.ref p0, .ref r0, .int tm, .int cbf])), (p0, .inr (3, [.int (nI pB), .int (nI pS), .int (nI pG), .int (nI pE), .int (nI pC), .int (nI pO)])), (r0, .inr (2, [.ref r1, .int (nI n)])), (r1, .inl (cy 0, 70, .inl f))]) (va_A [(h0, .inr (4, [.ref p0, .ref r0, .int tm, .int cbf])), (p0, .inr (3, [.int (nI pB), .int (nI pS), .int (nI pG), .int (nI pE), .int (nI pC), .int (nI pO)])), (r0, .inr (2, [.ref r1, .int (nI n)])), (r1, .inl (cy 0, 70, .inl f))] sz)) 0 0 (va_A [(h0, .inr (4, [.ref p0, .ref r0, .int tm, .int cbf])), (p0, .inr (3, [.int (nI pB), .int (nI pS), .int (nI pG), .int (nI pE), .int (nI pC), .int (nI pO)])), (r0, .inr (2, [.ref r1, .int (nI n)])), (r1, .inl (cy 0, 70, .inl f))] sz) := by
  refine Met.ofW (cc := cX3_isInError) (maxL := 4) (ret := (some .boolean)) (by decide) rfl ?_
  intro p e s m args below meth c s₁ B hml hv
  obtain ⟨rfl, hsz, hP, hkk, hD0⟩ := hv
  have hx := B.exec
  have hb := B.bytes
  have hr := B.returns
  have hts := atoms_spec (ws := wsX3_isInError) B.pre
  have hown : s.vm.findClass RX3 = some m.cls := findClass_of_methodNamed B.named
  have hlocks := B.notSynchronized
  have hin : meth.name = _ := (name_of_methodNamed B.named B.method).1
  have hK := hkk.1
  subst hsz
  have hD := hD0.self (sz := s.heap.size)
  generalize hAe : va_A [(h0, .inr (4, [.ref p0, .ref r0, .int tm, .int cbf])), (p0, .inr (3, [.int (nI pB), .int (nI pS), .int (nI pG), .int (nI pE), .int (nI pC), .int (nI pO)])), (r0, .inr (2, [.ref r1, .int (nI n)])), (r1, .inl (cy 0, 70, .inl f))] s.heap.size = A at hD ⊢
  have hA : ∀ q : Nat, s.heap.size ≤ q → A q := fun q h => by rw [← hAe]; exact Or.inr h
  have hS : va_S A s.heap s.heap [] := va_S.rf
  have hP : va_P D vwCl [(h0, .inr (4, [.ref p0, .ref r0, .int tm, .int cbf])), (p0, .inr (3, [.int (nI pB), .int (nI pS), .int (nI pG), .int (nI pE), .int (nI pC), .int (nI pO)])), (r0, .inr (2, [.ref r1, .int (nI n)])), (r1, .inl (cy 0, 70, .inl f))] s.heap := hP
  have hl := lv_entry ([.ref h0, .int (nI d)]) (n := 4) (Nat.le_of_ble_eq_true rfl)
  rw [lg_entry_eq]
  generalize (lg_sl ([.ref h0, .int (nI d)]) ++ List.replicate (4 - (lg_sl ([.ref h0, .int (nI d)])).length) Slot.unset).toArray = ls at hl ⊢
  have hl : lv_has ls 4 [(0, .ref h0), (1, .int (nI d))] := hl
  have h8 := isB_8 hpv.1
  have hO2 := hpv.2.2.2.2.2.2
  have hC9 := hpv.2.2.2.2.2.1
  refine lv_aload_n hx hb dX3_isInError_0 rfl (lv_at hl 0 rfl) ?_
  refine va_get (D := D) (ci := 4) (v := .ref r0) (C := RX3) (T := TX3) (N := 4) hx hb hts iw_X3_isInError_X3 hown hK hP 0 rfl rfl 1 (by decide) (hts _ lk_X3_isInError_f12) (fun _ h9 => h9) rfl dX3_isInError_1 ?_
  refine va_getN (D := D) (ci := 2) (v := .int (nI n)) (C := RX1) (T := TX1) (N := 2) hx hb hts iw_X3_isInError_X1 hown hK hP 2 rfl rfl 1 (by decide) (nw_use 4 rfl rfl hkk.2) (fun _ h9 => h9) rfl dX3_isInError_4 ?_
  refine lv_aload_n hx hb dX3_isInError_7 rfl (lv_at hl 0 rfl) ?_
  refine va_get (D := D) (ci := 4) (v := .ref p0) (C := RX3) (T := TX3) (N := 4) hx hb hts iw_X3_isInError_X3 hown hK hP 0 rfl rfl 0 (by decide) (hts _ lk_X3_isInError_f22) (fun _ h9 => h9) rfl dX3_isInError_8 ?_
  have hPc := hP.sub (ws' := [(p0, .inr (3, [.int (nI pB), .int (nI pS), .int (nI pG), .int (nI pE), .int (nI pC), .int (nI pO)]))]) [1] rfl
  have hDc := hD.sub (ws' := [(p0, .inr (3, [.int (nI pB), .int (nI pS), .int (nI pG), .int (nI pE), .int (nI pC), .int (nI pO)]))]) [1] (by decide) rfl
  have hFc := va_free (wc := [(p0, .inr (3, [.int (nI pB), .int (nI pS), .int (nI pG), .int (nI pE), .int (nI pC), .int (nI pO)]))]) hD hS hA [1] rfl
  refine va_calli (va_runV (As := []) (rest := [.int (nI n)]) ⟨hx, hb, hml, hown, hts⟩ (c_X2_checkOctets l D cy s.heap.size p0 pB pS pG pE pC pO hpv.1) (cwV 0 hts gX3_isInError_X2_checkOctets rfl rfl rfl (by decide +kernel) ⟨Nat.le_of_ble_eq_true rfl, Nat.le_of_ble_eq_true rfl⟩) (pv_V (ci := 3) (q := (RX2, TX2, 6)) hkk hPc hDc rfl rfl rfl) rfl rfl hl.1 rfl (lv_room (Nat.le_of_ble_eq_true rfl)) dX3_isInError_11 ⟨Nat.le_of_ble_eq_true rfl, Nat.le_of_ble_eq_true rfl⟩) hS (fun q _ h => hFc q h) hFc (fun r_11 u t H1 locs ht hvm hw hB hz1 hk1 hS => ?_)
  obtain ⟨hP1, hD1⟩ := hB
  rw [ht] at hP1
  try dsimp only at hw hP1 hD1
  obtain ⟨hP, hD⟩ := va_join (wr := [(h0, .inr (4, [.ref p0, .ref r0, .int tm, .int cbf])), (r0, .inr (2, [.ref r1, .int (nI n)])), (r1, .inl (cy 0, 70, .inl f))]) (w1 := [(p0, .inr (3, [.int (nI pB), .int (nI pS), .int (nI pG), .int (nI pE), .int (nI pC), .int (nI pO)]))]) hP hD [1] [0, 2, 3] rfl rfl (by decide) (by decide) hk1 hFc hP1 hD1
  clear hPc hDc hFc hP1 hD1 hz1 hk1
  generalize H1 = H at hP hS ⊢
  have hP : va_P D vwCl [(h0, .inr (4, [.ref p0, .ref r0, .int tm, .int cbf])), (r0, .inr (2, [.ref r1, .int (nI n)])), (r1, .inl (cy 0, 70, .inl f)), (p0, .inr (3, [.int (nI pB), .int (nI pS), .int (nI pG), .int (nI pE), .int (nI pC), .int (nI pO)]))] H := hP
  have hD : va_D A [(h0, .inr (4, [.ref p0, .ref r0, .int tm, .int cbf])), (r0, .inr (2, [.ref r1, .int (nI n)])), (r1, .inl (cy 0, 70, .inl f)), (p0, .inr (3, [.int (nI pB), .int (nI pS), .int (nI pG), .int (nI pE), .int (nI pC), .int (nI pO)]))] := hD
  obtain rfl := hw
  refine lv_isub hx hb dX3_isInError_14 ?_
  refine lv_istore_n (lv' := [(2, .int ((nI n) - (nI (pB / 8)))), (0, .ref h0), (1, .int (nI d))]) hx hb dX3_isInError_15 rfl hl (by decide) rfl (fun ls hl => ?_)
  refine lv_aload_n hx hb dX3_isInError_16 rfl (lv_at hl 1 rfl) ?_
  refine va_get (D := D) (ci := 4) (v := .int tm) (C := RX3) (T := TX3) (N := 4) hx hb hts iw_X3_isInError_X3 hown hK hP 0 rfl rfl 2 (by decide) (hts _ lk_X3_isInError_f30) (fun _ h9 => h9) rfl dX3_isInError_17 ?_
  refine lv_if_ne (tgt := 34) hx hb dX3_isInError_20 (by decide) (fun c_20 => ?_) (fun c_20 => ?_)
  · refine lv_iconst (v := 1) hx hb dX3_isInError_34 (by decide) ?_
    have hP9 := hP.sub (ws' := [(h0, .inr (4, [.ref p0, .ref r0, .int tm, .int cbf])), (p0, .inr (3, [.int (nI pB), .int (nI pS), .int (nI pG), .int (nI pE), .int (nI pC), .int (nI pO)])), (r0, .inr (2, [.ref r1, .int (nI n)])), (r1, .inl (cy 0, 70, .inl f))]) [0, 3, 1, 2] rfl
    have hD9 := hD.sub (ws' := [(h0, .inr (4, [.ref p0, .ref r0, .int tm, .int cbf])), (p0, .inr (3, [.int (nI pB), .int (nI pS), .int (nI pG), .int (nI pE), .int (nI pC), .int (nI pO)])), (r0, .inr (2, [.ref r1, .int (nI n)])), (r1, .inl (cy 0, 70, .inl f))]) [0, 3, 1, 2] (by decide) rfl
    exact W.zret (v := 1) hx hb hr rfl (fun t ht hW => ⟨⟨1, (), rfl, by unfold rc_err; rw [if_pos (Or.inl c_20)], by rw [ht]; exact hP9, hD9⟩, hS.F ht⟩) hS.2.2 dX3_isInError_35
  · refine lv_iload_n hx hb dX3_isInError_23 rfl (lv_at hl 0 rfl) ?_
    refine lv_aload_n hx hb dX3_isInError_24 rfl (lv_at hl 1 rfl) ?_
    refine va_get (D := D) (ci := 4) (v := .ref p0) (C := RX3) (T := TX3) (N := 4) hx hb hts iw_X3_isInError_X3 hown hK hP 0 rfl rfl 0 (by decide) (hts _ lk_X3_isInError_f22) (fun _ h9 => h9) rfl dX3_isInError_25 ?_
    refine va_getN (D := D) (ci := 3) (v := .int (nI pO)) (C := RX2) (T := TX2) (N := 6) hx hb hts iw_X3_isInError_X2 hown hK hP 3 rfl rfl 5 (by decide) (nw_use 1 rfl rfl hkk.2) (fun _ h9 => h9) rfl dX3_isInError_28 ?_
    refine lv_icmp_ge (tgt := 36) hx hb dX3_isInError_31 (by decide) (fun c_31 => ?_) (fun c_31 => ?_)
    · have h36 : pB / 8 + pO ≤ n := (rc_cmp hn h8.2.1 hO2.2).mp c_31
      rw [pk_sub (by omega)] at hl
      refine lv_aload_n hx hb dX3_isInError_36 rfl (lv_at hl 1 rfl) ?_
      refine va_get (D := D) (ci := 4) (v := .ref r0) (C := RX3) (T := TX3) (N := 4) hx hb hts iw_X3_isInError_X3 hown hK hP 0 rfl rfl 1 (by decide) (hts _ lk_X3_isInError_f12) (fun _ h9 => h9) rfl dX3_isInError_37 ?_
      refine lv_iload_n hx hb dX3_isInError_40 rfl (lv_at hl 0 rfl) ?_
      refine lv_aload_n hx hb dX3_isInError_41 rfl (lv_at hl 1 rfl) ?_
      refine va_get (D := D) (ci := 4) (v := .ref p0) (C := RX3) (T := TX3) (N := 4) hx hb hts iw_X3_isInError_X3 hown hK hP 0 rfl rfl 0 (by decide) (hts _ lk_X3_isInError_f22) (fun _ h9 => h9) rfl dX3_isInError_42 ?_
      have hPc := hP.sub (ws' := [(p0, .inr (3, [.int (nI pB), .int (nI pS), .int (nI pG), .int (nI pE), .int (nI pC), .int (nI pO)]))]) [3] rfl
      have hDc := hD.sub (ws' := [(p0, .inr (3, [.int (nI pB), .int (nI pS), .int (nI pG), .int (nI pE), .int (nI pC), .int (nI pO)]))]) [3] (by decide) rfl
      have hFc := va_free (wc := [(p0, .inr (3, [.int (nI pB), .int (nI pS), .int (nI pG), .int (nI pE), .int (nI pC), .int (nI pO)]))]) hD hS hA [3] rfl
      refine va_calli (va_runV (As := []) (rest := [.int (nI (n - pB / 8)), .ref r0]) ⟨hx, hb, hml, hown, hts⟩ (c_X2_checkOctets l D cy H.size p0 pB pS pG pE pC pO hpv.1) (cwV 0 hts gX3_isInError_X2_checkOctets rfl rfl rfl (by decide +kernel) ⟨Nat.le_of_ble_eq_true rfl, Nat.le_of_ble_eq_true rfl⟩) (pv_V (ci := 3) (q := (RX2, TX2, 6)) hkk hPc hDc rfl rfl rfl) rfl rfl hl.1 rfl (lv_room (Nat.le_of_ble_eq_true rfl)) dX3_isInError_45 ⟨Nat.le_of_ble_eq_true rfl, Nat.le_of_ble_eq_true rfl⟩) hS (fun q _ h => hFc q h) hFc (fun r_45 u t H1 locs ht hvm hw hB hz1 hk1 hS => ?_)
      obtain ⟨hP1, hD1⟩ := hB
      rw [ht] at hP1
      try dsimp only at hw hP1 hD1
      obtain ⟨hP, hD⟩ := va_join (wr := [(h0, .inr (4, [.ref p0, .ref r0, .int tm, .int cbf])), (r0, .inr (2, [.ref r1, .int (nI n)])), (r1, .inl (cy 0, 70, .inl f))]) (w1 := [(p0, .inr (3, [.int (nI pB), .int (nI pS), .int (nI pG), .int (nI pE), .int (nI pC), .int (nI pO)]))]) hP hD [3] [0, 1, 2] rfl rfl (by decide) (by decide) hk1 hFc hP1 hD1
      clear hPc hDc hFc hP1 hD1 hz1 hk1
      generalize H1 = H at hP hS ⊢
      have hP : va_P D vwCl [(h0, .inr (4, [.ref p0, .ref r0, .int tm, .int cbf])), (r0, .inr (2, [.ref r1, .int (nI n)])), (r1, .inl (cy 0, 70, .inl f)), (p0, .inr (3, [.int (nI pB), .int (nI pS), .int (nI pG), .int (nI pE), .int (nI pC), .int (nI pO)]))] H := hP
      have hD : va_D A [(h0, .inr (4, [.ref p0, .ref r0, .int tm, .int cbf])), (r0, .inr (2, [.ref r1, .int (nI n)])), (r1, .inl (cy 0, 70, .inl f)), (p0, .inr (3, [.int (nI pB), .int (nI pS), .int (nI pG), .int (nI pE), .int (nI pC), .int (nI pO)]))] := hD
      obtain rfl := hw
      have hPc := hP.sub (ws' := [(r0, .inr (2, [.ref r1, .int (nI n)])), (r1, .inl (cy 0, 70, .inl f))]) [1, 2] rfl
      have hDc := hD.sub (ws' := [(r0, .inr (2, [.ref r1, .int (nI n)])), (r1, .inl (cy 0, 70, .inl f))]) [1, 2] (by decide) rfl
      have hFc := va_free (wc := [(r0, .inr (2, [.ref r1, .int (nI n)])), (r1, .inl (cy 0, 70, .inl f))]) hD hS hA [1, 2] rfl
      refine va_calli (va_runV (As := [.int (nI (n - pB / 8)), .int (nI (pB / 8))]) (rest := []) ⟨hx, hb, hml, hown, hts⟩ (c_X1_numberAt l D cy H.size r0 r1 f n (nI (n - pB / 8)) (pB / 8) (by first | assumption | omega) (by omega)) (cwV 2 hts gX3_isInError_X1_numberAt rfl rfl rfl (by decide +kernel) ⟨Nat.le_of_ble_eq_true rfl, Nat.le_of_ble_eq_true rfl⟩) (pv_V (ci := 2) (q := (RX1, TX1, 2)) hkk hPc hDc rfl rfl rfl) rfl rfl hl.1 rfl (lv_room (Nat.le_of_ble_eq_true rfl)) dX3_isInError_48 ⟨Nat.le_of_ble_eq_true rfl, Nat.le_of_ble_eq_true rfl⟩) hS (fun q _ h => hFc q h) hFc (fun r_48 u t H1 locs ht hvm hw hB hz1 hk1 hS => ?_)
      obtain ⟨hP1, hD1⟩ := hB
      rw [ht] at hP1
      try dsimp only at hw hP1 hD1
      obtain ⟨hP, hD⟩ := va_join (wr := [(h0, .inr (4, [.ref p0, .ref r0, .int tm, .int cbf])), (p0, .inr (3, [.int (nI pB), .int (nI pS), .int (nI pG), .int (nI pE), .int (nI pC), .int (nI pO)]))]) (w1 := [(r0, .inr (2, [.ref r1, .int (nI n)])), (r1, .inl (cy 0, 70, .inl f))]) hP hD [1, 2] [0, 3] rfl rfl (by decide) (by decide) hk1 hFc hP1 hD1
      clear hPc hDc hFc hP1 hD1 hz1 hk1
      generalize H1 = H at hP hS ⊢
      have hP : va_P D vwCl [(h0, .inr (4, [.ref p0, .ref r0, .int tm, .int cbf])), (p0, .inr (3, [.int (nI pB), .int (nI pS), .int (nI pG), .int (nI pE), .int (nI pC), .int (nI pO)])), (r0, .inr (2, [.ref r1, .int (nI n)])), (r1, .inl (cy 0, 70, .inl f))] H := hP
      have hD : va_D A [(h0, .inr (4, [.ref p0, .ref r0, .int tm, .int cbf])), (p0, .inr (3, [.int (nI pB), .int (nI pS), .int (nI pG), .int (nI pE), .int (nI pC), .int (nI pO)])), (r0, .inr (2, [.ref r1, .int (nI n)])), (r1, .inl (cy 0, 70, .inl f))] := hD
      obtain rfl := hw
      refine lv_topi (fun x_48 ex_48 => ?_)
      obtain rfl : x_48 = nI (be g (n - pB / 8) (pB / 8)) := by rw [ex_48]; exact oc_num_be hg hn _ h8.2.1 (by omega)
      refine lv_istore_n (lv' := [(3, .int (nI (be g (n - pB / 8) (pB / 8)))), (2, .int (nI (n - pB / 8))), (0, .ref h0), (1, .int (nI d))]) hx hb dX3_isInError_51 rfl hl (by decide) rfl (fun ls hl => ?_)
      refine lv_iload_n hx hb dX3_isInError_52 rfl (lv_at hl 0 rfl) ?_
      refine lv_aload_n hx hb dX3_isInError_53 rfl (lv_at hl 2 rfl) ?_
      refine va_get (D := D) (ci := 4) (v := .ref p0) (C := RX3) (T := TX3) (N := 4) hx hb hts iw_X3_isInError_X3 hown hK hP 0 rfl rfl 0 (by decide) (hts _ lk_X3_isInError_f22) (fun _ h9 => h9) rfl dX3_isInError_54 ?_
      refine lv_iload_n hx hb dX3_isInError_57 rfl (lv_at hl 3 rfl) ?_
      refine lv_aload_n hx hb dX3_isInError_58 rfl (lv_at hl 2 rfl) ?_
      refine va_get (D := D) (ci := 4) (v := .ref r0) (C := RX3) (T := TX3) (N := 4) hx hb hts iw_X3_isInError_X3 hown hK hP 0 rfl rfl 1 (by decide) (hts _ lk_X3_isInError_f12) (fun _ h9 => h9) rfl dX3_isInError_59 ?_
      refine lv_iload_n hx hb dX3_isInError_62 rfl (lv_at hl 1 rfl) ?_
      have hPc := hP.sub (ws' := [(p0, .inr (3, [.int (nI pB), .int (nI pS), .int (nI pG), .int (nI pE), .int (nI pC), .int (nI pO)])), (r0, .inr (2, [.ref r1, .int (nI n)])), (r1, .inl (cy 0, 70, .inl f))]) [1, 2, 3] rfl
      have hDc := hD.sub (ws' := [(p0, .inr (3, [.int (nI pB), .int (nI pS), .int (nI pG), .int (nI pE), .int (nI pC), .int (nI pO)])), (r0, .inr (2, [.ref r1, .int (nI n)])), (r1, .inl (cy 0, 70, .inl f))]) [1, 2, 3] (by decide) rfl
      have hFc := va_free (wc := [(p0, .inr (3, [.int (nI pB), .int (nI pS), .int (nI pG), .int (nI pE), .int (nI pC), .int (nI pO)])), (r0, .inr (2, [.ref r1, .int (nI n)])), (r1, .inl (cy 0, 70, .inl f))]) hD hS hA [1, 2, 3] rfl
      refine va_calli (va_runV (As := [.int (nI d), .ref r0, .int (nI (n - pB / 8))]) (rest := [.int (nI (be g (n - pB / 8) (pB / 8)))]) ⟨hx, hb, hml, hown, hts⟩ (c_X2_checkOver l D cy H.size p0 pB pS pG pE pC pO r0 r1 f n g d (n - pB / 8) hpv.1 hpv.2.2.1 hpv.2.1 (by first | assumption | omega) (by first | assumption | omega) (Nat.sub_le _ _) (by first | assumption | omega)) (cwV 3 hts gX3_isInError_X2_checkOver rfl rfl rfl (by decide +kernel) ⟨Nat.le_of_ble_eq_true rfl, Nat.le_of_ble_eq_true rfl⟩) (pv_V (ci := 3) (q := (RX2, TX2, 6)) hkk hPc hDc rfl rfl rfl) rfl rfl hl.1 rfl (lv_room (Nat.le_of_ble_eq_true rfl)) dX3_isInError_63 ⟨Nat.le_of_ble_eq_true rfl, Nat.le_of_ble_eq_true rfl⟩) hS (fun q _ h => hFc q h) hFc (fun r_63 u t H1 locs ht hvm hw hB hz1 hk1 hS => ?_)
      obtain ⟨hP1, hD1⟩ := hB
      rw [ht] at hP1
      try dsimp only at hw hP1 hD1
      obtain ⟨hP, hD⟩ := va_join (wr := [(h0, .inr (4, [.ref p0, .ref r0, .int tm, .int cbf]))]) (w1 := [(p0, .inr (3, [.int (nI pB), .int (nI pS), .int (nI pG), .int (nI pE), .int (nI pC), .int (nI pO)])), (r0, .inr (2, [.ref r1, .int (nI n)])), (r1, .inl (cy 0, 70, .inl f))]) hP hD [1, 2, 3] [0] rfl rfl (by decide) (by decide) hk1 hFc hP1 hD1
      clear hPc hDc hFc hP1 hD1 hz1 hk1
      generalize H1 = H at hP hS ⊢
      have hP : va_P D vwCl [(h0, .inr (4, [.ref p0, .ref r0, .int tm, .int cbf])), (p0, .inr (3, [.int (nI pB), .int (nI pS), .int (nI pG), .int (nI pE), .int (nI pC), .int (nI pO)])), (r0, .inr (2, [.ref r1, .int (nI n)])), (r1, .inl (cy 0, 70, .inl f))] H := hP
      have hD : va_D A [(h0, .inr (4, [.ref p0, .ref r0, .int tm, .int cbf])), (p0, .inr (3, [.int (nI pB), .int (nI pS), .int (nI pG), .int (nI pE), .int (nI pC), .int (nI pO)])), (r0, .inr (2, [.ref r1, .int (nI n)])), (r1, .inl (cy 0, 70, .inl f))] := hD
      obtain rfl := hw
      refine lv_icmp_ne (tgt := 83) hx hb dX3_isInError_66 (by decide) (fun c_66 => ?_) (fun c_66 => ?_)
      · refine lv_iconst (v := 1) hx hb dX3_isInError_83 (by decide) ?_
        refine lv_goto (tgt := 88) hx hb dX3_isInError_84 (by decide) ?_
        have hP9 := hP.sub (ws' := [(h0, .inr (4, [.ref p0, .ref r0, .int tm, .int cbf])), (p0, .inr (3, [.int (nI pB), .int (nI pS), .int (nI pG), .int (nI pE), .int (nI pC), .int (nI pO)])), (r0, .inr (2, [.ref r1, .int (nI n)])), (r1, .inl (cy 0, 70, .inl f))]) [0, 1, 2, 3] rfl
        have hD9 := hD.sub (ws' := [(h0, .inr (4, [.ref p0, .ref r0, .int tm, .int cbf])), (p0, .inr (3, [.int (nI pB), .int (nI pS), .int (nI pG), .int (nI pE), .int (nI pC), .int (nI pO)])), (r0, .inr (2, [.ref r1, .int (nI n)])), (r1, .inl (cy 0, 70, .inl f))]) [0, 1, 2, 3] (by decide) rfl
        exact W.zret (v := 1) hx hb hr rfl (fun t ht hW => ⟨⟨1, (), rfl, by unfold rc_err; rw [if_pos (Or.inr (Or.inr (Or.inl fun q => c_66 (congrArg nI q))))], by rw [ht]; exact hP9, hD9⟩, hS.F ht⟩) hS.2.2 dX3_isInError_88
      · have hbe : be g (n - pB / 8) (pB / 8) < 2 ^ 32 := isB_32 hpv.1 (h8.2.2 ▸ be_lt (fun j hj => (hg _ (by omega)).2))
        have hck : ck pB pS pG pE d g (n - pB / 8) < 2 ^ 32 := isB_32 hpv.1 (ck_lt hpv.2.1 hpv.2.2.1 hpv.2.2.2.1)
        have hbe0 : be g 0 pO < 2 ^ 31 := Nat.lt_of_lt_of_le (be_lt (fun j hj => (hg _ (by omega)).2)) (Nat.le_trans (Nat.pow_le_pow_right (by decide) hO2.2) (by decide))
        refine lv_aload_n hx hb dX3_isInError_69 rfl (lv_at hl 2 rfl) ?_
        have hPc := hP.sub (ws' := [(h0, .inr (4, [.ref p0, .ref r0, .int tm, .int cbf])), (p0, .inr (3, [.int (nI pB), .int (nI pS), .int (nI pG), .int (nI pE), .int (nI pC), .int (nI pO)])), (r0, .inr (2, [.ref r1, .int (nI n)])), (r1, .inl (cy 0, 70, .inl f))]) [0, 1, 2, 3] rfl
        have hDc := hD.sub (ws' := [(h0, .inr (4, [.ref p0, .ref r0, .int tm, .int cbf])), (p0, .inr (3, [.int (nI pB), .int (nI pS), .int (nI pG), .int (nI pE), .int (nI pC), .int (nI pO)])), (r0, .inr (2, [.ref r1, .int (nI n)])), (r1, .inl (cy 0, 70, .inl f))]) [0, 1, 2, 3] (by decide) rfl
        have hFc := va_free (wc := [(h0, .inr (4, [.ref p0, .ref r0, .int tm, .int cbf])), (p0, .inr (3, [.int (nI pB), .int (nI pS), .int (nI pG), .int (nI pE), .int (nI pC), .int (nI pO)])), (r0, .inr (2, [.ref r1, .int (nI n)])), (r1, .inl (cy 0, 70, .inl f))]) hD hS hA [0, 1, 2, 3] rfl
        refine va_calli (va_runV (As := []) (rest := []) ⟨hx, hb, hml, hown, hts⟩ (c_X3_rowCounter l D cy H.size h0 p0 r0 r1 tm cbf pB pS pG pE pC pO f n g (by first | assumption | omega) (by first | assumption | omega) (by first | assumption | omega) (by omega)) (cwV 0 hts gX3_isInError_X3_rowCounter rfl rfl rfl (by decide +kernel) ⟨Nat.le_of_ble_eq_true rfl, Nat.le_of_ble_eq_true rfl⟩) (pv_V (ci := 4) (q := (RX3, TX3, 4)) hkk hPc hDc rfl rfl rfl) rfl rfl hl.1 rfl (lv_room (Nat.le_of_ble_eq_true rfl)) dX3_isInError_70 ⟨Nat.le_of_ble_eq_true rfl, Nat.le_of_ble_eq_true rfl⟩) hS (fun q _ h => hFc q h) hFc (fun r_70 u t H1 locs ht hvm hw hB hz1 hk1 hS => ?_)
        obtain ⟨hP1, hD1⟩ := hB
        rw [ht] at hP1
        try dsimp only at hw hP1 hD1
        obtain ⟨hP, hD⟩ := va_join (wr := []) (w1 := [(h0, .inr (4, [.ref p0, .ref r0, .int tm, .int cbf])), (p0, .inr (3, [.int (nI pB), .int (nI pS), .int (nI pG), .int (nI pE), .int (nI pC), .int (nI pO)])), (r0, .inr (2, [.ref r1, .int (nI n)])), (r1, .inl (cy 0, 70, .inl f))]) hP hD [0, 1, 2, 3] [] rfl rfl (by decide) (by decide) hk1 hFc hP1 hD1
        clear hPc hDc hFc hP1 hD1 hz1 hk1
        generalize H1 = H at hP hS ⊢
        have hP : va_P D vwCl [(h0, .inr (4, [.ref p0, .ref r0, .int tm, .int cbf])), (p0, .inr (3, [.int (nI pB), .int (nI pS), .int (nI pG), .int (nI pE), .int (nI pC), .int (nI pO)])), (r0, .inr (2, [.ref r1, .int (nI n)])), (r1, .inl (cy 0, 70, .inl f))] H := hP
        have hD : va_D A [(h0, .inr (4, [.ref p0, .ref r0, .int tm, .int cbf])), (p0, .inr (3, [.int (nI pB), .int (nI pS), .int (nI pG), .int (nI pE), .int (nI pC), .int (nI pO)])), (r0, .inr (2, [.ref r1, .int (nI n)])), (r1, .inl (cy 0, 70, .inl f))] := hD
        obtain rfl := hw
        refine lv_aload_n hx hb dX3_isInError_73 rfl (lv_at hl 2 rfl) ?_
        refine va_get (D := D) (ci := 4) (v := .ref p0) (C := RX3) (T := TX3) (N := 4) hx hb hts iw_X3_isInError_X3 hown hK hP 0 rfl rfl 0 (by decide) (hts _ lk_X3_isInError_f22) (fun _ h9 => h9) rfl dX3_isInError_74 ?_
        refine va_getN (D := D) (ci := 3) (v := .int (nI pC)) (C := RX2) (T := TX2) (N := 6) hx hb hts iw_X3_isInError_X2 hown hK hP 1 rfl rfl 4 (by decide) (nw_use 0 rfl rfl hkk.2) (fun _ h9 => h9) rfl dX3_isInError_77 ?_
        refine lv_icmp_lt (tgt := 87) hx hb dX3_isInError_80 (by decide) (fun c_80 => ?_) (fun c_80 => ?_)
        · refine lv_iconst (v := 0) hx hb dX3_isInError_87 (by decide) ?_
          have hP9 := hP.sub (ws' := [(h0, .inr (4, [.ref p0, .ref r0, .int tm, .int cbf])), (p0, .inr (3, [.int (nI pB), .int (nI pS), .int (nI pG), .int (nI pE), .int (nI pC), .int (nI pO)])), (r0, .inr (2, [.ref r1, .int (nI n)])), (r1, .inl (cy 0, 70, .inl f))]) [0, 1, 2, 3] rfl
          have hD9 := hD.sub (ws' := [(h0, .inr (4, [.ref p0, .ref r0, .int tm, .int cbf])), (p0, .inr (3, [.int (nI pB), .int (nI pS), .int (nI pG), .int (nI pE), .int (nI pC), .int (nI pO)])), (r0, .inr (2, [.ref r1, .int (nI n)])), (r1, .inl (cy 0, 70, .inl f))]) [0, 1, 2, 3] (by decide) rfl
          exact W.zret (v := 0) hx hb hr rfl (fun t ht hW => ⟨⟨0, (), rfl, by unfold rc_err; rw [if_neg (fun q => q.elim (fun a => a c_20) (fun q => q.elim (fun a => absurd h36 (Nat.not_le.mpr a)) (fun q => q.elim (fun a => a (nI_inj32 hbe hck c_66)) (fun a => absurd ((nI_ltI hbe0 (by omega)).mp c_80) (Nat.not_lt.mpr a)))))], by rw [ht]; exact hP9, hD9⟩, hS.F ht⟩) hS.2.2 dX3_isInError_88
        · refine lv_iconst (v := 1) hx hb dX3_isInError_83 (by decide) ?_
          refine lv_goto (tgt := 88) hx hb dX3_isInError_84 (by decide) ?_
          have hP9 := hP.sub (ws' := [(h0, .inr (4, [.ref p0, .ref r0, .int tm, .int cbf])), (p0, .inr (3, [.int (nI pB), .int (nI pS), .int (nI pG), .int (nI pE), .int (nI pC), .int (nI pO)])), (r0, .inr (2, [.ref r1, .int (nI n)])), (r1, .inl (cy 0, 70, .inl f))]) [0, 1, 2, 3] rfl
          have hD9 := hD.sub (ws' := [(h0, .inr (4, [.ref p0, .ref r0, .int tm, .int cbf])), (p0, .inr (3, [.int (nI pB), .int (nI pS), .int (nI pG), .int (nI pE), .int (nI pC), .int (nI pO)])), (r0, .inr (2, [.ref r1, .int (nI n)])), (r1, .inl (cy 0, 70, .inl f))]) [0, 1, 2, 3] (by decide) rfl
          exact W.zret (v := 1) hx hb hr rfl (fun t ht hW => ⟨⟨1, (), rfl, by unfold rc_err; rw [if_pos (Or.inr (Or.inr (Or.inr (Nat.not_lt.mp fun q => c_80 (nI_lt q (by omega))))))], by rw [ht]; exact hP9, hD9⟩, hS.F ht⟩) hS.2.2 dX3_isInError_88
    · refine lv_iconst (v := 1) hx hb dX3_isInError_34 (by decide) ?_
      have hP9 := hP.sub (ws' := [(h0, .inr (4, [.ref p0, .ref r0, .int tm, .int cbf])), (p0, .inr (3, [.int (nI pB), .int (nI pS), .int (nI pG), .int (nI pE), .int (nI pC), .int (nI pO)])), (r0, .inr (2, [.ref r1, .int (nI n)])), (r1, .inl (cy 0, 70, .inl f))]) [0, 3, 1, 2] rfl
      have hD9 := hD.sub (ws' := [(h0, .inr (4, [.ref p0, .ref r0, .int tm, .int cbf])), (p0, .inr (3, [.int (nI pB), .int (nI pS), .int (nI pG), .int (nI pE), .int (nI pC), .int (nI pO)])), (r0, .inr (2, [.ref r1, .int (nI n)])), (r1, .inl (cy 0, 70, .inl f))]) [0, 3, 1, 2] (by decide) rfl
      exact W.zret (v := 1) hx hb hr rfl (fun t ht hW => ⟨⟨1, (), rfl, by unfold rc_err; rw [if_pos (Or.inr (Or.inl (Nat.not_le.mp fun q => c_31 ((rc_cmp hn h8.2.1 hO2.2).mpr q))))], by rw [ht]; exact hP9, hD9⟩, hS.F ht⟩) hS.2.2 dX3_isInError_35

theorem iw_X3_endRow_X3 : ∀ w ∈ wsX30, w ∈ wsX3_endRow := by decide +kernel
theorem lk_X3_endRow_f12 : (.fieldLink RX3 12 "DataGuards$Receiver" "row" "LDataGuards$Octets;" : Cond) ∈ wsX3_endRow := by decide +kernel
theorem lk_X3_endRow_f30 : (.fieldLink RX3 30 "DataGuards$Receiver" "tooMany" "Z" : Cond) ∈ wsX3_endRow := by decide +kernel
set_option maxHeartbeats 4000000 in
set_option maxRecDepth 100000 in
/-- Receiver.endRow(identity) -/
theorem c_X3_endRow (l : Launch) (D : va_G) (cy : Nat → ClassId) (sz : Nat) (h0 : Nat) (p0 : Nat) (r0 : Nat) (r1 : Nat) (tm : Int32) (cbf : Int32) (pB : Nat) (pS : Nat) (pG : Nat) (pE : Nat) (pC : Nat) (pO : Nat) (f : Nat → Int32) (n : Nat) (g : Nat → Nat) (d : Nat) (hn : n ≤ 70) (hg : oc_is f n g) (hpv : pvd pB pS pG pE pC pO) (hd : d < 65536) : Met l yX3_endRow wsX3_endRow ({ frames := 5, cells := 0, slots := 0, locals := 109 } : Room) (pre1 D cy [.ref h0, .int (nI d)] [(h0, .inr (4, [.ref p0, .ref r0, .int tm, .int cbf])), (p0, .inr (3, [.int (nI pB), .int (nI pS), .int (nI pG), .int (nI pE), .int (nI pC), .int (nI pO)])), (r0, .inr (2, [.ref r1, .int (nI n)])), (r1, .inl (cy 0, 70, .inl f))] sz) (va_Qi (fun (r : Int32) (u : Unit) => r = if rc_err pB pS pG pE pC pO d n g tm = 0 then rc_fd cbf (nI (be g 0 pO)) pC else 4) (fun u t => va_P D vwCl [(h0, .inr (4, [.ref p0, .ref r0, .int 0, .int (if rc_err pB pS pG pE pC pO d n g tm = 0 then nI (be g 0 pO) else cbf)])), (p0, .inr (3, [.int (nI pB), .int (nI pS), .int (nI pG), .int (nI pE), .int (nI pC), .int (nI pO)])), (r0, .inr (2, [.ref r1, .int (nI 0)])), (r1, .inl (cy 0, 70, .inl f))] t.heap ∧ va_D (va_A [(h0, .inr (4, [.ref p0, .ref r0, .int tm, .int cbf])), (p0, .inr (3, [.int (nI pB), .int (nI pS), .int (nI pG), .int (nI pE), .int (nI pC), .int (nI pO)])), (r0, .inr (2, [.ref r1, .int (nI n)])), (r1, .inl (cy 0, 70, .inl f))] sz) [(h0, .inr (4, [.ref p0, .ref r0, .int 0, .int (if rc_err pB pS pG pE pC pO d n g tm = 0 then nI (be g 0 pO) else cbf)])), (p0, .inr (3, [.int (nI pB), .int (nI pS), .int (nI pG), .int (nI pE), .int (nI pC), .int (nI pO)])), (r0, .inr (2, [.ref r1, .int (nI 0)])), (r1, .inl (cy 0, 70, .inl f))]) (va_A [(h0, .inr (4, [.ref p0, .ref r0, .int tm, .int cbf])), (p0, .inr (3, [.int (nI pB), .int (nI pS), .int (nI pG), .int (nI pE), .int (nI pC), .int (nI pO)])), (r0, .inr (2, [.ref r1, .int (nI n)])), (r1, .inl (cy 0, 70, .inl f))] sz)) 0 0 (va_A [(h0, .inr (4, [.ref p0, .ref r0, .int tm, .int cbf])), (p0, .inr (3, [.int (nI pB), .int (nI pS), .int (nI pG), .int (nI pE), .int (nI pC), .int (nI pO)])), (r0, .inr (2, [.ref r1, .int (nI n)])), (r1, .inl (cy 0, 70, .inl f))] sz) := by
  refine Met.ofW (cc := cX3_endRow) (maxL := 3) (ret := (some .int)) (by decide) rfl ?_
  intro p e s m args below meth c s₁ B hml hv
  obtain ⟨rfl, hsz, hP, hkk, hD0⟩ := hv
  have hx := B.exec
  have hb := B.bytes
  have hr := B.returns
  have hts := atoms_spec (ws := wsX3_endRow) B.pre
  have hown : s.vm.findClass RX3 = some m.cls := findClass_of_methodNamed B.named
  have hlocks := B.notSynchronized
  have hin : meth.name = _ := (name_of_methodNamed B.named B.method).1
  have hK := hkk.1
  subst hsz
  have hD := hD0.self (sz := s.heap.size)
  generalize hAe : va_A [(h0, .inr (4, [.ref p0, .ref r0, .int tm, .int cbf])), (p0, .inr (3, [.int (nI pB), .int (nI pS), .int (nI pG), .int (nI pE), .int (nI pC), .int (nI pO)])), (r0, .inr (2, [.ref r1, .int (nI n)])), (r1, .inl (cy 0, 70, .inl f))] s.heap.size = A at hD ⊢
  have hA : ∀ q : Nat, s.heap.size ≤ q → A q := fun q h => by rw [← hAe]; exact Or.inr h
  have hS : va_S A s.heap s.heap [] := va_S.rf
  have hP : va_P D vwCl [(h0, .inr (4, [.ref p0, .ref r0, .int tm, .int cbf])), (p0, .inr (3, [.int (nI pB), .int (nI pS), .int (nI pG), .int (nI pE), .int (nI pC), .int (nI pO)])), (r0, .inr (2, [.ref r1, .int (nI n)])), (r1, .inl (cy 0, 70, .inl f))] s.heap := hP
  have hl := lv_entry ([.ref h0, .int (nI d)]) (n := 3) (Nat.le_of_ble_eq_true rfl)
  rw [lg_entry_eq]
  generalize (lg_sl ([.ref h0, .int (nI d)]) ++ List.replicate (3 - (lg_sl ([.ref h0, .int (nI d)])).length) Slot.unset).toArray = ls at hl ⊢
  have hl : lv_has ls 3 [(0, .ref h0), (1, .int (nI d))] := hl
  refine lv_aload_n hx hb dX3_endRow_0 rfl (lv_at hl 0 rfl) ?_
  refine lv_iload_n hx hb dX3_endRow_1 rfl (lv_at hl 1 rfl) ?_
  have hPc := hP.sub (ws' := [(h0, .inr (4, [.ref p0, .ref r0, .int tm, .int cbf])), (p0, .inr (3, [.int (nI pB), .int (nI pS), .int (nI pG), .int (nI pE), .int (nI pC), .int (nI pO)])), (r0, .inr (2, [.ref r1, .int (nI n)])), (r1, .inl (cy 0, 70, .inl f))]) [0, 1, 2, 3] rfl
  have hDc := hD.sub (ws' := [(h0, .inr (4, [.ref p0, .ref r0, .int tm, .int cbf])), (p0, .inr (3, [.int (nI pB), .int (nI pS), .int (nI pG), .int (nI pE), .int (nI pC), .int (nI pO)])), (r0, .inr (2, [.ref r1, .int (nI n)])), (r1, .inl (cy 0, 70, .inl f))]) [0, 1, 2, 3] (by decide) rfl
  have hFc := va_free (wc := [(h0, .inr (4, [.ref p0, .ref r0, .int tm, .int cbf])), (p0, .inr (3, [.int (nI pB), .int (nI pS), .int (nI pG), .int (nI pE), .int (nI pC), .int (nI pO)])), (r0, .inr (2, [.ref r1, .int (nI n)])), (r1, .inl (cy 0, 70, .inl f))]) hD hS hA [0, 1, 2, 3] rfl
  refine va_calli (va_runV (As := [.int (nI d)]) (rest := []) ⟨hx, hb, hml, hown, hts⟩ (c_X3_isInError l D cy s.heap.size h0 p0 r0 r1 tm cbf pB pS pG pE pC pO f n g d (by first | assumption | omega) (by first | assumption | omega) (by first | assumption | omega) (by first | assumption | omega)) (cwV 1 hts gX3_endRow_X3_isInError rfl rfl rfl (by decide +kernel) ⟨Nat.le_of_ble_eq_true rfl, Nat.le_of_ble_eq_true rfl⟩) (pv_V (ci := 4) (q := (RX3, TX3, 4)) hkk hPc hDc rfl rfl rfl) rfl rfl hl.1 rfl (lv_room (Nat.le_of_ble_eq_true rfl)) dX3_endRow_2 ⟨Nat.le_of_ble_eq_true rfl, Nat.le_of_ble_eq_true rfl⟩) hS (fun q _ h => hFc q h) hFc (fun r_2 u t H1 locs ht hvm hw hB hz1 hk1 hS => ?_)
  obtain ⟨hP1, hD1⟩ := hB
  rw [ht] at hP1
  try dsimp only at hw hP1 hD1
  obtain ⟨hP, hD⟩ := va_join (wr := []) (w1 := [(h0, .inr (4, [.ref p0, .ref r0, .int tm, .int cbf])), (p0, .inr (3, [.int (nI pB), .int (nI pS), .int (nI pG), .int (nI pE), .int (nI pC), .int (nI pO)])), (r0, .inr (2, [.ref r1, .int (nI n)])), (r1, .inl (cy 0, 70, .inl f))]) hP hD [0, 1, 2, 3] [] rfl rfl (by decide) (by decide) hk1 hFc hP1 hD1
  clear hPc hDc hFc hP1 hD1 hz1 hk1
  generalize H1 = H at hP hS ⊢
  have hP : va_P D vwCl [(h0, .inr (4, [.ref p0, .ref r0, .int tm, .int cbf])), (p0, .inr (3, [.int (nI pB), .int (nI pS), .int (nI pG), .int (nI pE), .int (nI pC), .int (nI pO)])), (r0, .inr (2, [.ref r1, .int (nI n)])), (r1, .inl (cy 0, 70, .inl f))] H := hP
  have hD : va_D A [(h0, .inr (4, [.ref p0, .ref r0, .int tm, .int cbf])), (p0, .inr (3, [.int (nI pB), .int (nI pS), .int (nI pG), .int (nI pE), .int (nI pC), .int (nI pO)])), (r0, .inr (2, [.ref r1, .int (nI n)])), (r1, .inl (cy 0, 70, .inl f))] := hD
  obtain rfl := hw
  have cut_20 : ∀ (r20 : Int32) (cb20 : Int32) (H : Heap) (locs : List Loc), r20 = (if rc_err pB pS pG pE pC pO d n g tm = 0 then rc_fd cbf (nI (be g 0 pO)) pC else 4) → cb20 = (if rc_err pB pS pG pE pC pO d n g tm = 0 then nI (be g 0 pO) else cbf) → va_P D vwCl [(h0, .inr (4, [.ref p0, .ref r0, .int tm, .int cb20])), (p0, .inr (3, [.int (nI pB), .int (nI pS), .int (nI pG), .int (nI pE), .int (nI pC), .int (nI pO)])), (r0, .inr (2, [.ref r1, .int (nI n)])), (r1, .inl (cy 0, 70, .inl f))] H → va_D A [(h0, .inr (4, [.ref p0, .ref r0, .int tm, .int cb20])), (p0, .inr (3, [.int (nI pB), .int (nI pS), .int (nI pG), .int (nI pE), .int (nI pC), .int (nI pO)])), (r0, .inr (2, [.ref r1, .int (nI n)])), (r1, .inl (cy 0, 70, .inl f))] → va_S A s.heap H locs → ∀ (ls : Array Slot), lv_has ls 3 [(0, .ref h0), (1, .int (nI d))] → W p l e (headSpec wsX3_endRow ({ frames := 5, cells := 0, slots := 0, locals := 109 } : Room)).room s m [.ref h0, .int (nI d)].toArray below meth c H locs 0 0 (MQ below (va_Qi (fun (r : Int32) (u : Unit) => r = if rc_err pB pS pG pE pC pO d n g tm = 0 then rc_fd cbf (nI (be g 0 pO)) pC else 4) (fun u t => va_P D vwCl [(h0, .inr (4, [.ref p0, .ref r0, .int 0, .int (if rc_err pB pS pG pE pC pO d n g tm = 0 then nI (be g 0 pO) else cbf)])), (p0, .inr (3, [.int (nI pB), .int (nI pS), .int (nI pG), .int (nI pE), .int (nI pC), .int (nI pO)])), (r0, .inr (2, [.ref r1, .int (nI 0)])), (r1, .inl (cy 0, 70, .inl f))] t.heap ∧ va_D A [(h0, .inr (4, [.ref p0, .ref r0, .int 0, .int (if rc_err pB pS pG pE pC pO d n g tm = 0 then nI (be g 0 pO) else cbf)])), (p0, .inr (3, [.int (nI pB), .int (nI pS), .int (nI pG), .int (nI pE), .int (nI pC), .int (nI pO)])), (r0, .inr (2, [.ref r1, .int (nI 0)])), (r1, .inl (cy 0, 70, .inl f))]) A) [.ref h0, .int (nI d)].toArray s 0 0 A) (F0 m 20 ls [.int r20]) := by
    intro r20 cb20 H locs hr20 hcb20 hP hD hS ls hl
    subst hr20
    subst hcb20
    refine lv_istore_n (lv' := [(2, .int (if rc_err pB pS pG pE pC pO d n g tm = 0 then rc_fd cbf (nI (be g 0 pO)) pC else 4)), (0, .ref h0), (1, .int (nI d))]) hx hb dX3_endRow_20 rfl hl (by decide) rfl (fun ls hl => ?_)
    refine lv_aload_n hx hb dX3_endRow_21 rfl (lv_at hl 1 rfl) ?_
    refine va_get (D := D) (ci := 4) (v := .ref r0) (C := RX3) (T := TX3) (N := 4) hx hb hts iw_X3_endRow_X3 hown hK hP 0 rfl rfl 1 (by decide) (hts _ lk_X3_endRow_f12) (fun _ h9 => h9) rfl dX3_endRow_22 ?_
    have hPc := hP.sub (ws' := [(r0, .inr (2, [.ref r1, .int (nI n)])), (r1, .inl (cy 0, 70, .inl f))]) [2, 3] rfl
    have hDc := hD.sub (ws' := [(r0, .inr (2, [.ref r1, .int (nI n)])), (r1, .inl (cy 0, 70, .inl f))]) [2, 3] (by decide) rfl
    have hFc := va_free (wc := [(r0, .inr (2, [.ref r1, .int (nI n)])), (r1, .inl (cy 0, 70, .inl f))]) hD hS hA [2, 3] rfl
    refine va_callv (va_runV (As := []) (rest := []) ⟨hx, hb, hml, hown, hts⟩ (c_X1_clear l D cy H.size r0 r1 f n ) (cwV 0 hts gX3_endRow_X1_clear rfl rfl rfl (by decide +kernel) ⟨Nat.le_of_ble_eq_true rfl, Nat.le_of_ble_eq_true rfl⟩) (pv_V (ci := 2) (q := (RX1, TX1, 2)) hkk hPc hDc rfl rfl rfl) rfl rfl hl.1 rfl (lv_room (Nat.le_of_ble_eq_true rfl)) dX3_endRow_25 ⟨Nat.le_of_ble_eq_true rfl, Nat.le_of_ble_eq_true rfl⟩) hS (fun q _ h => hFc q h) hFc (fun u t H1 locs ht hvm hw hB hz1 hk1 hS => ?_)
    obtain ⟨hP1, hD1⟩ := hB
    rw [ht] at hP1
    try dsimp only at hw hP1 hD1
    obtain ⟨hP, hD⟩ := va_join (wr := [(h0, .inr (4, [.ref p0, .ref r0, .int tm, .int (if rc_err pB pS pG pE pC pO d n g tm = 0 then nI (be g 0 pO) else cbf)])), (p0, .inr (3, [.int (nI pB), .int (nI pS), .int (nI pG), .int (nI pE), .int (nI pC), .int (nI pO)]))]) (w1 := [(r0, .inr (2, [.ref r1, .int (nI 0)])), (r1, .inl (cy 0, 70, .inl f))]) hP hD [2, 3] [0, 1] rfl rfl (by decide) (by decide) hk1 hFc hP1 hD1
    clear hPc hDc hFc hP1 hD1 hz1 hk1
    generalize H1 = H at hP hS ⊢
    have hP : va_P D vwCl [(h0, .inr (4, [.ref p0, .ref r0, .int tm, .int (if rc_err pB pS pG pE pC pO d n g tm = 0 then nI (be g 0 pO) else cbf)])), (p0, .inr (3, [.int (nI pB), .int (nI pS), .int (nI pG), .int (nI pE), .int (nI pC), .int (nI pO)])), (r0, .inr (2, [.ref r1, .int (nI 0)])), (r1, .inl (cy 0, 70, .inl f))] H := hP
    have hD : va_D A [(h0, .inr (4, [.ref p0, .ref r0, .int tm, .int (if rc_err pB pS pG pE pC pO d n g tm = 0 then nI (be g 0 pO) else cbf)])), (p0, .inr (3, [.int (nI pB), .int (nI pS), .int (nI pG), .int (nI pE), .int (nI pC), .int (nI pO)])), (r0, .inr (2, [.ref r1, .int (nI 0)])), (r1, .inl (cy 0, 70, .inl f))] := hD
    have hw_25 := hw
    refine lv_aload_n hx hb dX3_endRow_28 rfl (lv_at hl 1 rfl) ?_
    refine lv_iconst (v := 0) hx hb dX3_endRow_29 (by decide) ?_
    refine va_put (D := D) (ci := 4) (v := .int 0) (ty := .boolean) (C := RX3) (T := TX3) (N := 4) hx hb hts iw_X3_endRow_X3 tyX3 tyX3_ok nmX3 hown hK hP hD hS 0 rfl rfl 2 (by decide) (hts _ lk_X3_endRow_f30) (fun _ h9 => h9) rfl (by decide +kernel) rfl rfl (Nat.le_of_ble_eq_true rfl) dX3_endRow_30 (fun H locs hP hD hS => ?_)
    have hP : va_P D vwCl [(h0, .inr (4, [.ref p0, .ref r0, .int 0, .int (if rc_err pB pS pG pE pC pO d n g tm = 0 then nI (be g 0 pO) else cbf)])), (p0, .inr (3, [.int (nI pB), .int (nI pS), .int (nI pG), .int (nI pE), .int (nI pC), .int (nI pO)])), (r0, .inr (2, [.ref r1, .int (nI 0)])), (r1, .inl (cy 0, 70, .inl f))] H := hP
    have hD : va_D A [(h0, .inr (4, [.ref p0, .ref r0, .int 0, .int (if rc_err pB pS pG pE pC pO d n g tm = 0 then nI (be g 0 pO) else cbf)])), (p0, .inr (3, [.int (nI pB), .int (nI pS), .int (nI pG), .int (nI pE), .int (nI pC), .int (nI pO)])), (r0, .inr (2, [.ref r1, .int (nI 0)])), (r1, .inl (cy 0, 70, .inl f))] := hD
    refine lv_iload_n hx hb dX3_endRow_33 rfl (lv_at hl 0 rfl) ?_
    have hP9 := hP.sub (ws' := [(h0, .inr (4, [.ref p0, .ref r0, .int 0, .int (if rc_err pB pS pG pE pC pO d n g tm = 0 then nI (be g 0 pO) else cbf)])), (p0, .inr (3, [.int (nI pB), .int (nI pS), .int (nI pG), .int (nI pE), .int (nI pC), .int (nI pO)])), (r0, .inr (2, [.ref r1, .int (nI 0)])), (r1, .inl (cy 0, 70, .inl f))]) [0, 1, 2, 3] rfl
    have hD9 := hD.sub (ws' := [(h0, .inr (4, [.ref p0, .ref r0, .int 0, .int (if rc_err pB pS pG pE pC pO d n g tm = 0 then nI (be g 0 pO) else cbf)])), (p0, .inr (3, [.int (nI pB), .int (nI pS), .int (nI pG), .int (nI pE), .int (nI pC), .int (nI pO)])), (r0, .inr (2, [.ref r1, .int (nI 0)])), (r1, .inl (cy 0, 70, .inl f))]) [0, 1, 2, 3] (by decide) rfl
    exact W.iret (v := (if rc_err pB pS pG pE pC pO d n g tm = 0 then rc_fd cbf (nI (be g 0 pO)) pC else 4)) hx hb hr (fun t ht hW => ⟨⟨(if rc_err pB pS pG pE pC pO d n g tm = 0 then rc_fd cbf (nI (be g 0 pO)) pC else 4), (), rfl, rfl, by rw [ht]; exact hP9, hD9⟩, hS.F ht⟩) hS.2.2 dX3_endRow_34
  refine lv_if_eq (tgt := 12) hx hb dX3_endRow_5 (by decide) (fun c_5 => ?_) (fun c_5 => ?_)
  · have hO3 : pO ≤ n := rc_err_O c_5
    refine lv_aload_n hx hb dX3_endRow_12 rfl (lv_at hl 0 rfl) ?_
    refine lv_aload_n hx hb dX3_endRow_13 rfl (lv_at hl 0 rfl) ?_
    have hPc := hP.sub (ws' := [(h0, .inr (4, [.ref p0, .ref r0, .int tm, .int cbf])), (p0, .inr (3, [.int (nI pB), .int (nI pS), .int (nI pG), .int (nI pE), .int (nI pC), .int (nI pO)])), (r0, .inr (2, [.ref r1, .int (nI n)])), (r1, .inl (cy 0, 70, .inl f))]) [0, 1, 2, 3] rfl
    have hDc := hD.sub (ws' := [(h0, .inr (4, [.ref p0, .ref r0, .int tm, .int cbf])), (p0, .inr (3, [.int (nI pB), .int (nI pS), .int (nI pG), .int (nI pE), .int (nI pC), .int (nI pO)])), (r0, .inr (2, [.ref r1, .int (nI n)])), (r1, .inl (cy 0, 70, .inl f))]) [0, 1, 2, 3] (by decide) rfl
    have hFc := va_free (wc := [(h0, .inr (4, [.ref p0, .ref r0, .int tm, .int cbf])), (p0, .inr (3, [.int (nI pB), .int (nI pS), .int (nI pG), .int (nI pE), .int (nI pC), .int (nI pO)])), (r0, .inr (2, [.ref r1, .int (nI n)])), (r1, .inl (cy 0, 70, .inl f))]) hD hS hA [0, 1, 2, 3] rfl
    refine va_calli (va_runV (As := []) (rest := [.ref h0]) ⟨hx, hb, hml, hown, hts⟩ (c_X3_rowCounter l D cy H.size h0 p0 r0 r1 tm cbf pB pS pG pE pC pO f n g (by first | assumption | omega) (by first | assumption | omega) (by first | assumption | omega) hO3) (cwV 0 hts gX3_endRow_X3_rowCounter rfl rfl rfl (by decide +kernel) ⟨Nat.le_of_ble_eq_true rfl, Nat.le_of_ble_eq_true rfl⟩) (pv_V (ci := 4) (q := (RX3, TX3, 4)) hkk hPc hDc rfl rfl rfl) rfl rfl hl.1 rfl (lv_room (Nat.le_of_ble_eq_true rfl)) dX3_endRow_14 ⟨Nat.le_of_ble_eq_true rfl, Nat.le_of_ble_eq_true rfl⟩) hS (fun q _ h => hFc q h) hFc (fun r_14 u t H1 locs ht hvm hw hB hz1 hk1 hS => ?_)
    obtain ⟨hP1, hD1⟩ := hB
    rw [ht] at hP1
    try dsimp only at hw hP1 hD1
    obtain ⟨hP, hD⟩ := va_join (wr := []) (w1 := [(h0, .inr (4, [.ref p0, .ref r0, .int tm, .int cbf])), (p0, .inr (3, [.int (nI pB), .int (nI pS), .int (nI pG), .int (nI pE), .int (nI pC), .int (nI pO)])), (r0, .inr (2, [.ref r1, .int (nI n)])), (r1, .inl (cy 0, 70, .inl f))]) hP hD [0, 1, 2, 3] [] rfl rfl (by decide) (by decide) hk1 hFc hP1 hD1
    clear hPc hDc hFc hP1 hD1 hz1 hk1
    generalize H1 = H at hP hS ⊢
    have hP : va_P D vwCl [(h0, .inr (4, [.ref p0, .ref r0, .int tm, .int cbf])), (p0, .inr (3, [.int (nI pB), .int (nI pS), .int (nI pG), .int (nI pE), .int (nI pC), .int (nI pO)])), (r0, .inr (2, [.ref r1, .int (nI n)])), (r1, .inl (cy 0, 70, .inl f))] H := hP
    have hD : va_D A [(h0, .inr (4, [.ref p0, .ref r0, .int tm, .int cbf])), (p0, .inr (3, [.int (nI pB), .int (nI pS), .int (nI pG), .int (nI pE), .int (nI pC), .int (nI pO)])), (r0, .inr (2, [.ref r1, .int (nI n)])), (r1, .inl (cy 0, 70, .inl f))] := hD
    obtain rfl := hw
    have hPc := hP.sub (ws' := [(h0, .inr (4, [.ref p0, .ref r0, .int tm, .int cbf])), (p0, .inr (3, [.int (nI pB), .int (nI pS), .int (nI pG), .int (nI pE), .int (nI pC), .int (nI pO)])), (r0, .inr (2, [.ref r1, .int (nI n)])), (r1, .inl (cy 0, 70, .inl f))]) [0, 1, 2, 3] rfl
    have hDc := hD.sub (ws' := [(h0, .inr (4, [.ref p0, .ref r0, .int tm, .int cbf])), (p0, .inr (3, [.int (nI pB), .int (nI pS), .int (nI pG), .int (nI pE), .int (nI pC), .int (nI pO)])), (r0, .inr (2, [.ref r1, .int (nI n)])), (r1, .inl (cy 0, 70, .inl f))]) [0, 1, 2, 3] (by decide) rfl
    have hFc := va_free (wc := [(h0, .inr (4, [.ref p0, .ref r0, .int tm, .int cbf])), (p0, .inr (3, [.int (nI pB), .int (nI pS), .int (nI pG), .int (nI pE), .int (nI pC), .int (nI pO)])), (r0, .inr (2, [.ref r1, .int (nI n)])), (r1, .inl (cy 0, 70, .inl f))]) hD hS hA [0, 1, 2, 3] rfl
    refine va_calli (va_runV (As := [.int (nI (be g 0 pO))]) (rest := []) ⟨hx, hb, hml, hown, hts⟩ (c_X3_findingOf l D cy H.size h0 p0 r0 r1 tm cbf pB pS pG pE pC pO f n (nI (be g 0 pO)) (by first | assumption | omega)) (cwV 1 hts gX3_endRow_X3_findingOf rfl rfl rfl (by decide +kernel) ⟨Nat.le_of_ble_eq_true rfl, Nat.le_of_ble_eq_true rfl⟩) (pv_V (ci := 4) (q := (RX3, TX3, 4)) hkk hPc hDc rfl rfl rfl) rfl rfl hl.1 rfl (lv_room (Nat.le_of_ble_eq_true rfl)) dX3_endRow_17 ⟨Nat.le_of_ble_eq_true rfl, Nat.le_of_ble_eq_true rfl⟩) hS (fun q _ h => hFc q h) hFc (fun r_17 u t H1 locs ht hvm hw hB hz1 hk1 hS => ?_)
    obtain ⟨hP1, hD1⟩ := hB
    rw [ht] at hP1
    try dsimp only at hw hP1 hD1
    obtain ⟨hP, hD⟩ := va_join (wr := []) (w1 := [(h0, .inr (4, [.ref p0, .ref r0, .int tm, .int (nI (be g 0 pO))])), (p0, .inr (3, [.int (nI pB), .int (nI pS), .int (nI pG), .int (nI pE), .int (nI pC), .int (nI pO)])), (r0, .inr (2, [.ref r1, .int (nI n)])), (r1, .inl (cy 0, 70, .inl f))]) hP hD [0, 1, 2, 3] [] rfl rfl (by decide) (by decide) hk1 hFc hP1 hD1
    clear hPc hDc hFc hP1 hD1 hz1 hk1
    generalize H1 = H at hP hS ⊢
    have hP : va_P D vwCl [(h0, .inr (4, [.ref p0, .ref r0, .int tm, .int (nI (be g 0 pO))])), (p0, .inr (3, [.int (nI pB), .int (nI pS), .int (nI pG), .int (nI pE), .int (nI pC), .int (nI pO)])), (r0, .inr (2, [.ref r1, .int (nI n)])), (r1, .inl (cy 0, 70, .inl f))] H := hP
    have hD : va_D A [(h0, .inr (4, [.ref p0, .ref r0, .int tm, .int (nI (be g 0 pO))])), (p0, .inr (3, [.int (nI pB), .int (nI pS), .int (nI pG), .int (nI pE), .int (nI pC), .int (nI pO)])), (r0, .inr (2, [.ref r1, .int (nI n)])), (r1, .inl (cy 0, 70, .inl f))] := hD
    obtain rfl := hw
    exact cut_20 (rc_fd cbf (nI (be g 0 pO)) pC) (nI (be g 0 pO)) _ _ (if_pos c_5).symm (if_pos c_5).symm hP hD hS _ (lv_sub hl [0, 1] rfl)
  · refine lv_iconst (v := 4) hx hb dX3_endRow_8 (by decide) ?_
    refine lv_goto (tgt := 20) hx hb dX3_endRow_9 (by decide) ?_
    exact cut_20 4 cbf _ _ (if_neg c_5).symm (if_neg c_5).symm hP hD hS _ (lv_sub hl [0, 1] rfl)

theorem lk_X3_init_m3 : (.methodLink RX3 3 objectInit : Cond) ∈ wsX3_init := by decide +kernel
theorem lk_X3_init_oi : (.instanceMethod objectInit : Cond) ∈ wsX3_init := by decide +kernel
theorem lk_X3_init_oc : (.code objectInit ⟨#[0xb1]⟩ 1 none : Cond) ∈ wsX3_init := by decide +kernel
theorem iw_X3_init_X1 : ∀ w ∈ wsX10, w ∈ wsX3_init := by decide +kernel
theorem lk_X3_init_n9 : (.classLink RX3 9 RX1 : Cond) ∈ wsX3_init := by decide +kernel
theorem lk_X3_init_niX1 : (.instantiable RX1 2 : Cond) ∈ wsX3_init := by decide +kernel
theorem lk_X3_init_iniX1 : (.initialized RX1 : Cond) ∈ wsX3_init := by decide +kernel
theorem lk_X3_init_imyX1_init : (.instanceMethod yX1_init : Cond) ∈ wsX3_init := by decide +kernel
theorem iw_X3_init_X3 : ∀ w ∈ wsX30, w ∈ wsX3_init := by decide +kernel
theorem lk_X3_init_f12 : (.fieldLink RX3 12 "DataGuards$Receiver" "row" "LDataGuards$Octets;" : Cond) ∈ wsX3_init := by decide +kernel
theorem lk_X3_init_f18 : (.fieldLink RX3 18 "DataGuards$Receiver" "counterBefore" "I" : Cond) ∈ wsX3_init := by decide +kernel
theorem lk_X3_init_f22 : (.fieldLink RX3 22 "DataGuards$Receiver" "profile" "LDataGuards$Profile;" : Cond) ∈ wsX3_init := by decide +kernel
set_option maxHeartbeats 4000000 in
set_option maxRecDepth 100000 in
theorem c_X3_init (l : Launch) (D : va_G) (cy : Nat → ClassId) (sz : Nat) (h0 : Nat) (p0 : Nat)  : Met l yX3_init wsX3_init ({ frames := 2, cells := 2, slots := 72, locals := 40 } : Room) (pre1 D cy [.ref h0, .ref p0] [(h0, .inr (4, [.null, .null, .int 0, .int 0]))] sz) (va_Qv (fun (u : (Nat) × (Nat)) => True) (fun u t => va_P D vwCl [(h0, .inr (4, [.ref p0, .ref u.1, .int 0, .int (-1)])), (u.1, .inr (2, [.ref u.2, .int 0])), (u.2, .inl (cy 0, 70, .inl (fun _ => 0)))] t.heap ∧ va_D (va_A [(h0, .inr (4, [.null, .null, .int 0, .int 0]))] sz) [(h0, .inr (4, [.ref p0, .ref u.1, .int 0, .int (-1)])), (u.1, .inr (2, [.ref u.2, .int 0])), (u.2, .inl (cy 0, 70, .inl (fun _ => 0)))]) (va_A [(h0, .inr (4, [.null, .null, .int 0, .int 0]))] sz)) 2 72 (va_A [(h0, .inr (4, [.null, .null, .int 0, .int 0]))] sz) := by
  refine Met.ofW (cc := cX3_init) (maxL := 2) (ret := none) (by decide) rfl ?_
  intro p e s m args below meth c s₁ B hml hv
  obtain ⟨rfl, hsz, hP, hkk, hD0⟩ := hv
  have hx := B.exec
  have hb := B.bytes
  have hr := B.returns
  have hts := atoms_spec (ws := wsX3_init) B.pre
  have hown : s.vm.findClass RX3 = some m.cls := findClass_of_methodNamed B.named
  have hlocks := B.notSynchronized
  have hin : meth.name = _ := (name_of_methodNamed B.named B.method).1
  have hK := hkk.1
  subst hsz
  have hD := hD0.self (sz := s.heap.size)
  generalize hAe : va_A [(h0, .inr (4, [.null, .null, .int 0, .int 0]))] s.heap.size = A at hD ⊢
  have hA : ∀ q : Nat, s.heap.size ≤ q → A q := fun q h => by rw [← hAe]; exact Or.inr h
  have hS : va_S A s.heap s.heap [] := va_S.rf
  have hP : va_P D vwCl [(h0, .inr (4, [.null, .null, .int 0, .int 0]))] s.heap := hP
  have hl := lv_entry ([.ref h0, .ref p0]) (n := 2) (Nat.le_of_ble_eq_true rfl)
  rw [lg_entry_eq]
  generalize (lg_sl ([.ref h0, .ref p0]) ++ List.replicate (2 - (lg_sl ([.ref h0, .ref p0])).length) Slot.unset).toArray = ls at hl ⊢
  have hl : lv_has ls 2 [(0, .ref h0), (1, .ref p0)] := hl
  refine lv_aload_n hx hb dX3_init_0 rfl (lv_at hl 0 rfl) ?_
  refine W.objInit hx hb hown (hts _ lk_X3_init_m3) (hts _ lk_X3_init_oi) (hts _ lk_X3_init_oc) rfl (by rw [hml]; exact hl.1) rfl dX3_init_1 (Nat.le_of_ble_eq_true rfl) (Nat.le_of_ble_eq_true rfl) ?_
  refine W.eq (g2 := F0 m 4 ls []) rfl ?_
  refine lv_aload_n hx hb dX3_init_4 rfl (lv_at hl 0 rfl) ?_
  refine va_new (ci := 2) (fs := [.null, .int 0]) (C := RX1) (T := TX1) (N := 2) hx hb hts iw_X3_init_X1 tyX1 tyX1_ok hown (hts _ lk_X3_init_n9) (hts _ lk_X3_init_niX1) (hts _ lk_X3_init_iniX1) hK hP hD hS hA rfl (fun j hj => by rcases (show j = 0 ∨ j = 1 by omega) with rfl | rfl <;> rfl) (Nat.le_of_ble_eq_true rfl) (Nat.le_of_ble_eq_true rfl) dX3_init_5 (fun q_5 H hP hD hS => ?_)
  have hP : va_P D vwCl [(h0, .inr (4, [.null, .null, .int 0, .int 0])), (q_5, .inr (2, [.null, .int 0]))] H := hP
  have hD : va_D A [(h0, .inr (4, [.null, .null, .int 0, .int 0])), (q_5, .inr (2, [.null, .int 0]))] := hD
  refine W.widen (k := 1) (n := 2) (by decide) (by decide) ?_
  refine lv_dup hx hb dX3_init_8 rfl ?_
  have hPc := hP.sub (ws' := [(q_5, .inr (2, [.null, .int 0]))]) [1] rfl
  have hDc := hD.sub (ws' := [(q_5, .inr (2, [.null, .int 0]))]) [1] (by decide) rfl
  have hFc := va_free (wc := [(q_5, .inr (2, [.null, .int 0]))]) hD hS hA [1] rfl
  refine va_callv (va_runIN (As := []) (rest := [.ref q_5, .ref h0]) ⟨hx, hb, hml, hown, hts⟩ (c_X1_init l D cy H.size q_5 ) ⟨va_cnB 0 hts gX3_init_X1_init_n11 rfl rfl rfl (nw_get 10 rfl hkk.2) (hts _ lk_X3_init_iniX1) (by decide +kernel) ⟨Nat.le_of_ble_eq_true rfl, Nat.le_of_ble_eq_true rfl⟩, rfl, (hts _ lk_X3_init_imyX1_init)⟩ (pv_S hkk hPc hDc rfl) rfl rfl hl.1 rfl (lv_room (Nat.le_of_ble_eq_true rfl)) dX3_init_9 ⟨Nat.le_of_ble_eq_true rfl, Nat.le_of_ble_eq_true rfl⟩) hS (fun q _ h => hFc q h) hFc (fun u t H1 locs ht hvm hw hB hz1 hk1 hS => ?_)
  obtain ⟨h1_9, rfl⟩ : ∃ z, z = u := ⟨_, rfl⟩
  obtain ⟨hP1, hD1⟩ := hB
  rw [ht] at hP1
  try dsimp only at hw hP1 hD1
  obtain ⟨hP, hD⟩ := va_join (wr := [(h0, .inr (4, [.null, .null, .int 0, .int 0]))]) (w1 := [(q_5, .inr (2, [.ref h1_9, .int 0])), (h1_9, .inl (cy 0, 70, .inl (fun _ => 0)))]) hP hD [1] [0] rfl rfl (by decide) (by decide) hk1 hFc hP1 hD1
  clear hPc hDc hFc hP1 hD1 hz1 hk1
  generalize H1 = H at hP hS ⊢
  have hP : va_P D vwCl [(h0, .inr (4, [.null, .null, .int 0, .int 0])), (q_5, .inr (2, [.ref h1_9, .int 0])), (h1_9, .inl (cy 0, 70, .inl (fun _ => 0)))] H := hP
  have hD : va_D A [(h0, .inr (4, [.null, .null, .int 0, .int 0])), (q_5, .inr (2, [.ref h1_9, .int 0])), (h1_9, .inl (cy 0, 70, .inl (fun _ => 0)))] := hD
  refine W.widen (k := 2) (n := 72) (by decide) (by decide) ?_
  have hw_9 := hw
  refine va_putF (D := D) (ci := 4) (v := .ref q_5) (ty := (.object "DataGuards$Octets")) (C := RX3) (T := TX3) (N := 4) hx hb hts iw_X3_init_X3 tyX3 tyX3_ok nmX3 hown hK hP hD hS 0 rfl rfl 1 (by decide) (hts _ lk_X3_init_f12) (fun _ h9 => h9) rfl hin rfl (by decide +kernel) rfl rfl (Nat.le_of_ble_eq_true rfl) dX3_init_12 (fun H locs hP hD hS => ?_)
  have hP : va_P D vwCl [(h0, .inr (4, [.null, .ref q_5, .int 0, .int 0])), (q_5, .inr (2, [.ref h1_9, .int 0])), (h1_9, .inl (cy 0, 70, .inl (fun _ => 0)))] H := hP
  have hD : va_D A [(h0, .inr (4, [.null, .ref q_5, .int 0, .int 0])), (q_5, .inr (2, [.ref h1_9, .int 0])), (h1_9, .inl (cy 0, 70, .inl (fun _ => 0)))] := hD
  refine lv_aload_n hx hb dX3_init_15 rfl (lv_at hl 0 rfl) ?_
  refine lv_iconst (v := (-1)) hx hb dX3_init_16 (by decide) ?_
  refine va_put (D := D) (ci := 4) (v := .int (-1)) (ty := .int) (C := RX3) (T := TX3) (N := 4) hx hb hts iw_X3_init_X3 tyX3 tyX3_ok nmX3 hown hK hP hD hS 0 rfl rfl 3 (by decide) (hts _ lk_X3_init_f18) (fun _ h9 => h9) rfl (by decide +kernel) rfl rfl (Nat.le_of_ble_eq_true rfl) dX3_init_17 (fun H locs hP hD hS => ?_)
  have hP : va_P D vwCl [(h0, .inr (4, [.null, .ref q_5, .int 0, .int (-1)])), (q_5, .inr (2, [.ref h1_9, .int 0])), (h1_9, .inl (cy 0, 70, .inl (fun _ => 0)))] H := hP
  have hD : va_D A [(h0, .inr (4, [.null, .ref q_5, .int 0, .int (-1)])), (q_5, .inr (2, [.ref h1_9, .int 0])), (h1_9, .inl (cy 0, 70, .inl (fun _ => 0)))] := hD
  refine lv_aload_n hx hb dX3_init_20 rfl (lv_at hl 0 rfl) ?_
  refine lv_aload_n hx hb dX3_init_21 rfl (lv_at hl 1 rfl) ?_
  refine va_putF (D := D) (ci := 4) (v := .ref p0) (ty := (.object "DataGuards$Profile")) (C := RX3) (T := TX3) (N := 4) hx hb hts iw_X3_init_X3 tyX3 tyX3_ok nmX3 hown hK hP hD hS 0 rfl rfl 0 (by decide) (hts _ lk_X3_init_f22) (fun _ h9 => h9) rfl hin rfl (by decide +kernel) rfl rfl (Nat.le_of_ble_eq_true rfl) dX3_init_22 (fun H locs hP hD hS => ?_)
  have hP : va_P D vwCl [(h0, .inr (4, [.ref p0, .ref q_5, .int 0, .int (-1)])), (q_5, .inr (2, [.ref h1_9, .int 0])), (h1_9, .inl (cy 0, 70, .inl (fun _ => 0)))] H := hP
  have hD : va_D A [(h0, .inr (4, [.ref p0, .ref q_5, .int 0, .int (-1)])), (q_5, .inr (2, [.ref h1_9, .int 0])), (h1_9, .inl (cy 0, 70, .inl (fun _ => 0)))] := hD
  have hP9 := hP.sub (ws' := [(h0, .inr (4, [.ref p0, .ref q_5, .int 0, .int (-1)])), (q_5, .inr (2, [.ref h1_9, .int 0])), (h1_9, .inl (cy 0, 70, .inl (fun _ => 0)))]) [0, 1, 2] rfl
  have hD9 := hD.sub (ws' := [(h0, .inr (4, [.ref p0, .ref q_5, .int 0, .int (-1)])), (q_5, .inr (2, [.ref h1_9, .int 0])), (h1_9, .inl (cy 0, 70, .inl (fun _ => 0)))]) [0, 1, 2] (by decide) rfl
  exact W.vret hx hb hr (fun t ht hW => ⟨⟨(q_5, h1_9), rfl, trivial, by rw [ht]; exact hP9, hD9⟩, hS.F ht⟩) hS.2.2 dX3_init_25
