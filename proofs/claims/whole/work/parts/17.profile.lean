
set_option maxHeartbeats 4000000 in
set_option maxRecDepth 100000 in
/-- Math.floorMod -/
theorem c_J9_floorMod_7cf53 (l : Launch) (D : va_G) (cy : Nat → ClassId) (sz : Nat) (a : Int32) (b : Int32) (hb0 : ¬ b = 0) : Met l yJ9_floorMod_7cf53 wsJ9_floorMod_7cf53 ({ frames := 0, cells := 0, slots := 0, locals := 0 } : Room) (pre1 D cy [.int a, .int b] [] sz) (va_Qi (fun (r : Int32) (u : Unit) => r = fm a b) (fun u t => va_P D vwCl [] t.heap ∧ va_D (va_A [] sz) []) (va_A [] sz)) 0 0 (va_A [] sz) := by
  refine mt_ofF (cc := cJ9_floorMod_7cf53) (maxL := 3) (ret := (some .int)) (by decide +kernel) rfl ?_
  intro p e s m args below meth c s₁ B hml hv
  obtain ⟨rfl, hsz, hP, hkk, hD0⟩ := hv
  have hx := B.exec
  have hb := B.bytes
  have hr := B.returns
  have hts := atoms_spec (ws := wsJ9_floorMod_7cf53) B.pre
  have hown : s.vm.findClass RJ9 = some m.cls := findClass_of_methodNamed B.named
  have hlocks := B.notSynchronized
  have hin : meth.name = _ := (name_of_methodNamed B.named B.method).1
  have hK := hkk.1
  subst hsz
  have hD := hD0.self (sz := s.heap.size)
  generalize hAe : va_A [] s.heap.size = A at hD ⊢
  have hA : ∀ q : Nat, s.heap.size ≤ q → A q := fun q h => by rw [← hAe]; exact Or.inr h
  have hS : va_S A s.heap s.heap [] := va_S.rf
  have hP : va_P D vwCl [] s.heap := hP
  have hl := lv_entry ([.int a, .int b]) (n := 3) (Nat.le_of_ble_eq_true rfl)
  rw [lg_entry_eq]
  generalize (lg_sl ([.int a, .int b]) ++ List.replicate (3 - (lg_sl ([.int a, .int b])).length) Slot.unset).toArray = ls at hl ⊢
  have hl : lv_has ls 3 [(0, .int a), (1, .int b)] := hl
  refine lv_iload_n hx hb dJ9_floorMod_7cf53_0 rfl (lv_at hl 0 rfl) ?_
  refine lv_iload_n hx hb dJ9_floorMod_7cf53_1 rfl (lv_at hl 1 rfl) ?_
  refine lv_irem hx hb dJ9_floorMod_7cf53_2 hb0 ?_
  refine lv_istore_n (lv' := [(2, .int (a - a / b * b)), (0, .int a), (1, .int b)]) hx hb dJ9_floorMod_7cf53_3 rfl hl (by decide) rfl (fun ls hl => ?_)
  refine lv_iload_n hx hb dJ9_floorMod_7cf53_4 rfl (lv_at hl 1 rfl) ?_
  refine lv_iload_n hx hb dJ9_floorMod_7cf53_5 rfl (lv_at hl 2 rfl) ?_
  refine lv_ixor hx hb dJ9_floorMod_7cf53_6 ?_
  refine lv_if_ge (tgt := 18) hx hb dJ9_floorMod_7cf53_7 (by decide) (fun c_7 => ?_) (fun c_7 => ?_)
  · refine lv_iload_n hx hb dJ9_floorMod_7cf53_18 rfl (lv_at hl 0 rfl) ?_
    have hP9 := hP.sub (ws' := []) [] rfl
    have hD9 := hD.sub (ws' := []) [] (by decide) rfl
    exact W.iret (v := a - a / b * b) hx hb hr (fun t ht hW => ⟨⟨a - a / b * b, (), rfl, by unfold fm; rw [if_pos c_7], by rw [ht]; exact hP9, hD9⟩, hS.F ht⟩) hS.2.2 dJ9_floorMod_7cf53_19
  · refine lv_iload_n hx hb dJ9_floorMod_7cf53_10 rfl (lv_at hl 0 rfl) ?_
    refine lv_if_eq (tgt := 18) hx hb dJ9_floorMod_7cf53_11 (by decide) (fun c_11 => ?_) (fun c_11 => ?_)
    · refine lv_iload_n hx hb dJ9_floorMod_7cf53_18 rfl (lv_at hl 0 rfl) ?_
      have hP9 := hP.sub (ws' := []) [] rfl
      have hD9 := hD.sub (ws' := []) [] (by decide) rfl
      exact W.iret (v := a - a / b * b) hx hb hr (fun t ht hW => ⟨⟨a - a / b * b, (), rfl, by unfold fm; rw [if_neg c_7, if_pos c_11], by rw [ht]; exact hP9, hD9⟩, hS.F ht⟩) hS.2.2 dJ9_floorMod_7cf53_19
    · refine lv_iload_n hx hb dJ9_floorMod_7cf53_14 rfl (lv_at hl 0 rfl) ?_
      refine lv_iload_n hx hb dJ9_floorMod_7cf53_15 rfl (lv_at hl 2 rfl) ?_
      refine lv_iadd hx hb dJ9_floorMod_7cf53_16 ?_
      have hP9 := hP.sub (ws' := []) [] rfl
      have hD9 := hD.sub (ws' := []) [] (by decide) rfl
      exact W.iret (v := (a - a / b * b) + b) hx hb hr (fun t ht hW => ⟨⟨(a - a / b * b) + b, (), rfl, by unfold fm; rw [if_neg c_7, if_neg c_11], by rw [ht]; exact hP9, hD9⟩, hS.F ht⟩) hS.2.2 dJ9_floorMod_7cf53_17

theorem lk_X2_init_m3 : (.methodLink RX2 3 objectInit : Cond) ∈ wsX2_init := by decide +kernel
theorem lk_X2_init_oi : (.instanceMethod objectInit : Cond) ∈ wsX2_init := by decide +kernel
theorem lk_X2_init_oc : (.code objectInit ⟨#[0xb1]⟩ 1 none : Cond) ∈ wsX2_init := by decide +kernel
theorem iw_X2_init_X2 : ∀ w ∈ wsX20, w ∈ wsX2_init := by decide +kernel
theorem lk_X2_init_f9 : (.fieldLink RX2 9 "DataGuards$Profile" "bits" "I" : Cond) ∈ wsX2_init := by decide +kernel
theorem lk_X2_init_f15 : (.fieldLink RX2 15 "DataGuards$Profile" "shape" "I" : Cond) ∈ wsX2_init := by decide +kernel
theorem lk_X2_init_f18 : (.fieldLink RX2 18 "DataGuards$Profile" "begin" "I" : Cond) ∈ wsX2_init := by decide +kernel
theorem lk_X2_init_f21 : (.fieldLink RX2 21 "DataGuards$Profile" "end" "I" : Cond) ∈ wsX2_init := by decide +kernel
theorem lk_X2_init_f24 : (.fieldLink RX2 24 "DataGuards$Profile" "counters" "I" : Cond) ∈ wsX2_init := by decide +kernel
theorem lk_X2_init_f27 : (.fieldLink RX2 27 "DataGuards$Profile" "counterOctets" "I" : Cond) ∈ wsX2_init := by decide +kernel
set_option maxHeartbeats 4000000 in
set_option maxRecDepth 100000 in
/-- new Profile(..) -/
theorem c_X2_init (l : Launch) (D : va_G) (cy : Nat → ClassId) (sz : Nat) (h0 : Nat) (a1 : Int32) (a2 : Int32) (a3 : Int32) (a4 : Int32) (a5 : Int32) (a6 : Int32)  : Met l yX2_init wsX2_init ({ frames := 1, cells := 0, slots := 0, locals := 20 } : Room) (pre1 D cy [.ref h0, .int a1, .int a2, .int a3, .int a4, .int a5, .int a6] [(h0, .inr (3, [.int 0, .int 0, .int 0, .int 0, .int 0, .int 0]))] sz) (va_Qv (fun (u : Unit) => True) (fun u t => va_P D vwCl [(h0, .inr (3, [.int a1, .int a2, .int a3, .int a4, .int a5, .int a6]))] t.heap ∧ va_D (va_A [(h0, .inr (3, [.int 0, .int 0, .int 0, .int 0, .int 0, .int 0]))] sz) [(h0, .inr (3, [.int a1, .int a2, .int a3, .int a4, .int a5, .int a6]))]) (va_A [(h0, .inr (3, [.int 0, .int 0, .int 0, .int 0, .int 0, .int 0]))] sz)) 0 0 (va_A [(h0, .inr (3, [.int 0, .int 0, .int 0, .int 0, .int 0, .int 0]))] sz) := by
  refine Met.ofW (cc := cX2_init) (maxL := 7) (ret := none) (by decide) rfl ?_
  intro p e s m args below meth c s₁ B hml hv
  obtain ⟨rfl, hsz, hP, hkk, hD0⟩ := hv
  have hx := B.exec
  have hb := B.bytes
  have hr := B.returns
  have hts := atoms_spec (ws := wsX2_init) B.pre
  have hown : s.vm.findClass RX2 = some m.cls := findClass_of_methodNamed B.named
  have hlocks := B.notSynchronized
  have hin : meth.name = _ := (name_of_methodNamed B.named B.method).1
  have hK := hkk.1
  subst hsz
  have hD := hD0.self (sz := s.heap.size)
  generalize hAe : va_A [(h0, .inr (3, [.int 0, .int 0, .int 0, .int 0, .int 0, .int 0]))] s.heap.size = A at hD ⊢
  have hA : ∀ q : Nat, s.heap.size ≤ q → A q := fun q h => by rw [← hAe]; exact Or.inr h
  have hS : va_S A s.heap s.heap [] := va_S.rf
  have hP : va_P D vwCl [(h0, .inr (3, [.int 0, .int 0, .int 0, .int 0, .int 0, .int 0]))] s.heap := hP
  have hl := lv_entry ([.ref h0, .int a1, .int a2, .int a3, .int a4, .int a5, .int a6]) (n := 7) (Nat.le_of_ble_eq_true rfl)
  rw [lg_entry_eq]
  generalize (lg_sl ([.ref h0, .int a1, .int a2, .int a3, .int a4, .int a5, .int a6]) ++ List.replicate (7 - (lg_sl ([.ref h0, .int a1, .int a2, .int a3, .int a4, .int a5, .int a6])).length) Slot.unset).toArray = ls at hl ⊢
  have hl : lv_has ls 7 [(0, .ref h0), (1, .int a1), (2, .int a2), (3, .int a3), (4, .int a4), (5, .int a5), (6, .int a6)] := hl
  refine lv_aload_n hx hb dX2_init_0 rfl (lv_at hl 0 rfl) ?_
  refine W.objInit hx hb hown (hts _ lk_X2_init_m3) (hts _ lk_X2_init_oi) (hts _ lk_X2_init_oc) rfl (by rw [hml]; exact hl.1) rfl dX2_init_1 (Nat.le_of_ble_eq_true rfl) (Nat.le_of_ble_eq_true rfl) ?_
  refine W.eq (g2 := F0 m 4 ls []) rfl ?_
  refine lv_aload_n hx hb dX2_init_4 rfl (lv_at hl 0 rfl) ?_
  refine lv_iload_n hx hb dX2_init_5 rfl (lv_at hl 1 rfl) ?_
  refine va_putF (D := D) (ci := 3) (v := .int a1) (ty := .int) (C := RX2) (T := TX2) (N := 6) hx hb hts iw_X2_init_X2 tyX2 tyX2_ok nmX2 hown hK hP hD hS 0 rfl rfl 0 (by decide) (hts _ lk_X2_init_f9) (fun _ h9 => h9) rfl hin rfl (by decide +kernel) rfl rfl (Nat.le_of_ble_eq_true rfl) dX2_init_6 (fun H locs hP hD hS => ?_)
  have hP : va_P D vwCl [(h0, .inr (3, [.int a1, .int 0, .int 0, .int 0, .int 0, .int 0]))] H := hP
  have hD : va_D A [(h0, .inr (3, [.int a1, .int 0, .int 0, .int 0, .int 0, .int 0]))] := hD
  refine lv_aload_n hx hb dX2_init_9 rfl (lv_at hl 0 rfl) ?_
  refine lv_iload_n hx hb dX2_init_10 rfl (lv_at hl 2 rfl) ?_
  refine va_putF (D := D) (ci := 3) (v := .int a2) (ty := .int) (C := RX2) (T := TX2) (N := 6) hx hb hts iw_X2_init_X2 tyX2 tyX2_ok nmX2 hown hK hP hD hS 0 rfl rfl 1 (by decide) (hts _ lk_X2_init_f15) (fun _ h9 => h9) rfl hin rfl (by decide +kernel) rfl rfl (Nat.le_of_ble_eq_true rfl) dX2_init_11 (fun H locs hP hD hS => ?_)
  have hP : va_P D vwCl [(h0, .inr (3, [.int a1, .int a2, .int 0, .int 0, .int 0, .int 0]))] H := hP
  have hD : va_D A [(h0, .inr (3, [.int a1, .int a2, .int 0, .int 0, .int 0, .int 0]))] := hD
  refine lv_aload_n hx hb dX2_init_14 rfl (lv_at hl 0 rfl) ?_
  refine lv_iload_n hx hb dX2_init_15 rfl (lv_at hl 3 rfl) ?_
  refine va_putF (D := D) (ci := 3) (v := .int a3) (ty := .int) (C := RX2) (T := TX2) (N := 6) hx hb hts iw_X2_init_X2 tyX2 tyX2_ok nmX2 hown hK hP hD hS 0 rfl rfl 2 (by decide) (hts _ lk_X2_init_f18) (fun _ h9 => h9) rfl hin rfl (by decide +kernel) rfl rfl (Nat.le_of_ble_eq_true rfl) dX2_init_16 (fun H locs hP hD hS => ?_)
  have hP : va_P D vwCl [(h0, .inr (3, [.int a1, .int a2, .int a3, .int 0, .int 0, .int 0]))] H := hP
  have hD : va_D A [(h0, .inr (3, [.int a1, .int a2, .int a3, .int 0, .int 0, .int 0]))] := hD
  refine lv_aload_n hx hb dX2_init_19 rfl (lv_at hl 0 rfl) ?_
  refine lv_iload hx hb dX2_init_20 (lv_at hl 4 rfl) ?_
  refine va_putF (D := D) (ci := 3) (v := .int a4) (ty := .int) (C := RX2) (T := TX2) (N := 6) hx hb hts iw_X2_init_X2 tyX2 tyX2_ok nmX2 hown hK hP hD hS 0 rfl rfl 3 (by decide) (hts _ lk_X2_init_f21) (fun _ h9 => h9) rfl hin rfl (by decide +kernel) rfl rfl (Nat.le_of_ble_eq_true rfl) dX2_init_22 (fun H locs hP hD hS => ?_)
  have hP : va_P D vwCl [(h0, .inr (3, [.int a1, .int a2, .int a3, .int a4, .int 0, .int 0]))] H := hP
  have hD : va_D A [(h0, .inr (3, [.int a1, .int a2, .int a3, .int a4, .int 0, .int 0]))] := hD
  refine lv_aload_n hx hb dX2_init_25 rfl (lv_at hl 0 rfl) ?_
  refine lv_iload hx hb dX2_init_26 (lv_at hl 5 rfl) ?_
  refine va_putF (D := D) (ci := 3) (v := .int a5) (ty := .int) (C := RX2) (T := TX2) (N := 6) hx hb hts iw_X2_init_X2 tyX2 tyX2_ok nmX2 hown hK hP hD hS 0 rfl rfl 4 (by decide) (hts _ lk_X2_init_f24) (fun _ h9 => h9) rfl hin rfl (by decide +kernel) rfl rfl (Nat.le_of_ble_eq_true rfl) dX2_init_28 (fun H locs hP hD hS => ?_)
  have hP : va_P D vwCl [(h0, .inr (3, [.int a1, .int a2, .int a3, .int a4, .int a5, .int 0]))] H := hP
  have hD : va_D A [(h0, .inr (3, [.int a1, .int a2, .int a3, .int a4, .int a5, .int 0]))] := hD
  refine lv_aload_n hx hb dX2_init_31 rfl (lv_at hl 0 rfl) ?_
  refine lv_iload hx hb dX2_init_32 (lv_at hl 6 rfl) ?_
  refine va_putF (D := D) (ci := 3) (v := .int a6) (ty := .int) (C := RX2) (T := TX2) (N := 6) hx hb hts iw_X2_init_X2 tyX2 tyX2_ok nmX2 hown hK hP hD hS 0 rfl rfl 5 (by decide) (hts _ lk_X2_init_f27) (fun _ h9 => h9) rfl hin rfl (by decide +kernel) rfl rfl (Nat.le_of_ble_eq_true rfl) dX2_init_34 (fun H locs hP hD hS => ?_)
  have hP : va_P D vwCl [(h0, .inr (3, [.int a1, .int a2, .int a3, .int a4, .int a5, .int a6]))] H := hP
  have hD : va_D A [(h0, .inr (3, [.int a1, .int a2, .int a3, .int a4, .int a5, .int a6]))] := hD
  have hP9 := hP.sub (ws' := [(h0, .inr (3, [.int a1, .int a2, .int a3, .int a4, .int a5, .int a6]))]) [0] rfl
  have hD9 := hD.sub (ws' := [(h0, .inr (3, [.int a1, .int a2, .int a3, .int a4, .int a5, .int a6]))]) [0] (by decide) rfl
  exact W.vret hx hb hr (fun t ht hW => ⟨⟨(), rfl, trivial, by rw [ht]; exact hP9, hD9⟩, hS.F ht⟩) hS.2.2 dX2_init_37

theorem iw_X2_checkOctets_X2 : ∀ w ∈ wsX20, w ∈ wsX2_checkOctets := by decide +kernel
theorem lk_X2_checkOctets_f9 : (.fieldLink RX2 9 "DataGuards$Profile" "bits" "I" : Cond) ∈ wsX2_checkOctets := by decide +kernel
set_option maxHeartbeats 4000000 in
set_option maxRecDepth 100000 in
theorem c_X2_checkOctets (l : Launch) (D : va_G) (cy : Nat → ClassId) (sz : Nat) (h0 : Nat) (pB : Nat) (pS : Nat) (pG : Nat) (pE : Nat) (pC : Nat) (pO : Nat) (hB : isB pB) : Met l yX2_checkOctets wsX2_checkOctets ({ frames := 0, cells := 0, slots := 0, locals := 0 } : Room) (pre1 D cy [.ref h0] [(h0, .inr (3, [.int (nI pB), .int (nI pS), .int (nI pG), .int (nI pE), .int (nI pC), .int (nI pO)]))] sz) (va_Qi (fun (r : Int32) (u : Unit) => r = nI (pB / 8)) (fun u t => va_P D vwCl [(h0, .inr (3, [.int (nI pB), .int (nI pS), .int (nI pG), .int (nI pE), .int (nI pC), .int (nI pO)]))] t.heap ∧ va_D (va_A [(h0, .inr (3, [.int (nI pB), .int (nI pS), .int (nI pG), .int (nI pE), .int (nI pC), .int (nI pO)]))] sz) [(h0, .inr (3, [.int (nI pB), .int (nI pS), .int (nI pG), .int (nI pE), .int (nI pC), .int (nI pO)]))]) (va_A [(h0, .inr (3, [.int (nI pB), .int (nI pS), .int (nI pG), .int (nI pE), .int (nI pC), .int (nI pO)]))] sz)) 0 0 (va_A [(h0, .inr (3, [.int (nI pB), .int (nI pS), .int (nI pG), .int (nI pE), .int (nI pC), .int (nI pO)]))] sz) := by
  refine Met.ofW (cc := cX2_checkOctets) (maxL := 1) (ret := (some .int)) (by decide) rfl ?_
  intro p e s m args below meth c s₁ B hml hv
  obtain ⟨rfl, hsz, hP, hkk, hD0⟩ := hv
  have hx := B.exec
  have hb := B.bytes
  have hr := B.returns
  have hts := atoms_spec (ws := wsX2_checkOctets) B.pre
  have hown : s.vm.findClass RX2 = some m.cls := findClass_of_methodNamed B.named
  have hlocks := B.notSynchronized
  have hin : meth.name = _ := (name_of_methodNamed B.named B.method).1
  have hK := hkk.1
  subst hsz
  have hD := hD0.self (sz := s.heap.size)
  generalize hAe : va_A [(h0, .inr (3, [.int (nI pB), .int (nI pS), .int (nI pG), .int (nI pE), .int (nI pC), .int (nI pO)]))] s.heap.size = A at hD ⊢
  have hA : ∀ q : Nat, s.heap.size ≤ q → A q := fun q h => by rw [← hAe]; exact Or.inr h
  have hS : va_S A s.heap s.heap [] := va_S.rf
  have hP : va_P D vwCl [(h0, .inr (3, [.int (nI pB), .int (nI pS), .int (nI pG), .int (nI pE), .int (nI pC), .int (nI pO)]))] s.heap := hP
  have hl := lv_entry ([.ref h0]) (n := 1) (Nat.le_of_ble_eq_true rfl)
  rw [lg_entry_eq]
  generalize (lg_sl ([.ref h0]) ++ List.replicate (1 - (lg_sl ([.ref h0])).length) Slot.unset).toArray = ls at hl ⊢
  have hl : lv_has ls 1 [(0, .ref h0)] := hl
  refine lv_aload_n hx hb dX2_checkOctets_0 rfl (lv_at hl 0 rfl) ?_
  refine va_get (D := D) (ci := 3) (v := .int (nI pB)) (C := RX2) (T := TX2) (N := 6) hx hb hts iw_X2_checkOctets_X2 hown hK hP 0 rfl rfl 0 (by decide) (hts _ lk_X2_checkOctets_f9) (fun _ h9 => h9) rfl dX2_checkOctets_1 ?_
  refine lv_iconst (v := 3) hx hb dX2_checkOctets_4 (by decide) ?_
  refine lv_ishr hx hb dX2_checkOctets_5 ?_
  refine lv_topi (fun x_5 ex_5 => ?_)
  obtain rfl : x_5 = nI (pB / 8) := by rw [ex_5]; exact sh_3 (by rcases hB with rfl | rfl | rfl <;> decide)
  have hP9 := hP.sub (ws' := [(h0, .inr (3, [.int (nI pB), .int (nI pS), .int (nI pG), .int (nI pE), .int (nI pC), .int (nI pO)]))]) [0] rfl
  have hD9 := hD.sub (ws' := [(h0, .inr (3, [.int (nI pB), .int (nI pS), .int (nI pG), .int (nI pE), .int (nI pC), .int (nI pO)]))]) [0] (by decide) rfl
  exact W.iret (v := nI (pB / 8)) hx hb hr (fun t ht hW => ⟨⟨nI (pB / 8), (), rfl, rfl, by rw [ht]; exact hP9, hD9⟩, hS.F ht⟩) hS.2.2 dX2_checkOctets_6

theorem iw_X2_goingRound_X2 : ∀ w ∈ wsX20, w ∈ wsX2_goingRound := by decide +kernel
theorem lk_X2_goingRound_f24 : (.fieldLink RX2 24 "DataGuards$Profile" "counters" "I" : Cond) ∈ wsX2_goingRound := by decide +kernel
set_option maxHeartbeats 4000000 in
set_option maxRecDepth 100000 in
theorem c_X2_goingRound (l : Launch) (D : va_G) (cy : Nat → ClassId) (sz : Nat) (h0 : Nat) (pB : Nat) (pS : Nat) (pG : Nat) (pE : Nat) (pC : Nat) (pO : Nat) (i : Int32) (hC : 0 < pC) (hC2 : pC ≤ 65536) : Met l yX2_goingRound wsX2_goingRound ({ frames := 1, cells := 0, slots := 0, locals := 22 } : Room) (pre1 D cy [.ref h0, .int i] [(h0, .inr (3, [.int (nI pB), .int (nI pS), .int (nI pG), .int (nI pE), .int (nI pC), .int (nI pO)]))] sz) (va_Qi (fun (r : Int32) (u : Unit) => r = fm i (nI pC)) (fun u t => va_P D vwCl [(h0, .inr (3, [.int (nI pB), .int (nI pS), .int (nI pG), .int (nI pE), .int (nI pC), .int (nI pO)]))] t.heap ∧ va_D (va_A [(h0, .inr (3, [.int (nI pB), .int (nI pS), .int (nI pG), .int (nI pE), .int (nI pC), .int (nI pO)]))] sz) [(h0, .inr (3, [.int (nI pB), .int (nI pS), .int (nI pG), .int (nI pE), .int (nI pC), .int (nI pO)]))]) (va_A [(h0, .inr (3, [.int (nI pB), .int (nI pS), .int (nI pG), .int (nI pE), .int (nI pC), .int (nI pO)]))] sz)) 0 0 (va_A [(h0, .inr (3, [.int (nI pB), .int (nI pS), .int (nI pG), .int (nI pE), .int (nI pC), .int (nI pO)]))] sz) := by
  refine Met.ofW (cc := cX2_goingRound) (maxL := 2) (ret := (some .int)) (by decide) rfl ?_
  intro p e s m args below meth c s₁ B hml hv
  obtain ⟨rfl, hsz, hP, hkk, hD0⟩ := hv
  have hx := B.exec
  have hb := B.bytes
  have hr := B.returns
  have hts := atoms_spec (ws := wsX2_goingRound) B.pre
  have hown : s.vm.findClass RX2 = some m.cls := findClass_of_methodNamed B.named
  have hlocks := B.notSynchronized
  have hin : meth.name = _ := (name_of_methodNamed B.named B.method).1
  have hK := hkk.1
  subst hsz
  have hD := hD0.self (sz := s.heap.size)
  generalize hAe : va_A [(h0, .inr (3, [.int (nI pB), .int (nI pS), .int (nI pG), .int (nI pE), .int (nI pC), .int (nI pO)]))] s.heap.size = A at hD ⊢
  have hA : ∀ q : Nat, s.heap.size ≤ q → A q := fun q h => by rw [← hAe]; exact Or.inr h
  have hS : va_S A s.heap s.heap [] := va_S.rf
  have hP : va_P D vwCl [(h0, .inr (3, [.int (nI pB), .int (nI pS), .int (nI pG), .int (nI pE), .int (nI pC), .int (nI pO)]))] s.heap := hP
  have hl := lv_entry ([.ref h0, .int i]) (n := 2) (Nat.le_of_ble_eq_true rfl)
  rw [lg_entry_eq]
  generalize (lg_sl ([.ref h0, .int i]) ++ List.replicate (2 - (lg_sl ([.ref h0, .int i])).length) Slot.unset).toArray = ls at hl ⊢
  have hl : lv_has ls 2 [(0, .ref h0), (1, .int i)] := hl
  refine lv_aload_n hx hb dX2_goingRound_0 rfl (lv_at hl 0 rfl) ?_
  refine va_get (D := D) (ci := 3) (v := .int (nI pC)) (C := RX2) (T := TX2) (N := 6) hx hb hts iw_X2_goingRound_X2 hown hK hP 0 rfl rfl 4 (by decide) (hts _ lk_X2_goingRound_f24) (fun _ h9 => h9) rfl dX2_goingRound_1 ?_
  refine lv_if_le (tgt := 18) hx hb dX2_goingRound_4 (by decide) (fun c_4 => ?_) (fun c_4 => ?_)
  · exact absurd c_4 (nI_nle hC (by omega))
  · refine lv_iload_n hx hb dX2_goingRound_7 rfl (lv_at hl 1 rfl) ?_
    refine lv_aload_n hx hb dX2_goingRound_8 rfl (lv_at hl 0 rfl) ?_
    refine va_get (D := D) (ci := 3) (v := .int (nI pC)) (C := RX2) (T := TX2) (N := 6) hx hb hts iw_X2_goingRound_X2 hown hK hP 0 rfl rfl 4 (by decide) (hts _ lk_X2_goingRound_f24) (fun _ h9 => h9) rfl dX2_goingRound_9 ?_
    have hPc := hP.sub (ws' := []) [] rfl
    have hDc := hD.sub (ws' := []) [] (by decide) rfl
    have hFc := va_free (wc := []) hD hS hA [] rfl
    refine va_calli (va_runS (As := [.int i, .int (nI pC)]) (rest := []) ⟨hx, hb, hml, hown, hts⟩ (c_J9_floorMod_7cf53 l D cy s.heap.size i (nI pC) (nI_ne0 hC (by omega))) (va_cwS 2 hts gX2_goingRound_J9_floorMod_7cf53 rfl rfl rfl (by decide +kernel) ⟨Nat.le_of_ble_eq_true rfl, Nat.le_of_ble_eq_true rfl⟩) (pv_S hkk hPc hDc rfl) rfl rfl hl.1 rfl (lv_room (Nat.le_of_ble_eq_true rfl)) dX2_goingRound_12 ⟨Nat.le_of_ble_eq_true rfl, Nat.le_of_ble_eq_true rfl⟩) hS (fun q _ h => hFc q h) hFc (fun r_12 u t H1 locs ht hvm hw hB hz1 hk1 hS => ?_)
    obtain ⟨hP1, hD1⟩ := hB
    rw [ht] at hP1
    try dsimp only at hw hP1 hD1
    obtain ⟨hP, hD⟩ := va_join (wr := [(h0, .inr (3, [.int (nI pB), .int (nI pS), .int (nI pG), .int (nI pE), .int (nI pC), .int (nI pO)]))]) (w1 := []) hP hD [] [0] rfl rfl (by decide) (by decide) hk1 hFc hP1 hD1
    clear hPc hDc hFc hP1 hD1 hz1 hk1
    generalize H1 = H at hP hS ⊢
    have hP : va_P D vwCl [(h0, .inr (3, [.int (nI pB), .int (nI pS), .int (nI pG), .int (nI pE), .int (nI pC), .int (nI pO)]))] H := hP
    have hD : va_D A [(h0, .inr (3, [.int (nI pB), .int (nI pS), .int (nI pG), .int (nI pE), .int (nI pC), .int (nI pO)]))] := hD
    obtain rfl := hw
    refine lv_goto (tgt := 19) hx hb dX2_goingRound_15 (by decide) ?_
    have hP9 := hP.sub (ws' := [(h0, .inr (3, [.int (nI pB), .int (nI pS), .int (nI pG), .int (nI pE), .int (nI pC), .int (nI pO)]))]) [0] rfl
    have hD9 := hD.sub (ws' := [(h0, .inr (3, [.int (nI pB), .int (nI pS), .int (nI pG), .int (nI pE), .int (nI pC), .int (nI pO)]))]) [0] (by decide) rfl
    exact W.iret (v := fm i (nI pC)) hx hb hr (fun t ht hW => ⟨⟨fm i (nI pC), (), rfl, rfl, by rw [ht]; exact hP9, hD9⟩, hS.F ht⟩) hS.2.2 dX2_goingRound_19

theorem iw_X2_shifted_X2 : ∀ w ∈ wsX20, w ∈ wsX2_shifted := by decide +kernel
theorem lk_X2_shifted_f9 : (.fieldLink RX2 9 "DataGuards$Profile" "bits" "I" : Cond) ∈ wsX2_shifted := by decide +kernel
theorem lk_X2_shifted_f15 : (.fieldLink RX2 15 "DataGuards$Profile" "shape" "I" : Cond) ∈ wsX2_shifted := by decide +kernel
set_option maxHeartbeats 4000000 in
set_option maxRecDepth 100000 in
/-- Profile.shifted(register, octet) -/
theorem c_X2_shifted (l : Launch) (D : va_G) (cy : Nat → ClassId) (sz : Nat) (h0 : Nat) (pB : Nat) (pS : Nat) (pG : Nat) (pE : Nat) (pC : Nat) (pO : Nat) (rg : Nat) (o : Nat) (hB : isB pB) (hr1 : rg < 2 ^ pB) (hS1 : pS < 2 ^ pB) (ho : o < 2 ^ 31) : Met l yX2_shifted wsX2_shifted ({ frames := 0, cells := 0, slots := 0, locals := 0 } : Room) (pre1 D cy [.ref h0, .int (nI rg), .int (nI o)] [(h0, .inr (3, [.int (nI pB), .int (nI pS), .int (nI pG), .int (nI pE), .int (nI pC), .int (nI pO)]))] sz) (va_Qi (fun (r : Int32) (u : Unit) => r = nI (co pB pS o 8 rg)) (fun u t => va_P D vwCl [(h0, .inr (3, [.int (nI pB), .int (nI pS), .int (nI pG), .int (nI pE), .int (nI pC), .int (nI pO)]))] t.heap ∧ va_D (va_A [(h0, .inr (3, [.int (nI pB), .int (nI pS), .int (nI pG), .int (nI pE), .int (nI pC), .int (nI pO)]))] sz) [(h0, .inr (3, [.int (nI pB), .int (nI pS), .int (nI pG), .int (nI pE), .int (nI pC), .int (nI pO)]))]) (va_A [(h0, .inr (3, [.int (nI pB), .int (nI pS), .int (nI pG), .int (nI pE), .int (nI pC), .int (nI pO)]))] sz)) 0 0 (va_A [(h0, .inr (3, [.int (nI pB), .int (nI pS), .int (nI pG), .int (nI pE), .int (nI pC), .int (nI pO)]))] sz) := by
  refine Met.ofW (cc := cX2_shifted) (maxL := 8) (ret := (some .int)) (by decide) rfl ?_
  intro p e s m args below meth c s₁ B hml hv
  obtain ⟨rfl, hsz, hP, hkk, hD0⟩ := hv
  have hx := B.exec
  have hb := B.bytes
  have hr := B.returns
  have hts := atoms_spec (ws := wsX2_shifted) B.pre
  have hown : s.vm.findClass RX2 = some m.cls := findClass_of_methodNamed B.named
  have hlocks := B.notSynchronized
  have hin : meth.name = _ := (name_of_methodNamed B.named B.method).1
  have hK := hkk.1
  subst hsz
  have hD := hD0.self (sz := s.heap.size)
  generalize hAe : va_A [(h0, .inr (3, [.int (nI pB), .int (nI pS), .int (nI pG), .int (nI pE), .int (nI pC), .int (nI pO)]))] s.heap.size = A at hD ⊢
  have hA : ∀ q : Nat, s.heap.size ≤ q → A q := fun q h => by rw [← hAe]; exact Or.inr h
  have hS : va_S A s.heap s.heap [] := va_S.rf
  have hP : va_P D vwCl [(h0, .inr (3, [.int (nI pB), .int (nI pS), .int (nI pG), .int (nI pE), .int (nI pC), .int (nI pO)]))] s.heap := hP
  have hl := lv_entry ([.ref h0, .int (nI rg), .int (nI o)]) (n := 8) (Nat.le_of_ble_eq_true rfl)
  rw [lg_entry_eq]
  generalize (lg_sl ([.ref h0, .int (nI rg), .int (nI o)]) ++ List.replicate (8 - (lg_sl ([.ref h0, .int (nI rg), .int (nI o)])).length) Slot.unset).toArray = ls at hl ⊢
  have hl : lv_has ls 8 [(0, .ref h0), (1, .int (nI rg)), (2, .int (nI o))] := hl
  refine lv_iconst (v := (-1)) hx hb dX2_shifted_0 (by decide) ?_
  refine lv_bipush (v := 32) hx hb dX2_shifted_1 (by decide) ?_
  refine lv_aload_n hx hb dX2_shifted_3 rfl (lv_at hl 0 rfl) ?_
  refine va_get (D := D) (ci := 3) (v := .int (nI pB)) (C := RX2) (T := TX2) (N := 6) hx hb hts iw_X2_shifted_X2 hown hK hP 0 rfl rfl 0 (by decide) (hts _ lk_X2_shifted_f9) (fun _ h9 => h9) rfl dX2_shifted_4 ?_
  refine lv_isub hx hb dX2_shifted_7 ?_
  refine lv_iushr (v := ((-1 : Int32).toUInt32 >>> ((32 - (nI pB)).toUInt32 &&& Int32.toUInt32 31)).toInt32) hx hb dX2_shifted_8 rfl ?_
  refine lv_topi (fun x_8 ex_8 => ?_)
  obtain rfl : x_8 = nI (2 ^ pB - 1) := by rw [ex_8]; exact sh_mask hB
  refine lv_istore_n (lv' := [(3, .int (nI (2 ^ pB - 1))), (0, .ref h0), (1, .int (nI rg)), (2, .int (nI o))]) hx hb dX2_shifted_9 rfl hl (by decide) rfl (fun ls hl => ?_)
  refine lv_iload_n hx hb dX2_shifted_10 rfl (lv_at hl 2 rfl) ?_
  refine lv_istore (lv' := [(4, .int (nI rg)), (3, .int (nI (2 ^ pB - 1))), (0, .ref h0), (1, .int (nI rg)), (2, .int (nI o))]) hx hb dX2_shifted_11 hl (by decide) rfl (fun ls hl => ?_)
  refine lv_bipush (v := 7) hx hb dX2_shifted_13 (by decide) ?_
  refine lv_topi (fun x_13 ex_13 => ?_)
  obtain rfl : x_13 = nI 8 - 1 := by rw [ex_13]; decide
  refine lv_istore (lv' := [(5, .int (nI 8 - 1)), (4, .int (nI rg)), (3, .int (nI (2 ^ pB - 1))), (0, .ref h0), (1, .int (nI rg)), (2, .int (nI o))]) hx hb dX2_shifted_15 hl (by decide) rfl (fun ls hl => ?_)
  have cut_17 : ∀ (N : Nat) (k : Nat) (r1 : Nat) (H : Heap) (locs : List Loc), k < N → r1 < 2 ^ pB → k ≤ 8 → co pB pS o k r1 = co pB pS o 8 rg → va_P D vwCl [(h0, .inr (3, [.int (nI pB), .int (nI pS), .int (nI pG), .int (nI pE), .int (nI pC), .int (nI pO)]))] H → va_D A [(h0, .inr (3, [.int (nI pB), .int (nI pS), .int (nI pG), .int (nI pE), .int (nI pC), .int (nI pO)]))] → va_S A s.heap H locs → ∀ (ls : Array Slot), lv_has ls 8 [(0, .ref h0), (1, .int (nI rg)), (2, .int (nI o)), (3, .int (nI (2 ^ pB - 1))), (4, .int (nI r1)), (5, .int (nI k - 1))] → W p l e (headSpec wsX2_shifted ({ frames := 0, cells := 0, slots := 0, locals := 0 } : Room)).room s m [.ref h0, .int (nI rg), .int (nI o)].toArray below meth c H locs 0 0 (MQ below (va_Qi (fun (r : Int32) (u : Unit) => r = nI (co pB pS o 8 rg)) (fun u t => va_P D vwCl [(h0, .inr (3, [.int (nI pB), .int (nI pS), .int (nI pG), .int (nI pE), .int (nI pC), .int (nI pO)]))] t.heap ∧ va_D A [(h0, .inr (3, [.int (nI pB), .int (nI pS), .int (nI pG), .int (nI pE), .int (nI pC), .int (nI pO)]))]) A) [.ref h0, .int (nI rg), .int (nI o)].toArray s 0 0 A) (F0 m 17 ls []) := by
    intro N
    induction N with
    | zero => intro k r1 H locs hN; exact absurd hN (Nat.not_lt_zero _)
    | succ N ih =>
      intro k r1 H locs hN hr2 hk hco hP hD hS ls hl
      refine lv_iload hx hb dX2_shifted_17 (lv_at hl 5 rfl) ?_
      refine lv_if_lt (tgt := 71) hx hb dX2_shifted_19 (by decide) (fun c_19 => ?_) (fun c_19 => ?_)
      · obtain rfl := oc_pred_neg (by omega) c_19
        refine lv_iload hx hb dX2_shifted_71 (lv_at hl 4 rfl) ?_
        have hP9 := hP.sub (ws' := [(h0, .inr (3, [.int (nI pB), .int (nI pS), .int (nI pG), .int (nI pE), .int (nI pC), .int (nI pO)]))]) [0] rfl
        have hD9 := hD.sub (ws' := [(h0, .inr (3, [.int (nI pB), .int (nI pS), .int (nI pG), .int (nI pE), .int (nI pC), .int (nI pO)]))]) [0] (by decide) rfl
        exact W.iret (v := nI r1) hx hb hr (fun t ht hW => ⟨⟨nI r1, (), rfl, congrArg nI hco, by rw [ht]; exact hP9, hD9⟩, hS.F ht⟩) hS.2.2 dX2_shifted_73
      · obtain ⟨z, rfl⟩ := oc_pred_ok c_19
        refine lv_iload hx hb dX2_shifted_22 (lv_at hl 4 rfl) ?_
        refine lv_aload_n hx hb dX2_shifted_24 rfl (lv_at hl 0 rfl) ?_
        refine va_get (D := D) (ci := 3) (v := .int (nI pB)) (C := RX2) (T := TX2) (N := 6) hx hb hts iw_X2_shifted_X2 hown hK hP 0 rfl rfl 0 (by decide) (hts _ lk_X2_shifted_f9) (fun _ h9 => h9) rfl dX2_shifted_25 ?_
        refine lv_iconst (v := 1) hx hb dX2_shifted_28 (by decide) ?_
        refine lv_isub hx hb dX2_shifted_29 ?_
        refine lv_iushr (v := ((nI r1).toUInt32 >>> (((nI pB) - 1).toUInt32 &&& Int32.toUInt32 31)).toInt32) hx hb dX2_shifted_30 rfl ?_
        refine lv_topi (fun x_30 ex_30 => ?_)
        obtain rfl : x_30 = nI (r1 / 2 ^ (pB - 1)) := by rw [ex_30]; exact sh_hi hB hr2
        refine lv_istore (lv' := [(6, .int (nI (r1 / 2 ^ (pB - 1)))), (0, .ref h0), (1, .int (nI rg)), (2, .int (nI o)), (3, .int (nI (2 ^ pB - 1))), (4, .int (nI r1)), (5, .int (nI (z + 1) - 1))]) hx hb dX2_shifted_31 hl (by decide) rfl (fun ls hl => ?_)
        refine lv_iload_n hx hb dX2_shifted_33 rfl (lv_at hl 3 rfl) ?_
        refine lv_iload hx hb dX2_shifted_34 (lv_at hl 6 rfl) ?_
        refine lv_ishr hx hb dX2_shifted_36 ?_
        refine lv_iconst (v := 1) hx hb dX2_shifted_37 (by decide) ?_
        refine lv_iand hx hb dX2_shifted_38 ?_
        refine lv_topi (fun x_38 ex_38 => ?_)
        obtain rfl : x_38 = nI (o / 2 ^ z % 2) := by rw [ex_38]; exact sh_bit ho (by omega)
        refine lv_istore (lv' := [(7, .int (nI (o / 2 ^ z % 2))), (6, .int (nI (r1 / 2 ^ (pB - 1)))), (0, .ref h0), (1, .int (nI rg)), (2, .int (nI o)), (3, .int (nI (2 ^ pB - 1))), (4, .int (nI r1)), (5, .int (nI (z + 1) - 1))]) hx hb dX2_shifted_39 hl (by decide) rfl (fun ls hl => ?_)
        refine lv_iload hx hb dX2_shifted_41 (lv_at hl 6 rfl) ?_
        refine lv_iconst (v := 1) hx hb dX2_shifted_43 (by decide) ?_
        refine lv_ishl hx hb dX2_shifted_44 ?_
        refine lv_iload_n hx hb dX2_shifted_45 rfl (lv_at hl 5 rfl) ?_
        refine lv_iand hx hb dX2_shifted_46 ?_
        refine lv_topi (fun x_46 ex_46 => ?_)
        obtain rfl : x_46 = nI (r1 * 2 % 2 ^ pB) := by rw [ex_46]; exact sh_dbl hB hr2
        refine lv_istore (lv' := [(4, .int (nI (r1 * 2 % 2 ^ pB))), (7, .int (nI (o / 2 ^ z % 2))), (6, .int (nI (r1 / 2 ^ (pB - 1)))), (0, .ref h0), (1, .int (nI rg)), (2, .int (nI o)), (3, .int (nI (2 ^ pB - 1))), (5, .int (nI (z + 1) - 1))]) hx hb dX2_shifted_47 hl (by decide) rfl (fun ls hl => ?_)
        refine lv_iload hx hb dX2_shifted_49 (lv_at hl 2 rfl) ?_
        refine lv_iload hx hb dX2_shifted_51 (lv_at hl 1 rfl) ?_
        refine lv_icmp_eq (tgt := 65) hx hb dX2_shifted_53 (by decide) (fun c_53 => ?_) (fun c_53 => ?_)
        · refine lv_iinc (v := nI z - 1) (lv' := [(5, .int (nI z - 1)), (4, .int (nI (r1 * 2 % 2 ^ pB))), (7, .int (nI (o / 2 ^ z % 2))), (6, .int (nI (r1 / 2 ^ (pB - 1)))), (0, .ref h0), (1, .int (nI rg)), (2, .int (nI o)), (3, .int (nI (2 ^ pB - 1)))]) hx hb dX2_shifted_65 hl (k := 7) rfl (oc_pp z) (by decide) rfl (fun ls hl => ?_)
          refine lv_goto (tgt := 17) hx hb dX2_shifted_68 (by decide) ?_
          exact ih z (r1 * 2 % 2 ^ pB) _ _ (by omega) (Nat.mod_lt _ (Nat.two_pow_pos pB)) (by omega) ((co_t ((sh_eq hB hr2).mp c_53)).trans hco) hP hD hS _ (lv_sub hl [4, 5, 6, 7, 1, 0] rfl)
        · refine lv_iload hx hb dX2_shifted_56 (lv_at hl 0 rfl) ?_
          refine lv_aload_n hx hb dX2_shifted_58 rfl (lv_at hl 3 rfl) ?_
          refine va_get (D := D) (ci := 3) (v := .int (nI pS)) (C := RX2) (T := TX2) (N := 6) hx hb hts iw_X2_shifted_X2 hown hK hP 0 rfl rfl 1 (by decide) (hts _ lk_X2_shifted_f15) (fun _ h9 => h9) rfl dX2_shifted_59 ?_
          refine lv_ixor hx hb dX2_shifted_62 ?_
          refine lv_topi (fun x_62 ex_62 => ?_)
          obtain rfl : x_62 = nI ((r1 * 2 % 2 ^ pB) ^^^ pS) := by rw [ex_62]; exact nx_xor _ _
          refine lv_istore (lv' := [(4, .int (nI ((r1 * 2 % 2 ^ pB) ^^^ pS))), (7, .int (nI (o / 2 ^ z % 2))), (6, .int (nI (r1 / 2 ^ (pB - 1)))), (0, .ref h0), (1, .int (nI rg)), (2, .int (nI o)), (3, .int (nI (2 ^ pB - 1))), (5, .int (nI (z + 1) - 1))]) hx hb dX2_shifted_63 hl (by decide) rfl (fun ls hl => ?_)
          refine lv_iinc (v := nI z - 1) (lv' := [(5, .int (nI z - 1)), (4, .int (nI ((r1 * 2 % 2 ^ pB) ^^^ pS))), (7, .int (nI (o / 2 ^ z % 2))), (6, .int (nI (r1 / 2 ^ (pB - 1)))), (0, .ref h0), (1, .int (nI rg)), (2, .int (nI o)), (3, .int (nI (2 ^ pB - 1)))]) hx hb dX2_shifted_65 hl (k := 7) rfl (oc_pp z) (by decide) rfl (fun ls hl => ?_)
          refine lv_goto (tgt := 17) hx hb dX2_shifted_68 (by decide) ?_
          exact ih z ((r1 * 2 % 2 ^ pB) ^^^ pS) _ _ (by omega) (Nat.xor_lt_two_pow (Nat.mod_lt _ (Nat.two_pow_pos pB)) hS1) (by omega) ((co_f (fun q => c_53 ((sh_eq hB hr2).mpr q))).trans hco) hP hD hS _ (lv_sub hl [4, 5, 6, 7, 1, 0] rfl)
  exact cut_17 _ 8 rg _ _ (Nat.lt_succ_self _) hr1 (Nat.le_refl _) rfl hP hD hS _ (lv_sub hl [3, 4, 5, 2, 1, 0] rfl)
