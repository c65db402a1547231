theorem iw_X1_has_X1 : ∀ w ∈ wsX10, w ∈ wsX1_has := by decide +kernel
theorem lk_X1_has_f15 : (.fieldLink RX1 15 "DataGuards$Octets" "length" "I" : Cond) ∈ wsX1_has := by decide +kernel
theorem lk_X1_has_f9 : (.fieldLink RX1 9 "DataGuards$Octets" "places" "[B" : Cond) ∈ wsX1_has := by decide +kernel
set_option maxHeartbeats 4000000 in
set_option maxRecDepth 100000 in
/-- Octets.has(i) -/
theorem c_X1_has (l : Launch) (D : va_G) (cy : Nat → ClassId) (sz : Nat) (h0 : Nat) (h1 : Nat) (f : Nat → Int32) (n : Nat) (i : Int32) (hn : n ≤ 70) : Met l yX1_has wsX1_has ({ frames := 0, cells := 0, slots := 0, locals := 0 } : Room) (pre1 D cy [.ref h0, .int i] [(h0, .inr (2, [.ref h1, .int (nI n)])), (h1, .inl (cy 0, 70, .inl f))] sz) (va_Qi (fun (r : Int32) (u : Unit) => r = oc_has i n) (fun u t => va_P D vwCl [(h0, .inr (2, [.ref h1, .int (nI n)])), (h1, .inl (cy 0, 70, .inl f))] t.heap ∧ va_D (va_A [(h0, .inr (2, [.ref h1, .int (nI n)])), (h1, .inl (cy 0, 70, .inl f))] sz) [(h0, .inr (2, [.ref h1, .int (nI n)])), (h1, .inl (cy 0, 70, .inl f))]) (va_A [(h0, .inr (2, [.ref h1, .int (nI n)])), (h1, .inl (cy 0, 70, .inl f))] sz)) 0 0 (va_A [(h0, .inr (2, [.ref h1, .int (nI n)])), (h1, .inl (cy 0, 70, .inl f))] sz) := by
  refine Met.ofW (cc := cX1_has) (maxL := 2) (ret := (some .boolean)) (by decide) rfl ?_
  intro p e s m args below meth c s₁ B hml hv
  obtain ⟨rfl, hsz, hP, hkk, hD0⟩ := hv
  have hx := B.exec
  have hb := B.bytes
  have hr := B.returns
  have hts := atoms_spec (ws := wsX1_has) B.pre
  have hown : s.vm.findClass RX1 = some m.cls := findClass_of_methodNamed B.named
  have hlocks := B.notSynchronized
  have hin : meth.name = _ := (name_of_methodNamed B.named B.method).1
  have hK := hkk.1
  subst hsz
  have hD := hD0.self (sz := s.heap.size)
  generalize hAe : va_A [(h0, .inr (2, [.ref h1, .int (nI n)])), (h1, .inl (cy 0, 70, .inl f))] s.heap.size = A at hD ⊢
  have hA : ∀ q : Nat, s.heap.size ≤ q → A q := fun q h => by rw [← hAe]; exact Or.inr h
  have hS : va_S A s.heap s.heap [] := va_S.rf
  have hP : va_P D vwCl [(h0, .inr (2, [.ref h1, .int (nI n)])), (h1, .inl (cy 0, 70, .inl f))] s.heap := hP
  have hl := lv_entry ([.ref h0, .int i]) (n := 2) (Nat.le_of_ble_eq_true rfl)
  rw [lg_entry_eq]
  generalize (lg_sl ([.ref h0, .int i]) ++ List.replicate (2 - (lg_sl ([.ref h0, .int i])).length) Slot.unset).toArray = ls at hl ⊢
  have hl : lv_has ls 2 [(0, .ref h0), (1, .int i)] := hl
  refine lv_iload_n hx hb dX1_has_0 rfl (lv_at hl 1 rfl) ?_
  refine lv_if_lt (tgt := 25) hx hb dX1_has_1 (by decide) (fun c_1 => ?_) (fun c_1 => ?_)
  · refine lv_iconst (v := 0) hx hb dX1_has_25 (by decide) ?_
    have hP9 := hP.sub (ws' := [(h0, .inr (2, [.ref h1, .int (nI n)])), (h1, .inl (cy 0, 70, .inl f))]) [0, 1] rfl
    have hD9 := hD.sub (ws' := [(h0, .inr (2, [.ref h1, .int (nI n)])), (h1, .inl (cy 0, 70, .inl f))]) [0, 1] (by decide) rfl
    exact W.zret (v := 0) hx hb hr rfl (fun t ht hW => ⟨⟨0, (), rfl, oc_has_lo c_1, by rw [ht]; exact hP9, hD9⟩, hS.F ht⟩) hS.2.2 dX1_has_26
  · refine lv_iload_n hx hb dX1_has_4 rfl (lv_at hl 1 rfl) ?_
    refine lv_aload_n hx hb dX1_has_5 rfl (lv_at hl 0 rfl) ?_
    refine va_get (D := D) (ci := 2) (v := .int (nI n)) (C := RX1) (T := TX1) (N := 2) hx hb hts iw_X1_has_X1 hown hK hP 0 rfl rfl 1 (by decide) (hts _ lk_X1_has_f15) (fun _ h9 => h9) rfl dX1_has_6 ?_
    refine lv_icmp_ge (tgt := 25) hx hb dX1_has_9 (by decide) (fun c_9 => ?_) (fun c_9 => ?_)
    · refine lv_iconst (v := 0) hx hb dX1_has_25 (by decide) ?_
      have hP9 := hP.sub (ws' := [(h0, .inr (2, [.ref h1, .int (nI n)])), (h1, .inl (cy 0, 70, .inl f))]) [0, 1] rfl
      have hD9 := hD.sub (ws' := [(h0, .inr (2, [.ref h1, .int (nI n)])), (h1, .inl (cy 0, 70, .inl f))]) [0, 1] (by decide) rfl
      exact W.zret (v := 0) hx hb hr rfl (fun t ht hW => ⟨⟨0, (), rfl, oc_has_hi hn c_9, by rw [ht]; exact hP9, hD9⟩, hS.F ht⟩) hS.2.2 dX1_has_26
    · refine lv_iload_n hx hb dX1_has_12 rfl (lv_at hl 1 rfl) ?_
      refine lv_aload_n hx hb dX1_has_13 rfl (lv_at hl 0 rfl) ?_
      refine va_get (D := D) (ci := 2) (v := .ref h1) (C := RX1) (T := TX1) (N := 2) hx hb hts iw_X1_has_X1 hown hK hP 0 rfl rfl 0 (by decide) (hts _ lk_X1_has_f9) (fun _ h9 => h9) rfl dX1_has_14 ?_
      refine va_alen hx hb hK hP 1 0 rfl rfl (v := 70) rfl dX1_has_17 ?_
      refine lv_icmp_ge (tgt := 25) hx hb dX1_has_18 (by decide) (fun c_18 => ?_) (fun c_18 => ?_)
      · refine lv_iconst (v := 0) hx hb dX1_has_25 (by decide) ?_
        have hP9 := hP.sub (ws' := [(h0, .inr (2, [.ref h1, .int (nI n)])), (h1, .inl (cy 0, 70, .inl f))]) [0, 1] rfl
        have hD9 := hD.sub (ws' := [(h0, .inr (2, [.ref h1, .int (nI n)])), (h1, .inl (cy 0, 70, .inl f))]) [0, 1] (by decide) rfl
        exact W.zret (v := 0) hx hb hr rfl (fun t ht hW => ⟨⟨0, (), rfl, oc_has_70 hn c_18, by rw [ht]; exact hP9, hD9⟩, hS.F ht⟩) hS.2.2 dX1_has_26
      · refine lv_iconst (v := 1) hx hb dX1_has_21 (by decide) ?_
        refine lv_goto (tgt := 26) hx hb dX1_has_22 (by decide) ?_
        have hP9 := hP.sub (ws' := [(h0, .inr (2, [.ref h1, .int (nI n)])), (h1, .inl (cy 0, 70, .inl f))]) [0, 1] rfl
        have hD9 := hD.sub (ws' := [(h0, .inr (2, [.ref h1, .int (nI n)])), (h1, .inl (cy 0, 70, .inl f))]) [0, 1] (by decide) rfl
        exact W.zret (v := 1) hx hb hr rfl (fun t ht hW => ⟨⟨1, (), rfl, oc_has_in hn c_1 c_9, by rw [ht]; exact hP9, hD9⟩, hS.F ht⟩) hS.2.2 dX1_has_26

theorem iw_X1_get_X1 : ∀ w ∈ wsX10, w ∈ wsX1_get := by decide +kernel
theorem lk_X1_get_f9 : (.fieldLink RX1 9 "DataGuards$Octets" "places" "[B" : Cond) ∈ wsX1_get := by decide +kernel
set_option maxHeartbeats 4000000 in
set_option maxRecDepth 100000 in
/-- Octets.get(i) -/
theorem c_X1_get (l : Launch) (D : va_G) (cy : Nat → ClassId) (sz : Nat) (h0 : Nat) (h1 : Nat) (f : Nat → Int32) (n : Nat) (i : Int32) (hn : n ≤ 70) : Met l yX1_get wsX1_get ({ frames := 1, cells := 0, slots := 0, locals := 21 } : Room) (pre1 D cy [.ref h0, .int i] [(h0, .inr (2, [.ref h1, .int (nI n)])), (h1, .inl (cy 0, 70, .inl f))] sz) (va_Qi (fun (r : Int32) (u : Unit) => r = oc_get f n i) (fun u t => va_P D vwCl [(h0, .inr (2, [.ref h1, .int (nI n)])), (h1, .inl (cy 0, 70, .inl f))] t.heap ∧ va_D (va_A [(h0, .inr (2, [.ref h1, .int (nI n)])), (h1, .inl (cy 0, 70, .inl f))] sz) [(h0, .inr (2, [.ref h1, .int (nI n)])), (h1, .inl (cy 0, 70, .inl f))]) (va_A [(h0, .inr (2, [.ref h1, .int (nI n)])), (h1, .inl (cy 0, 70, .inl f))] sz)) 0 0 (va_A [(h0, .inr (2, [.ref h1, .int (nI n)])), (h1, .inl (cy 0, 70, .inl f))] sz) := by
  refine Met.ofW (cc := cX1_get) (maxL := 2) (ret := (some .int)) (by decide) rfl ?_
  intro p e s m args below meth c s₁ B hml hv
  obtain ⟨rfl, hsz, hP, hkk, hD0⟩ := hv
  have hx := B.exec
  have hb := B.bytes
  have hr := B.returns
  have hts := atoms_spec (ws := wsX1_get) B.pre
  have hown : s.vm.findClass RX1 = some m.cls := findClass_of_methodNamed B.named
  have hlocks := B.notSynchronized
  have hin : meth.name = _ := (name_of_methodNamed B.named B.method).1
  have hK := hkk.1
  subst hsz
  have hD := hD0.self (sz := s.heap.size)
  generalize hAe : va_A [(h0, .inr (2, [.ref h1, .int (nI n)])), (h1, .inl (cy 0, 70, .inl f))] s.heap.size = A at hD ⊢
  have hA : ∀ q : Nat, s.heap.size ≤ q → A q := fun q h => by rw [← hAe]; exact Or.inr h
  have hS : va_S A s.heap s.heap [] := va_S.rf
  have hP : va_P D vwCl [(h0, .inr (2, [.ref h1, .int (nI n)])), (h1, .inl (cy 0, 70, .inl f))] s.heap := hP
  have hl := lv_entry ([.ref h0, .int i]) (n := 2) (Nat.le_of_ble_eq_true rfl)
  rw [lg_entry_eq]
  generalize (lg_sl ([.ref h0, .int i]) ++ List.replicate (2 - (lg_sl ([.ref h0, .int i])).length) Slot.unset).toArray = ls at hl ⊢
  have hl : lv_has ls 2 [(0, .ref h0), (1, .int i)] := hl
  refine lv_aload_n hx hb dX1_get_0 rfl (lv_at hl 0 rfl) ?_
  refine lv_iload_n hx hb dX1_get_1 rfl (lv_at hl 1 rfl) ?_
  have hPc := hP.sub (ws' := [(h0, .inr (2, [.ref h1, .int (nI n)])), (h1, .inl (cy 0, 70, .inl f))]) [0, 1] rfl
  have hDc := hD.sub (ws' := [(h0, .inr (2, [.ref h1, .int (nI n)])), (h1, .inl (cy 0, 70, .inl f))]) [0, 1] (by decide) rfl
  have hFc := va_free (wc := [(h0, .inr (2, [.ref h1, .int (nI n)])), (h1, .inl (cy 0, 70, .inl f))]) hD hS hA [0, 1] rfl
  refine va_calli (va_runV (As := [.int i]) (rest := []) ⟨hx, hb, hml, hown, hts⟩ (c_X1_has l D cy s.heap.size h0 h1 f n i (by first | assumption | omega)) (cwV 1 hts gX1_get_X1_has rfl rfl rfl (by decide +kernel) ⟨Nat.le_of_ble_eq_true rfl, Nat.le_of_ble_eq_true rfl⟩) (pv_V (ci := 2) (q := (RX1, TX1, 2)) hkk hPc hDc rfl rfl rfl) rfl rfl hl.1 rfl (lv_room (Nat.le_of_ble_eq_true rfl)) dX1_get_2 ⟨Nat.le_of_ble_eq_true rfl, Nat.le_of_ble_eq_true rfl⟩) hS (fun q _ h => hFc q h) hFc (fun r_2 u t H1 locs ht hvm hw hB hz1 hk1 hS => ?_)
  obtain ⟨hP1, hD1⟩ := hB
  rw [ht] at hP1
  try dsimp only at hw hP1 hD1
  obtain ⟨hP, hD⟩ := va_join (wr := []) (w1 := [(h0, .inr (2, [.ref h1, .int (nI n)])), (h1, .inl (cy 0, 70, .inl f))]) hP hD [0, 1] [] rfl rfl (by decide) (by decide) hk1 hFc hP1 hD1
  clear hPc hDc hFc hP1 hD1 hz1 hk1
  generalize H1 = H at hP hS ⊢
  have hP : va_P D vwCl [(h0, .inr (2, [.ref h1, .int (nI n)])), (h1, .inl (cy 0, 70, .inl f))] H := hP
  have hD : va_D A [(h0, .inr (2, [.ref h1, .int (nI n)])), (h1, .inl (cy 0, 70, .inl f))] := hD
  obtain rfl := hw
  refine lv_if_eq (tgt := 21) hx hb dX1_get_5 (by decide) (fun c_5 => ?_) (fun c_5 => ?_)
  · refine lv_iconst (v := 0) hx hb dX1_get_21 (by decide) ?_
    have hP9 := hP.sub (ws' := [(h0, .inr (2, [.ref h1, .int (nI n)])), (h1, .inl (cy 0, 70, .inl f))]) [0, 1] rfl
    have hD9 := hD.sub (ws' := [(h0, .inr (2, [.ref h1, .int (nI n)])), (h1, .inl (cy 0, 70, .inl f))]) [0, 1] (by decide) rfl
    exact W.iret (v := 0) hx hb hr (fun t ht hW => ⟨⟨0, (), rfl, oc_get_no c_5, by rw [ht]; exact hP9, hD9⟩, hS.F ht⟩) hS.2.2 dX1_get_22
  · refine lv_aload_n hx hb dX1_get_8 rfl (lv_at hl 0 rfl) ?_
    refine va_get (D := D) (ci := 2) (v := .ref h1) (C := RX1) (T := TX1) (N := 2) hx hb hts iw_X1_get_X1 hown hK hP 0 rfl rfl 0 (by decide) (hts _ lk_X1_get_f9) (fun _ h9 => h9) rfl dX1_get_9 ?_
    refine lv_iload_n hx hb dX1_get_12 rfl (lv_at hl 1 rfl) ?_
    refine va_bald hx hb hK hP 1 0 rfl rfl (oc_vp hn c_5) dX1_get_13 ?_
    refine lv_sipush (v := 255) hx hb dX1_get_14 (by decide) ?_
    refine lv_iand hx hb dX1_get_17 ?_
    refine lv_goto (tgt := 22) hx hb dX1_get_18 (by decide) ?_
    have hP9 := hP.sub (ws' := [(h0, .inr (2, [.ref h1, .int (nI n)])), (h1, .inl (cy 0, 70, .inl f))]) [0, 1] rfl
    have hD9 := hD.sub (ws' := [(h0, .inr (2, [.ref h1, .int (nI n)])), (h1, .inl (cy 0, 70, .inl f))]) [0, 1] (by decide) rfl
    exact W.iret (v := (f i.toNatClampNeg) &&& 255) hx hb hr (fun t ht hW => ⟨⟨(f i.toNatClampNeg) &&& 255, (), rfl, oc_get_yes c_5, by rw [ht]; exact hP9, hD9⟩, hS.F ht⟩) hS.2.2 dX1_get_22

theorem iw_X1_add_X1 : ∀ w ∈ wsX10, w ∈ wsX1_add := by decide +kernel
theorem lk_X1_add_f15 : (.fieldLink RX1 15 "DataGuards$Octets" "length" "I" : Cond) ∈ wsX1_add := by decide +kernel
theorem lk_X1_add_f9 : (.fieldLink RX1 9 "DataGuards$Octets" "places" "[B" : Cond) ∈ wsX1_add := by decide +kernel
set_option maxHeartbeats 4000000 in
set_option maxRecDepth 100000 in
/-- Octets.add(x) -/
theorem c_X1_add (l : Launch) (D : va_G) (cy : Nat → ClassId) (sz : Nat) (h0 : Nat) (h1 : Nat) (f : Nat → Int32) (n : Nat) (x : Int32) (hn : n ≤ 70) : Met l yX1_add wsX1_add ({ frames := 0, cells := 0, slots := 0, locals := 0 } : Room) (pre1 D cy [.ref h0, .int x] [(h0, .inr (2, [.ref h1, .int (nI n)])), (h1, .inl (cy 0, 70, .inl f))] sz) (va_Qi (fun (r : Int32) (u : (Nat → Int32) × (Nat)) => (oc_add f n x r u.1 u.2)) (fun u t => va_P D vwCl [(h0, .inr (2, [.ref h1, .int (nI u.2)])), (h1, .inl (cy 0, 70, .inl u.1))] t.heap ∧ va_D (va_A [(h0, .inr (2, [.ref h1, .int (nI n)])), (h1, .inl (cy 0, 70, .inl f))] sz) [(h0, .inr (2, [.ref h1, .int (nI u.2)])), (h1, .inl (cy 0, 70, .inl u.1))]) (va_A [(h0, .inr (2, [.ref h1, .int (nI n)])), (h1, .inl (cy 0, 70, .inl f))] sz)) 0 0 (va_A [(h0, .inr (2, [.ref h1, .int (nI n)])), (h1, .inl (cy 0, 70, .inl f))] sz) := by
  refine Met.ofW (cc := cX1_add) (maxL := 2) (ret := (some .boolean)) (by decide) rfl ?_
  intro p e s m args below meth c s₁ B hml hv
  obtain ⟨rfl, hsz, hP, hkk, hD0⟩ := hv
  have hx := B.exec
  have hb := B.bytes
  have hr := B.returns
  have hts := atoms_spec (ws := wsX1_add) B.pre
  have hown : s.vm.findClass RX1 = some m.cls := findClass_of_methodNamed B.named
  have hlocks := B.notSynchronized
  have hin : meth.name = _ := (name_of_methodNamed B.named B.method).1
  have hK := hkk.1
  subst hsz
  have hD := hD0.self (sz := s.heap.size)
  generalize hAe : va_A [(h0, .inr (2, [.ref h1, .int (nI n)])), (h1, .inl (cy 0, 70, .inl f))] s.heap.size = A at hD ⊢
  have hA : ∀ q : Nat, s.heap.size ≤ q → A q := fun q h => by rw [← hAe]; exact Or.inr h
  have hS : va_S A s.heap s.heap [] := va_S.rf
  have hP : va_P D vwCl [(h0, .inr (2, [.ref h1, .int (nI n)])), (h1, .inl (cy 0, 70, .inl f))] s.heap := hP
  have hl := lv_entry ([.ref h0, .int x]) (n := 2) (Nat.le_of_ble_eq_true rfl)
  rw [lg_entry_eq]
  generalize (lg_sl ([.ref h0, .int x]) ++ List.replicate (2 - (lg_sl ([.ref h0, .int x])).length) Slot.unset).toArray = ls at hl ⊢
  have hl : lv_has ls 2 [(0, .ref h0), (1, .int x)] := hl
  refine lv_aload_n hx hb dX1_add_0 rfl (lv_at hl 0 rfl) ?_
  refine va_get (D := D) (ci := 2) (v := .int (nI n)) (C := RX1) (T := TX1) (N := 2) hx hb hts iw_X1_add_X1 hown hK hP 0 rfl rfl 1 (by decide) (hts _ lk_X1_add_f15) (fun _ h9 => h9) rfl dX1_add_1 ?_
  refine lv_if_lt (tgt := 19) hx hb dX1_add_4 (by decide) (fun c_4 => ?_) (fun c_4 => ?_)
  · exact absurd c_4 (nI_pos (by omega))
  · refine lv_aload_n hx hb dX1_add_7 rfl (lv_at hl 0 rfl) ?_
    refine va_get (D := D) (ci := 2) (v := .int (nI n)) (C := RX1) (T := TX1) (N := 2) hx hb hts iw_X1_add_X1 hown hK hP 0 rfl rfl 1 (by decide) (hts _ lk_X1_add_f15) (fun _ h9 => h9) rfl dX1_add_8 ?_
    refine lv_aload_n hx hb dX1_add_11 rfl (lv_at hl 0 rfl) ?_
    refine va_get (D := D) (ci := 2) (v := .ref h1) (C := RX1) (T := TX1) (N := 2) hx hb hts iw_X1_add_X1 hown hK hP 0 rfl rfl 0 (by decide) (hts _ lk_X1_add_f9) (fun _ h9 => h9) rfl dX1_add_12 ?_
    refine va_alen hx hb hK hP 1 0 rfl rfl (v := 70) rfl dX1_add_15 ?_
    refine lv_icmp_lt (tgt := 21) hx hb dX1_add_16 (by decide) (fun c_16 => ?_) (fun c_16 => ?_)
    · have hn7 : n < 70 := by rw [i32_70] at c_16; exact (nI_ltI (by omega) (by decide)).mp c_16
      refine lv_aload_n hx hb dX1_add_21 rfl (lv_at hl 0 rfl) ?_
      refine va_get (D := D) (ci := 2) (v := .ref h1) (C := RX1) (T := TX1) (N := 2) hx hb hts iw_X1_add_X1 hown hK hP 0 rfl rfl 0 (by decide) (hts _ lk_X1_add_f9) (fun _ h9 => h9) rfl dX1_add_22 ?_
      refine lv_aload_n hx hb dX1_add_25 rfl (lv_at hl 0 rfl) ?_
      refine va_get (D := D) (ci := 2) (v := .int (nI n)) (C := RX1) (T := TX1) (N := 2) hx hb hts iw_X1_add_X1 hown hK hP 0 rfl rfl 1 (by decide) (hts _ lk_X1_add_f15) (fun _ h9 => h9) rfl dX1_add_26 ?_
      refine lv_iload_n hx hb dX1_add_29 rfl (lv_at hl 1 rfl) ?_
      refine lv_i2b (v := x.toInt8.toInt32) hx hb dX1_add_30 rfl ?_
      refine va_bast hx hb hK hP hD hS 1 0 rfl rfl (vp_in_nI hn7 (by decide)) dX1_add_31 (fun H locs hP hD hS => ?_)
      have hP : va_P D vwCl [(h0, .inr (2, [.ref h1, .int (nI n)])), (h1, .inl (cy 0, 70, .inl (upd f (nI n).toNatClampNeg (vp_nar .byte x.toInt8.toInt32))))] H := hP
      have hD : va_D A [(h0, .inr (2, [.ref h1, .int (nI n)])), (h1, .inl (cy 0, 70, .inl (upd f (nI n).toNatClampNeg (vp_nar .byte x.toInt8.toInt32))))] := hD
      have eA_31 : upd f (nI n).toNatClampNeg (vp_nar .byte x.toInt8.toInt32) = upd f n x.toInt8.toInt32 := by rw [nI_clamp (by omega), pk_vb]
      rw [eA_31] at hP hD
      refine lv_aload_n hx hb dX1_add_32 rfl (lv_at hl 0 rfl) ?_
      refine lv_dup hx hb dX1_add_33 rfl ?_
      refine va_get (D := D) (ci := 2) (v := .int (nI n)) (C := RX1) (T := TX1) (N := 2) hx hb hts iw_X1_add_X1 hown hK hP 0 rfl rfl 1 (by decide) (hts _ lk_X1_add_f15) (fun _ h9 => h9) rfl dX1_add_34 ?_
      refine lv_iconst (v := 1) hx hb dX1_add_37 (by decide) ?_
      refine lv_iadd hx hb dX1_add_38 ?_
      refine lv_topi (fun x_38 ex_38 => ?_)
      obtain rfl : x_38 = nI (n + 1) := by rw [ex_38]; exact nI_1 n
      refine va_put (D := D) (ci := 2) (v := .int (nI (n + 1))) (ty := .int) (C := RX1) (T := TX1) (N := 2) hx hb hts iw_X1_add_X1 tyX1 tyX1_ok nmX1 hown hK hP hD hS 0 rfl rfl 1 (by decide) (hts _ lk_X1_add_f15) (fun _ h9 => h9) rfl (by decide +kernel) rfl rfl (Nat.le_of_ble_eq_true rfl) dX1_add_39 (fun H locs hP hD hS => ?_)
      have hP : va_P D vwCl [(h0, .inr (2, [.ref h1, .int (nI (n + 1))])), (h1, .inl (cy 0, 70, .inl (upd f n x.toInt8.toInt32)))] H := hP
      have hD : va_D A [(h0, .inr (2, [.ref h1, .int (nI (n + 1))])), (h1, .inl (cy 0, 70, .inl (upd f n x.toInt8.toInt32)))] := hD
      refine lv_iconst (v := 1) hx hb dX1_add_42 (by decide) ?_
      have hP9 := hP.sub (ws' := [(h0, .inr (2, [.ref h1, .int (nI (n + 1))])), (h1, .inl (cy 0, 70, .inl (upd f n x.toInt8.toInt32)))]) [0, 1] rfl
      have hD9 := hD.sub (ws' := [(h0, .inr (2, [.ref h1, .int (nI (n + 1))])), (h1, .inl (cy 0, 70, .inl (upd f n x.toInt8.toInt32)))]) [0, 1] (by decide) rfl
      exact W.zret (v := 1) hx hb hr rfl (fun t ht hW => ⟨⟨1, (upd f n x.toInt8.toInt32, n + 1), rfl, Or.inl ⟨hn7, rfl, rfl, rfl⟩, by rw [ht]; exact hP9, hD9⟩, hS.F ht⟩) hS.2.2 dX1_add_43
    · have hn7 : ¬ n < 70 := fun q => c_16 (by rw [i32_70]; exact nI_lt q (by decide))
      refine lv_iconst (v := 0) hx hb dX1_add_19 (by decide) ?_
      have hP9 := hP.sub (ws' := [(h0, .inr (2, [.ref h1, .int (nI n)])), (h1, .inl (cy 0, 70, .inl f))]) [0, 1] rfl
      have hD9 := hD.sub (ws' := [(h0, .inr (2, [.ref h1, .int (nI n)])), (h1, .inl (cy 0, 70, .inl f))]) [0, 1] (by decide) rfl
      exact W.zret (v := 0) hx hb hr rfl (fun t ht hW => ⟨⟨0, (f, n), rfl, Or.inr ⟨hn7, rfl, rfl, rfl⟩, by rw [ht]; exact hP9, hD9⟩, hS.F ht⟩) hS.2.2 dX1_add_20

theorem iw_X1_clear_X1 : ∀ w ∈ wsX10, w ∈ wsX1_clear := by decide +kernel
theorem lk_X1_clear_f15 : (.fieldLink RX1 15 "DataGuards$Octets" "length" "I" : Cond) ∈ wsX1_clear := by decide +kernel
set_option maxHeartbeats 4000000 in
set_option maxRecDepth 100000 in
/-- Octets.clear() -/
theorem c_X1_clear (l : Launch) (D : va_G) (cy : Nat → ClassId) (sz : Nat) (h0 : Nat) (h1 : Nat) (f : Nat → Int32) (n : Nat)  : Met l yX1_clear wsX1_clear ({ frames := 0, cells := 0, slots := 0, locals := 0 } : Room) (pre1 D cy [.ref h0] [(h0, .inr (2, [.ref h1, .int (nI n)])), (h1, .inl (cy 0, 70, .inl f))] sz) (va_Qv (fun (u : Unit) => True) (fun u t => va_P D vwCl [(h0, .inr (2, [.ref h1, .int (nI 0)])), (h1, .inl (cy 0, 70, .inl f))] t.heap ∧ va_D (va_A [(h0, .inr (2, [.ref h1, .int (nI n)])), (h1, .inl (cy 0, 70, .inl f))] sz) [(h0, .inr (2, [.ref h1, .int (nI 0)])), (h1, .inl (cy 0, 70, .inl f))]) (va_A [(h0, .inr (2, [.ref h1, .int (nI n)])), (h1, .inl (cy 0, 70, .inl f))] sz)) 0 0 (va_A [(h0, .inr (2, [.ref h1, .int (nI n)])), (h1, .inl (cy 0, 70, .inl f))] sz) := by
  refine Met.ofW (cc := cX1_clear) (maxL := 1) (ret := none) (by decide) rfl ?_
  intro p e s m args below meth c s₁ B hml hv
  obtain ⟨rfl, hsz, hP, hkk, hD0⟩ := hv
  have hx := B.exec
  have hb := B.bytes
  have hr := B.returns
  have hts := atoms_spec (ws := wsX1_clear) B.pre
  have hown : s.vm.findClass RX1 = some m.cls := findClass_of_methodNamed B.named
  have hlocks := B.notSynchronized
  have hin : meth.name = _ := (name_of_methodNamed B.named B.method).1
  have hK := hkk.1
  subst hsz
  have hD := hD0.self (sz := s.heap.size)
  generalize hAe : va_A [(h0, .inr (2, [.ref h1, .int (nI n)])), (h1, .inl (cy 0, 70, .inl f))] s.heap.size = A at hD ⊢
  have hA : ∀ q : Nat, s.heap.size ≤ q → A q := fun q h => by rw [← hAe]; exact Or.inr h
  have hS : va_S A s.heap s.heap [] := va_S.rf
  have hP : va_P D vwCl [(h0, .inr (2, [.ref h1, .int (nI n)])), (h1, .inl (cy 0, 70, .inl f))] s.heap := hP
  have hl := lv_entry ([.ref h0]) (n := 1) (Nat.le_of_ble_eq_true rfl)
  rw [lg_entry_eq]
  generalize (lg_sl ([.ref h0]) ++ List.replicate (1 - (lg_sl ([.ref h0])).length) Slot.unset).toArray = ls at hl ⊢
  have hl : lv_has ls 1 [(0, .ref h0)] := hl
  refine lv_aload_n hx hb dX1_clear_0 rfl (lv_at hl 0 rfl) ?_
  refine lv_iconst (v := 0) hx hb dX1_clear_1 (by decide) ?_
  refine lv_topi (fun x_1 ex_1 => ?_)
  obtain rfl : x_1 = nI 0 := by rw [ex_1]; exact nI_0.symm
  refine va_put (D := D) (ci := 2) (v := .int (nI 0)) (ty := .int) (C := RX1) (T := TX1) (N := 2) hx hb hts iw_X1_clear_X1 tyX1 tyX1_ok nmX1 hown hK hP hD hS 0 rfl rfl 1 (by decide) (hts _ lk_X1_clear_f15) (fun _ h9 => h9) rfl (by decide +kernel) rfl rfl (Nat.le_of_ble_eq_true rfl) dX1_clear_2 (fun H locs hP hD hS => ?_)
  have hP : va_P D vwCl [(h0, .inr (2, [.ref h1, .int (nI 0)])), (h1, .inl (cy 0, 70, .inl f))] H := hP
  have hD : va_D A [(h0, .inr (2, [.ref h1, .int (nI 0)])), (h1, .inl (cy 0, 70, .inl f))] := hD
  have hP9 := hP.sub (ws' := [(h0, .inr (2, [.ref h1, .int (nI 0)])), (h1, .inl (cy 0, 70, .inl f))]) [0, 1] rfl
  have hD9 := hD.sub (ws' := [(h0, .inr (2, [.ref h1, .int (nI 0)])), (h1, .inl (cy 0, 70, .inl f))]) [0, 1] (by decide) rfl
  exact W.vret hx hb hr (fun t ht hW => ⟨⟨(), rfl, trivial, by rw [ht]; exact hP9, hD9⟩, hS.F ht⟩) hS.2.2 dX1_clear_5

theorem iw_X1_flip_X1 : ∀ w ∈ wsX10, w ∈ wsX1_flip := by decide +kernel
theorem lk_X1_flip_f9 : (.fieldLink RX1 9 "DataGuards$Octets" "places" "[B" : Cond) ∈ wsX1_flip := by decide +kernel
set_option maxHeartbeats 4000000 in
set_option maxRecDepth 100000 in
/-- Octets.flip(i, mask) -/
theorem c_X1_flip (l : Launch) (D : va_G) (cy : Nat → ClassId) (sz : Nat) (h0 : Nat) (h1 : Nat) (f : Nat → Int32) (n : Nat) (i : Int32) (k : Int32) (hn : n ≤ 70) : Met l yX1_flip wsX1_flip ({ frames := 1, cells := 0, slots := 0, locals := 21 } : Room) (pre1 D cy [.ref h0, .int i, .int k] [(h0, .inr (2, [.ref h1, .int (nI n)])), (h1, .inl (cy 0, 70, .inl f))] sz) (va_Qv (fun (u : Unit) => True) (fun u t => va_P D vwCl [(h0, .inr (2, [.ref h1, .int (nI n)])), (h1, .inl (cy 0, 70, .inl (oc_flip f n i k)))] t.heap ∧ va_D (va_A [(h0, .inr (2, [.ref h1, .int (nI n)])), (h1, .inl (cy 0, 70, .inl f))] sz) [(h0, .inr (2, [.ref h1, .int (nI n)])), (h1, .inl (cy 0, 70, .inl (oc_flip f n i k)))]) (va_A [(h0, .inr (2, [.ref h1, .int (nI n)])), (h1, .inl (cy 0, 70, .inl f))] sz)) 0 0 (va_A [(h0, .inr (2, [.ref h1, .int (nI n)])), (h1, .inl (cy 0, 70, .inl f))] sz) := by
  refine Met.ofW (cc := cX1_flip) (maxL := 3) (ret := none) (by decide) rfl ?_
  intro p e s m args below meth c s₁ B hml hv
  obtain ⟨rfl, hsz, hP, hkk, hD0⟩ := hv
  have hx := B.exec
  have hb := B.bytes
  have hr := B.returns
  have hts := atoms_spec (ws := wsX1_flip) B.pre
  have hown : s.vm.findClass RX1 = some m.cls := findClass_of_methodNamed B.named
  have hlocks := B.notSynchronized
  have hin : meth.name = _ := (name_of_methodNamed B.named B.method).1
  have hK := hkk.1
  subst hsz
  have hD := hD0.self (sz := s.heap.size)
  generalize hAe : va_A [(h0, .inr (2, [.ref h1, .int (nI n)])), (h1, .inl (cy 0, 70, .inl f))] s.heap.size = A at hD ⊢
  have hA : ∀ q : Nat, s.heap.size ≤ q → A q := fun q h => by rw [← hAe]; exact Or.inr h
  have hS : va_S A s.heap s.heap [] := va_S.rf
  have hP : va_P D vwCl [(h0, .inr (2, [.ref h1, .int (nI n)])), (h1, .inl (cy 0, 70, .inl f))] s.heap := hP
  have hl := lv_entry ([.ref h0, .int i, .int k]) (n := 3) (Nat.le_of_ble_eq_true rfl)
  rw [lg_entry_eq]
  generalize (lg_sl ([.ref h0, .int i, .int k]) ++ List.replicate (3 - (lg_sl ([.ref h0, .int i, .int k])).length) Slot.unset).toArray = ls at hl ⊢
  have hl : lv_has ls 3 [(0, .ref h0), (1, .int i), (2, .int k)] := hl
  refine lv_aload_n hx hb dX1_flip_0 rfl (lv_at hl 0 rfl) ?_
  refine lv_iload_n hx hb dX1_flip_1 rfl (lv_at hl 1 rfl) ?_
  have hPc := hP.sub (ws' := [(h0, .inr (2, [.ref h1, .int (nI n)])), (h1, .inl (cy 0, 70, .inl f))]) [0, 1] rfl
  have hDc := hD.sub (ws' := [(h0, .inr (2, [.ref h1, .int (nI n)])), (h1, .inl (cy 0, 70, .inl f))]) [0, 1] (by decide) rfl
  have hFc := va_free (wc := [(h0, .inr (2, [.ref h1, .int (nI n)])), (h1, .inl (cy 0, 70, .inl f))]) hD hS hA [0, 1] rfl
  refine va_calli (va_runV (As := [.int i]) (rest := []) ⟨hx, hb, hml, hown, hts⟩ (c_X1_has l D cy s.heap.size h0 h1 f n i (by first | assumption | omega)) (cwV 1 hts gX1_flip_X1_has rfl rfl rfl (by decide +kernel) ⟨Nat.le_of_ble_eq_true rfl, Nat.le_of_ble_eq_true rfl⟩) (pv_V (ci := 2) (q := (RX1, TX1, 2)) hkk hPc hDc rfl rfl rfl) rfl rfl hl.1 rfl (lv_room (Nat.le_of_ble_eq_true rfl)) dX1_flip_2 ⟨Nat.le_of_ble_eq_true rfl, Nat.le_of_ble_eq_true rfl⟩) hS (fun q _ h => hFc q h) hFc (fun r_2 u t H1 locs ht hvm hw hB hz1 hk1 hS => ?_)
  obtain ⟨hP1, hD1⟩ := hB
  rw [ht] at hP1
  try dsimp only at hw hP1 hD1
  obtain ⟨hP, hD⟩ := va_join (wr := []) (w1 := [(h0, .inr (2, [.ref h1, .int (nI n)])), (h1, .inl (cy 0, 70, .inl f))]) hP hD [0, 1] [] rfl rfl (by decide) (by decide) hk1 hFc hP1 hD1
  clear hPc hDc hFc hP1 hD1 hz1 hk1
  generalize H1 = H at hP hS ⊢
  have hP : va_P D vwCl [(h0, .inr (2, [.ref h1, .int (nI n)])), (h1, .inl (cy 0, 70, .inl f))] H := hP
  have hD : va_D A [(h0, .inr (2, [.ref h1, .int (nI n)])), (h1, .inl (cy 0, 70, .inl f))] := hD
  obtain rfl := hw
  refine lv_if_eq (tgt := 23) hx hb dX1_flip_5 (by decide) (fun c_5 => ?_) (fun c_5 => ?_)
  · rw [oc_flip_no (f := f) (k := k) c_5] at hP hD
    have hP9 := hP.sub (ws' := [(h0, .inr (2, [.ref h1, .int (nI n)])), (h1, .inl (cy 0, 70, .inl (oc_flip f n i k)))]) [0, 1] rfl
    have hD9 := hD.sub (ws' := [(h0, .inr (2, [.ref h1, .int (nI n)])), (h1, .inl (cy 0, 70, .inl (oc_flip f n i k)))]) [0, 1] (by decide) rfl
    exact W.vret hx hb hr (fun t ht hW => ⟨⟨(), rfl, trivial, by rw [ht]; exact hP9, hD9⟩, hS.F ht⟩) hS.2.2 dX1_flip_23
  · refine lv_aload_n hx hb dX1_flip_8 rfl (lv_at hl 0 rfl) ?_
    refine va_get (D := D) (ci := 2) (v := .ref h1) (C := RX1) (T := TX1) (N := 2) hx hb hts iw_X1_flip_X1 hown hK hP 0 rfl rfl 0 (by decide) (hts _ lk_X1_flip_f9) (fun _ h9 => h9) rfl dX1_flip_9 ?_
    refine lv_iload_n hx hb dX1_flip_12 rfl (lv_at hl 1 rfl) ?_
    refine lv_aload_n hx hb dX1_flip_13 rfl (lv_at hl 0 rfl) ?_
    refine va_get (D := D) (ci := 2) (v := .ref h1) (C := RX1) (T := TX1) (N := 2) hx hb hts iw_X1_flip_X1 hown hK hP 0 rfl rfl 0 (by decide) (hts _ lk_X1_flip_f9) (fun _ h9 => h9) rfl dX1_flip_14 ?_
    refine lv_iload_n hx hb dX1_flip_17 rfl (lv_at hl 1 rfl) ?_
    refine va_bald hx hb hK hP 1 0 rfl rfl (oc_vp hn c_5) dX1_flip_18 ?_
    refine lv_iload_n hx hb dX1_flip_19 rfl (lv_at hl 2 rfl) ?_
    refine lv_ixor hx hb dX1_flip_20 ?_
    refine lv_i2b (v := ((f i.toNatClampNeg) ^^^ k).toInt8.toInt32) hx hb dX1_flip_21 rfl ?_
    refine va_bast hx hb hK hP hD hS 1 0 rfl rfl (oc_vp hn c_5) dX1_flip_22 (fun H locs hP hD hS => ?_)
    have hP : va_P D vwCl [(h0, .inr (2, [.ref h1, .int (nI n)])), (h1, .inl (cy 0, 70, .inl (upd f i.toNatClampNeg (vp_nar .byte (((f i.toNatClampNeg) ^^^ k).toInt8.toInt32)))))] H := hP
    have hD : va_D A [(h0, .inr (2, [.ref h1, .int (nI n)])), (h1, .inl (cy 0, 70, .inl (upd f i.toNatClampNeg (vp_nar .byte (((f i.toNatClampNeg) ^^^ k).toInt8.toInt32)))))] := hD
    have eA_22 : upd f i.toNatClampNeg (vp_nar .byte (((f i.toNatClampNeg) ^^^ k).toInt8.toInt32)) = oc_flip f n i k := by rw [pk_vb]; exact oc_flip_yes c_5
    rw [eA_22] at hP hD
    have hP9 := hP.sub (ws' := [(h0, .inr (2, [.ref h1, .int (nI n)])), (h1, .inl (cy 0, 70, .inl (oc_flip f n i k)))]) [0, 1] rfl
    have hD9 := hD.sub (ws' := [(h0, .inr (2, [.ref h1, .int (nI n)])), (h1, .inl (cy 0, 70, .inl (oc_flip f n i k)))]) [0, 1] (by decide) rfl
    exact W.vret hx hb hr (fun t ht hW => ⟨⟨(), rfl, trivial, by rw [ht]; exact hP9, hD9⟩, hS.F ht⟩) hS.2.2 dX1_flip_23
