
set_option maxHeartbeats 4000000 in
set_option maxRecDepth 100000 in
/-- sideOf(finding) -/
theorem c_X5_sideOf (l : Launch) (D : va_G) (cy : Nat → ClassId) (sz : Nat) (x : Int32)  : Met l yX5_sideOf wsX5_sideOf ({ frames := 0, cells := 0, slots := 0, locals := 0 } : Room) (pre1 D cy [.int x] [] sz) (va_Qi (fun (r : Int32) (u : Unit) => r = sd x) (fun u t => va_P D vwCl [] t.heap ∧ va_D (va_A [] sz) []) (va_A [] sz)) 0 0 (va_A [] sz) := by
  refine Met.ofW (cc := cX5_sideOf) (maxL := 1) (ret := (some .int)) (by decide) rfl ?_
  intro p e s m args below meth c s₁ B hml hv
  obtain ⟨rfl, hsz, hP, hkk, hD0⟩ := hv
  have hx := B.exec
  have hb := B.bytes
  have hr := B.returns
  have hts := atoms_spec (ws := wsX5_sideOf) B.pre
  have hown : s.vm.findClass RX5 = some m.cls := findClass_of_methodNamed B.named
  have hlocks := B.notSynchronized
  have hin : meth.name = _ := (name_of_methodNamed B.named B.method).1
  have hK := hkk.1
  subst hsz
  have hD := hD0.self (sz := s.heap.size)
  generalize hAe : va_A [] s.heap.size = A at hD ⊢
  have hA : ∀ q : Nat, s.heap.size ≤ q → A q := fun q h => by rw [← hAe]; exact Or.inr h
  have hS : va_S A s.heap s.heap [] := va_S.rf
  have hP : va_P D vwCl [] s.heap := hP
  have hl := lv_entry ([.int x]) (n := 1) (Nat.le_of_ble_eq_true rfl)
  rw [lg_entry_eq]
  generalize (lg_sl ([.int x]) ++ List.replicate (1 - (lg_sl ([.int x])).length) Slot.unset).toArray = ls at hl ⊢
  have hl : lv_has ls 1 [(0, .int x)] := hl
  refine lv_iload_n hx hb dX5_sideOf_0 rfl (lv_at hl 0 rfl) ?_
  by_cases sw_1_0 : x = 0
  · refine lv_tableIn (tgt := 40) (off := 39) hx hb dX5_sideOf_1 (by rw [sw_1_0]; decide) (by rw [sw_1_0]; decide) (by rw [sw_1_0]; rfl) (by decide) ?_
    refine lv_iconst (v := 1) hx hb dX5_sideOf_40 (by decide) ?_
    have hP9 := hP.sub (ws' := []) [] rfl
    have hD9 := hD.sub (ws' := []) [] (by decide) rfl
    exact W.iret (v := 1) hx hb hr (fun t ht hW => ⟨⟨1, (), rfl, by rw [sw_1_0]; rfl, by rw [ht]; exact hP9, hD9⟩, hS.F ht⟩) hS.2.2 dX5_sideOf_41
  by_cases sw_1_1 : x = 1
  · refine lv_tableIn (tgt := 44) (off := 43) hx hb dX5_sideOf_1 (by rw [sw_1_1]; decide) (by rw [sw_1_1]; decide) (by rw [sw_1_1]; rfl) (by decide) ?_
    refine lv_iconst (v := 0) hx hb dX5_sideOf_44 (by decide) ?_
    have hP9 := hP.sub (ws' := []) [] rfl
    have hD9 := hD.sub (ws' := []) [] (by decide) rfl
    exact W.iret (v := 0) hx hb hr (fun t ht hW => ⟨⟨0, (), rfl, by rw [sw_1_1]; rfl, by rw [ht]; exact hP9, hD9⟩, hS.F ht⟩) hS.2.2 dX5_sideOf_45
  by_cases sw_1_2 : x = 2
  · refine lv_tableIn (tgt := 40) (off := 39) hx hb dX5_sideOf_1 (by rw [sw_1_2]; decide) (by rw [sw_1_2]; decide) (by rw [sw_1_2]; rfl) (by decide) ?_
    refine lv_iconst (v := 1) hx hb dX5_sideOf_40 (by decide) ?_
    have hP9 := hP.sub (ws' := []) [] rfl
    have hD9 := hD.sub (ws' := []) [] (by decide) rfl
    exact W.iret (v := 1) hx hb hr (fun t ht hW => ⟨⟨1, (), rfl, by rw [sw_1_2]; rfl, by rw [ht]; exact hP9, hD9⟩, hS.F ht⟩) hS.2.2 dX5_sideOf_41
  by_cases sw_1_3 : x = 3
  · refine lv_tableIn (tgt := 42) (off := 41) hx hb dX5_sideOf_1 (by rw [sw_1_3]; decide) (by rw [sw_1_3]; decide) (by rw [sw_1_3]; rfl) (by decide) ?_
    refine lv_iconst (v := 2) hx hb dX5_sideOf_42 (by decide) ?_
    have hP9 := hP.sub (ws' := []) [] rfl
    have hD9 := hD.sub (ws' := []) [] (by decide) rfl
    exact W.iret (v := 2) hx hb hr (fun t ht hW => ⟨⟨2, (), rfl, by rw [sw_1_3]; rfl, by rw [ht]; exact hP9, hD9⟩, hS.F ht⟩) hS.2.2 dX5_sideOf_43
  by_cases sw_1_4 : x = 4
  · refine lv_tableIn (tgt := 42) (off := 41) hx hb dX5_sideOf_1 (by rw [sw_1_4]; decide) (by rw [sw_1_4]; decide) (by rw [sw_1_4]; rfl) (by decide) ?_
    refine lv_iconst (v := 2) hx hb dX5_sideOf_42 (by decide) ?_
    have hP9 := hP.sub (ws' := []) [] rfl
    have hD9 := hD.sub (ws' := []) [] (by decide) rfl
    exact W.iret (v := 2) hx hb hr (fun t ht hW => ⟨⟨2, (), rfl, by rw [sw_1_4]; rfl, by rw [ht]; exact hP9, hD9⟩, hS.F ht⟩) hS.2.2 dX5_sideOf_43
  by_cases sw_1_5 : x = 5
  · refine lv_tableIn (tgt := 40) (off := 39) hx hb dX5_sideOf_1 (by rw [sw_1_5]; decide) (by rw [sw_1_5]; decide) (by rw [sw_1_5]; rfl) (by decide) ?_
    refine lv_iconst (v := 1) hx hb dX5_sideOf_40 (by decide) ?_
    have hP9 := hP.sub (ws' := []) [] rfl
    have hD9 := hD.sub (ws' := []) [] (by decide) rfl
    exact W.iret (v := 1) hx hb hr (fun t ht hW => ⟨⟨1, (), rfl, by rw [sw_1_5]; rfl, by rw [ht]; exact hP9, hD9⟩, hS.F ht⟩) hS.2.2 dX5_sideOf_41
  refine lv_tableOut (tgt := 44) hx hb dX5_sideOf_1 (by have := lv_neT sw_1_0 (a := 0) (by decide); have := lv_neT sw_1_1 (a := 1) (by decide); have := lv_neT sw_1_2 (a := 2) (by decide); have := lv_neT sw_1_3 (a := 3) (by decide); have := lv_neT sw_1_4 (a := 4) (by decide); have := lv_neT sw_1_5 (a := 5) (by decide); omega) (by decide) ?_
  refine lv_iconst (v := 0) hx hb dX5_sideOf_44 (by decide) ?_
  have hP9 := hP.sub (ws' := []) [] rfl
  have hD9 := hD.sub (ws' := []) [] (by decide) rfl
  exact W.iret (v := 0) hx hb hr (fun t ht hW => ⟨⟨0, (), rfl, by unfold sd; rw [if_neg sw_1_0, if_neg sw_1_1, if_neg sw_1_2, if_neg sw_1_3, if_neg sw_1_4, if_neg sw_1_5], by rw [ht]; exact hP9, hD9⟩, hS.F ht⟩) hS.2.2 dX5_sideOf_45

theorem iw_X0_finding_X0 : ∀ w ∈ wsX00, w ∈ wsX0_finding := by decide +kernel
theorem lk_X0_finding_f19 : (.fieldLink RX0 19 "DataGuards$History" "rows" "I" : Cond) ∈ wsX0_finding := by decide +kernel
theorem lk_X0_finding_f9 : (.fieldLink RX0 9 "DataGuards$History" "findings" "[I" : Cond) ∈ wsX0_finding := by decide +kernel
set_option maxHeartbeats 4000000 in
set_option maxRecDepth 100000 in
theorem c_X0_finding (l : Launch) (D : va_G) (cy : Nat → ClassId) (sz : Nat) (h0 : Nat) (h1 : Nat) (f : Nat → Int32) (w : Nat) (gr : Int32) (bt : Int32) (jo : Int32) (i : Int32) (hw9 : w ≤ 10) : Met l yX0_finding wsX0_finding ({ frames := 0, cells := 0, slots := 0, locals := 0 } : Room) (pre1 D cy [.ref h0, .int i] [(h0, .inr (1, [.ref h1, .int (nI w), .int gr, .int bt, .int jo])), (h1, .inl (cy 1, 10, .inl f))] sz) (va_Qi (fun (r : Int32) (u : Unit) => r = hi_f f w i) (fun u t => va_P D vwCl [(h0, .inr (1, [.ref h1, .int (nI w), .int gr, .int bt, .int jo])), (h1, .inl (cy 1, 10, .inl f))] t.heap ∧ va_D (va_A [(h0, .inr (1, [.ref h1, .int (nI w), .int gr, .int bt, .int jo])), (h1, .inl (cy 1, 10, .inl f))] sz) [(h0, .inr (1, [.ref h1, .int (nI w), .int gr, .int bt, .int jo])), (h1, .inl (cy 1, 10, .inl f))]) (va_A [(h0, .inr (1, [.ref h1, .int (nI w), .int gr, .int bt, .int jo])), (h1, .inl (cy 1, 10, .inl f))] sz)) 0 0 (va_A [(h0, .inr (1, [.ref h1, .int (nI w), .int gr, .int bt, .int jo])), (h1, .inl (cy 1, 10, .inl f))] sz) := by
  refine Met.ofW (cc := cX0_finding) (maxL := 2) (ret := (some .int)) (by decide) rfl ?_
  intro p e s m args below meth c s₁ B hml hv
  obtain ⟨rfl, hsz, hP, hkk, hD0⟩ := hv
  have hx := B.exec
  have hb := B.bytes
  have hr := B.returns
  have hts := atoms_spec (ws := wsX0_finding) B.pre
  have hown : s.vm.findClass RX0 = some m.cls := findClass_of_methodNamed B.named
  have hlocks := B.notSynchronized
  have hin : meth.name = _ := (name_of_methodNamed B.named B.method).1
  have hK := hkk.1
  subst hsz
  have hD := hD0.self (sz := s.heap.size)
  generalize hAe : va_A [(h0, .inr (1, [.ref h1, .int (nI w), .int gr, .int bt, .int jo])), (h1, .inl (cy 1, 10, .inl f))] s.heap.size = A at hD ⊢
  have hA : ∀ q : Nat, s.heap.size ≤ q → A q := fun q h => by rw [← hAe]; exact Or.inr h
  have hS : va_S A s.heap s.heap [] := va_S.rf
  have hP : va_P D vwCl [(h0, .inr (1, [.ref h1, .int (nI w), .int gr, .int bt, .int jo])), (h1, .inl (cy 1, 10, .inl f))] s.heap := hP
  have hl := lv_entry ([.ref h0, .int i]) (n := 2) (Nat.le_of_ble_eq_true rfl)
  rw [lg_entry_eq]
  generalize (lg_sl ([.ref h0, .int i]) ++ List.replicate (2 - (lg_sl ([.ref h0, .int i])).length) Slot.unset).toArray = ls at hl ⊢
  have hl : lv_has ls 2 [(0, .ref h0), (1, .int i)] := hl
  refine lv_iload_n hx hb dX0_finding_0 rfl (lv_at hl 1 rfl) ?_
  refine lv_if_lt (tgt := 30) hx hb dX0_finding_1 (by decide) (fun c_1 => ?_) (fun c_1 => ?_)
  · refine lv_iconst (v := (-1)) hx hb dX0_finding_30 (by decide) ?_
    have hP9 := hP.sub (ws' := [(h0, .inr (1, [.ref h1, .int (nI w), .int gr, .int bt, .int jo])), (h1, .inl (cy 1, 10, .inl f))]) [0, 1] rfl
    have hD9 := hD.sub (ws' := [(h0, .inr (1, [.ref h1, .int (nI w), .int gr, .int bt, .int jo])), (h1, .inl (cy 1, 10, .inl f))]) [0, 1] (by decide) rfl
    exact W.iret (v := (-1)) hx hb hr (fun t ht hW => ⟨⟨(-1), (), rfl, hi_f_lo c_1, by rw [ht]; exact hP9, hD9⟩, hS.F ht⟩) hS.2.2 dX0_finding_31
  · refine lv_iload_n hx hb dX0_finding_4 rfl (lv_at hl 1 rfl) ?_
    refine lv_aload_n hx hb dX0_finding_5 rfl (lv_at hl 0 rfl) ?_
    refine va_get (D := D) (ci := 1) (v := .int (nI w)) (C := RX0) (T := TX0) (N := 5) hx hb hts iw_X0_finding_X0 hown hK hP 0 rfl rfl 1 (by decide) (hts _ lk_X0_finding_f19) (fun _ h9 => h9) rfl dX0_finding_6 ?_
    refine lv_icmp_ge (tgt := 30) hx hb dX0_finding_9 (by decide) (fun c_9 => ?_) (fun c_9 => ?_)
    · refine lv_iconst (v := (-1)) hx hb dX0_finding_30 (by decide) ?_
      have hP9 := hP.sub (ws' := [(h0, .inr (1, [.ref h1, .int (nI w), .int gr, .int bt, .int jo])), (h1, .inl (cy 1, 10, .inl f))]) [0, 1] rfl
      have hD9 := hD.sub (ws' := [(h0, .inr (1, [.ref h1, .int (nI w), .int gr, .int bt, .int jo])), (h1, .inl (cy 1, 10, .inl f))]) [0, 1] (by decide) rfl
      exact W.iret (v := (-1)) hx hb hr (fun t ht hW => ⟨⟨(-1), (), rfl, hi_f_hi hw9 c_9, by rw [ht]; exact hP9, hD9⟩, hS.F ht⟩) hS.2.2 dX0_finding_31
    · refine lv_iload_n hx hb dX0_finding_12 rfl (lv_at hl 1 rfl) ?_
      refine lv_aload_n hx hb dX0_finding_13 rfl (lv_at hl 0 rfl) ?_
      refine va_get (D := D) (ci := 1) (v := .ref h1) (C := RX0) (T := TX0) (N := 5) hx hb hts iw_X0_finding_X0 hown hK hP 0 rfl rfl 0 (by decide) (hts _ lk_X0_finding_f9) (fun _ h9 => h9) rfl dX0_finding_14 ?_
      refine va_alen hx hb hK hP 1 1 rfl rfl (v := 10) rfl dX0_finding_17 ?_
      refine lv_icmp_ge (tgt := 30) hx hb dX0_finding_18 (by decide) (fun c_18 => ?_) (fun c_18 => ?_)
      · refine lv_iconst (v := (-1)) hx hb dX0_finding_30 (by decide) ?_
        have hP9 := hP.sub (ws' := [(h0, .inr (1, [.ref h1, .int (nI w), .int gr, .int bt, .int jo])), (h1, .inl (cy 1, 10, .inl f))]) [0, 1] rfl
        have hD9 := hD.sub (ws' := [(h0, .inr (1, [.ref h1, .int (nI w), .int gr, .int bt, .int jo])), (h1, .inl (cy 1, 10, .inl f))]) [0, 1] (by decide) rfl
        exact W.iret (v := (-1)) hx hb hr (fun t ht hW => ⟨⟨(-1), (), rfl, hi_f_10 hw9 c_18, by rw [ht]; exact hP9, hD9⟩, hS.F ht⟩) hS.2.2 dX0_finding_31
      · refine lv_aload_n hx hb dX0_finding_21 rfl (lv_at hl 0 rfl) ?_
        refine va_get (D := D) (ci := 1) (v := .ref h1) (C := RX0) (T := TX0) (N := 5) hx hb hts iw_X0_finding_X0 hown hK hP 0 rfl rfl 0 (by decide) (hts _ lk_X0_finding_f9) (fun _ h9 => h9) rfl dX0_finding_22 ?_
        refine lv_iload_n hx hb dX0_finding_25 rfl (lv_at hl 1 rfl) ?_
        refine va_iald hx hb hK hP 1 1 rfl rfl (hi_f_vp hw9 c_1 c_9) dX0_finding_26 ?_
        refine lv_goto (tgt := 31) hx hb dX0_finding_27 (by decide) ?_
        have hP9 := hP.sub (ws' := [(h0, .inr (1, [.ref h1, .int (nI w), .int gr, .int bt, .int jo])), (h1, .inl (cy 1, 10, .inl f))]) [0, 1] rfl
        have hD9 := hD.sub (ws' := [(h0, .inr (1, [.ref h1, .int (nI w), .int gr, .int bt, .int jo])), (h1, .inl (cy 1, 10, .inl f))]) [0, 1] (by decide) rfl
        exact W.iret (v := f i.toNatClampNeg) hx hb hr (fun t ht hW => ⟨⟨f i.toNatClampNeg, (), rfl, hi_f_in hw9 c_1 c_9, by rw [ht]; exact hP9, hD9⟩, hS.F ht⟩) hS.2.2 dX0_finding_31

theorem lk_X0_countOfLast_iniX5 : (.initialized RX5 : Cond) ∈ wsX0_countOfLast := by decide +kernel
theorem lk_X0_countOfLast_isyX5_sideOf : (.static yX5_sideOf : Cond) ∈ wsX0_countOfLast := by decide +kernel
set_option maxHeartbeats 4000000 in
set_option maxRecDepth 100000 in
theorem c_X0_countOfLast (l : Launch) (D : va_G) (cy : Nat → ClassId) (sz : Nat) (h0 : Nat) (h1 : Nat) (f : Nat → Int32) (w : Nat) (gr : Int32) (bt : Int32) (jo : Int32) (z : Nat) (y : Int32) (hw9 : w ≤ 10) (hz9 : z ≤ 10) : Met l yX0_countOfLast wsX0_countOfLast ({ frames := 1, cells := 0, slots := 0, locals := 21 } : Room) (pre1 D cy [.ref h0, .int (nI z), .int y] [(h0, .inr (1, [.ref h1, .int (nI w), .int gr, .int bt, .int jo])), (h1, .inl (cy 1, 10, .inl f))] sz) (va_Qi (fun (r : Int32) (u : Unit) => r = nI (hi_c f w y z)) (fun u t => va_P D vwCl [(h0, .inr (1, [.ref h1, .int (nI w), .int gr, .int bt, .int jo])), (h1, .inl (cy 1, 10, .inl f))] t.heap ∧ va_D (va_A [(h0, .inr (1, [.ref h1, .int (nI w), .int gr, .int bt, .int jo])), (h1, .inl (cy 1, 10, .inl f))] sz) [(h0, .inr (1, [.ref h1, .int (nI w), .int gr, .int bt, .int jo])), (h1, .inl (cy 1, 10, .inl f))]) (va_A [(h0, .inr (1, [.ref h1, .int (nI w), .int gr, .int bt, .int jo])), (h1, .inl (cy 1, 10, .inl f))] sz)) 0 0 (va_A [(h0, .inr (1, [.ref h1, .int (nI w), .int gr, .int bt, .int jo])), (h1, .inl (cy 1, 10, .inl f))] sz) := by
  refine Met.ofW (cc := cX0_countOfLast) (maxL := 5) (ret := (some .int)) (by decide) rfl ?_
  intro p e s m args below meth c s₁ B hml hv
  obtain ⟨rfl, hsz, hP, hkk, hD0⟩ := hv
  have hx := B.exec
  have hb := B.bytes
  have hr := B.returns
  have hts := atoms_spec (ws := wsX0_countOfLast) B.pre
  have hown : s.vm.findClass RX0 = some m.cls := findClass_of_methodNamed B.named
  have hlocks := B.notSynchronized
  have hin : meth.name = _ := (name_of_methodNamed B.named B.method).1
  have hK := hkk.1
  subst hsz
  have hD := hD0.self (sz := s.heap.size)
  generalize hAe : va_A [(h0, .inr (1, [.ref h1, .int (nI w), .int gr, .int bt, .int jo])), (h1, .inl (cy 1, 10, .inl f))] s.heap.size = A at hD ⊢
  have hA : ∀ q : Nat, s.heap.size ≤ q → A q := fun q h => by rw [← hAe]; exact Or.inr h
  have hS : va_S A s.heap s.heap [] := va_S.rf
  have hP : va_P D vwCl [(h0, .inr (1, [.ref h1, .int (nI w), .int gr, .int bt, .int jo])), (h1, .inl (cy 1, 10, .inl f))] s.heap := hP
  have hl := lv_entry ([.ref h0, .int (nI z), .int y]) (n := 5) (Nat.le_of_ble_eq_true rfl)
  rw [lg_entry_eq]
  generalize (lg_sl ([.ref h0, .int (nI z), .int y]) ++ List.replicate (5 - (lg_sl ([.ref h0, .int (nI z), .int y])).length) Slot.unset).toArray = ls at hl ⊢
  have hl : lv_has ls 5 [(0, .ref h0), (1, .int (nI z)), (2, .int y)] := hl
  refine lv_iconst (v := 0) hx hb dX0_countOfLast_0 (by decide) ?_
  refine lv_topi (fun x_0 ex_0 => ?_)
  obtain rfl : x_0 = nI (hi_c f w y 0) := by rw [ex_0]; exact (congrArg nI hi_c_0).symm
  refine lv_istore_n (lv' := [(3, .int (nI (hi_c f w y 0))), (0, .ref h0), (1, .int (nI z)), (2, .int y)]) hx hb dX0_countOfLast_1 rfl hl (by decide) rfl (fun ls hl => ?_)
  refine lv_iconst (v := 0) hx hb dX0_countOfLast_2 (by decide) ?_
  refine lv_topi (fun x_2 ex_2 => ?_)
  obtain rfl : x_2 = nI 0 := by rw [ex_2]; exact nI_0.symm
  refine lv_istore (lv' := [(4, .int (nI 0)), (3, .int (nI (hi_c f w y 0))), (0, .ref h0), (1, .int (nI z)), (2, .int y)]) hx hb dX0_countOfLast_3 hl (by decide) rfl (fun ls hl => ?_)
  have cut_5 : ∀ (N : Nat) (k : Nat) (H : Heap) (locs : List Loc), z - k < N → k ≤ z → va_P D vwCl [(h0, .inr (1, [.ref h1, .int (nI w), .int gr, .int bt, .int jo])), (h1, .inl (cy 1, 10, .inl f))] H → va_D A [(h0, .inr (1, [.ref h1, .int (nI w), .int gr, .int bt, .int jo])), (h1, .inl (cy 1, 10, .inl f))] → va_S A s.heap H locs → ∀ (ls : Array Slot), lv_has ls 5 [(0, .ref h0), (1, .int (nI z)), (2, .int y), (3, .int (nI (hi_c f w y k))), (4, .int (nI k))] → W p l e (headSpec wsX0_countOfLast ({ frames := 1, cells := 0, slots := 0, locals := 21 } : Room)).room s m [.ref h0, .int (nI z), .int y].toArray below meth c H locs 0 0 (MQ below (va_Qi (fun (r : Int32) (u : Unit) => r = nI (hi_c f w y z)) (fun u t => va_P D vwCl [(h0, .inr (1, [.ref h1, .int (nI w), .int gr, .int bt, .int jo])), (h1, .inl (cy 1, 10, .inl f))] t.heap ∧ va_D A [(h0, .inr (1, [.ref h1, .int (nI w), .int gr, .int bt, .int jo])), (h1, .inl (cy 1, 10, .inl f))]) A) [.ref h0, .int (nI z), .int y].toArray s 0 0 A) (F0 m 5 ls []) := by
    intro N
    induction N with
    | zero => intro k H locs hN; exact absurd hN (Nat.not_lt_zero _)
    | succ N ih =>
      intro k H locs hN hk hP hD hS ls hl
      refine lv_iload hx hb dX0_countOfLast_5 (lv_at hl 4 rfl) ?_
      refine lv_iload_n hx hb dX0_countOfLast_7 rfl (lv_at hl 1 rfl) ?_
      refine lv_icmp_ge (tgt := 33) hx hb dX0_countOfLast_8 (by decide) (fun c_8 => ?_) (fun c_8 => ?_)
      · obtain rfl : z = k := Nat.le_antisymm ((oc_ltN (by omega) (by omega)).mp c_8) hk
        refine lv_iload_n hx hb dX0_countOfLast_33 rfl (lv_at hl 3 rfl) ?_
        have hP9 := hP.sub (ws' := [(h0, .inr (1, [.ref h1, .int (nI w), .int gr, .int bt, .int jo])), (h1, .inl (cy 1, 10, .inl f))]) [0, 1] rfl
        have hD9 := hD.sub (ws' := [(h0, .inr (1, [.ref h1, .int (nI w), .int gr, .int bt, .int jo])), (h1, .inl (cy 1, 10, .inl f))]) [0, 1] (by decide) rfl
        exact W.iret (v := nI (hi_c f w y z)) hx hb hr (fun t ht hW => ⟨⟨nI (hi_c f w y z), (), rfl, rfl, by rw [ht]; exact hP9, hD9⟩, hS.F ht⟩) hS.2.2 dX0_countOfLast_34
      · have hkm : k < z := Nat.not_le.mp fun q => c_8 ((oc_ltN (by omega) (by omega)).mpr q)
        refine lv_aload_n hx hb dX0_countOfLast_11 rfl (lv_at hl 0 rfl) ?_
        refine lv_iload hx hb dX0_countOfLast_12 (lv_at hl 4 rfl) ?_
        have hPc := hP.sub (ws' := [(h0, .inr (1, [.ref h1, .int (nI w), .int gr, .int bt, .int jo])), (h1, .inl (cy 1, 10, .inl f))]) [0, 1] rfl
        have hDc := hD.sub (ws' := [(h0, .inr (1, [.ref h1, .int (nI w), .int gr, .int bt, .int jo])), (h1, .inl (cy 1, 10, .inl f))]) [0, 1] (by decide) rfl
        have hFc := va_free (wc := [(h0, .inr (1, [.ref h1, .int (nI w), .int gr, .int bt, .int jo])), (h1, .inl (cy 1, 10, .inl f))]) hD hS hA [0, 1] rfl
        refine va_calli (va_runV (As := [.int (nI k)]) (rest := []) ⟨hx, hb, hml, hown, hts⟩ (c_X0_finding l D cy H.size h0 h1 f w gr bt jo (nI k) (by first | assumption | omega)) (cwV 1 hts gX0_countOfLast_X0_finding rfl rfl rfl (by decide +kernel) ⟨Nat.le_of_ble_eq_true rfl, Nat.le_of_ble_eq_true rfl⟩) (pv_V (ci := 1) (q := (RX0, TX0, 5)) hkk hPc hDc rfl rfl rfl) rfl rfl hl.1 rfl (lv_room (Nat.le_of_ble_eq_true rfl)) dX0_countOfLast_14 ⟨Nat.le_of_ble_eq_true rfl, Nat.le_of_ble_eq_true rfl⟩) hS (fun q _ h => hFc q h) hFc (fun r_14 u t H1 locs ht hvm hw hB hz1 hk1 hS => ?_)
        obtain ⟨hP1, hD1⟩ := hB
        rw [ht] at hP1
        try dsimp only at hw hP1 hD1
        obtain ⟨hP, hD⟩ := va_join (wr := []) (w1 := [(h0, .inr (1, [.ref h1, .int (nI w), .int gr, .int bt, .int jo])), (h1, .inl (cy 1, 10, .inl f))]) hP hD [0, 1] [] rfl rfl (by decide) (by decide) hk1 hFc hP1 hD1
        clear hPc hDc hFc hP1 hD1 hz1 hk1
        generalize H1 = H at hP hS ⊢
        have hP : va_P D vwCl [(h0, .inr (1, [.ref h1, .int (nI w), .int gr, .int bt, .int jo])), (h1, .inl (cy 1, 10, .inl f))] H := hP
        have hD : va_D A [(h0, .inr (1, [.ref h1, .int (nI w), .int gr, .int bt, .int jo])), (h1, .inl (cy 1, 10, .inl f))] := hD
        obtain rfl := hw
        have hPc := hP.sub (ws' := []) [] rfl
        have hDc := hD.sub (ws' := []) [] (by decide) rfl
        have hFc := va_free (wc := []) hD hS hA [] rfl
        refine va_calli (va_runSN (As := [.int (hi_f f w (nI k))]) (rest := []) ⟨hx, hb, hml, hown, hts⟩ (c_X5_sideOf l D cy H.size (hi_f f w (nI k)) ) ⟨va_cnB 1 hts gX0_countOfLast_X5_sideOf_n28 rfl rfl rfl (nw_get 12 rfl hkk.2) (hts _ lk_X0_countOfLast_iniX5) (by decide +kernel) ⟨Nat.le_of_ble_eq_true rfl, Nat.le_of_ble_eq_true rfl⟩, (hts _ lk_X0_countOfLast_isyX5_sideOf), trivial⟩ (pv_S hkk hPc hDc rfl) rfl rfl hl.1 rfl (lv_room (Nat.le_of_ble_eq_true rfl)) dX0_countOfLast_17 ⟨Nat.le_of_ble_eq_true rfl, Nat.le_of_ble_eq_true rfl⟩) hS (fun q _ h => hFc q h) hFc (fun r_17 u t H1 locs ht hvm hw hB hz1 hk1 hS => ?_)
        obtain ⟨hP1, hD1⟩ := hB
        rw [ht] at hP1
        try dsimp only at hw hP1 hD1
        obtain ⟨hP, hD⟩ := va_join (wr := [(h0, .inr (1, [.ref h1, .int (nI w), .int gr, .int bt, .int jo])), (h1, .inl (cy 1, 10, .inl f))]) (w1 := []) hP hD [] [0, 1] rfl rfl (by decide) (by decide) hk1 hFc hP1 hD1
        clear hPc hDc hFc hP1 hD1 hz1 hk1
        generalize H1 = H at hP hS ⊢
        have hP : va_P D vwCl [(h0, .inr (1, [.ref h1, .int (nI w), .int gr, .int bt, .int jo])), (h1, .inl (cy 1, 10, .inl f))] H := hP
        have hD : va_D A [(h0, .inr (1, [.ref h1, .int (nI w), .int gr, .int bt, .int jo])), (h1, .inl (cy 1, 10, .inl f))] := hD
        obtain rfl := hw
        refine lv_iload_n hx hb dX0_countOfLast_20 rfl (lv_at hl 2 rfl) ?_
        refine lv_icmp_ne (tgt := 27) hx hb dX0_countOfLast_21 (by decide) (fun c_21 => ?_) (fun c_21 => ?_)
        · rw [hi_c_n c_21] at hl
          refine lv_iinc (v := nI (k + 1)) (lv' := [(4, .int (nI (k + 1))), (0, .ref h0), (1, .int (nI z)), (2, .int y), (3, .int (nI (hi_c f w y (k + 1))))]) hx hb dX0_countOfLast_27 hl (k := 4) rfl (nI_1 k) (by decide) rfl (fun ls hl => ?_)
          refine lv_goto (tgt := 5) hx hb dX0_countOfLast_30 (by decide) ?_
          exact ih (k + 1) _ _ (by omega) (by omega) hP hD hS _ (lv_sub hl [1, 2, 3, 4, 0] rfl)
        · refine lv_iinc (v := nI (hi_c f w y k + 1)) (lv' := [(3, .int (nI (hi_c f w y k + 1))), (0, .ref h0), (1, .int (nI z)), (2, .int y), (4, .int (nI k))]) hx hb dX0_countOfLast_24 hl (k := 3) rfl (nI_1 _) (by decide) rfl (fun ls hl => ?_)
          rw [hi_c_y c_21] at hl
          refine lv_iinc (v := nI (k + 1)) (lv' := [(4, .int (nI (k + 1))), (3, .int (nI (hi_c f w y (k + 1)))), (0, .ref h0), (1, .int (nI z)), (2, .int y)]) hx hb dX0_countOfLast_27 hl (k := 4) rfl (nI_1 k) (by decide) rfl (fun ls hl => ?_)
          refine lv_goto (tgt := 5) hx hb dX0_countOfLast_30 (by decide) ?_
          exact ih (k + 1) _ _ (by omega) (by omega) hP hD hS _ (lv_sub hl [2, 3, 4, 1, 0] rfl)
  exact cut_5 _ 0 _ _ (Nat.lt_succ_self _) (Nat.zero_le _) hP hD hS _ (lv_sub hl [2, 3, 4, 1, 0] rfl)


set_option maxHeartbeats 4000000 in
set_option maxRecDepth 100000 in
theorem c_X0_joinedAfter (l : Launch) (D : va_G) (cy : Nat → ClassId) (sz : Nat) (h0 : Nat) (h1 : Nat) (f : Nat → Int32) (w : Nat) (gr : Int32) (bt : Int32) (jo : Int32) (b : Int32) (hw9 : w ≤ 10) : Met l yX0_joinedAfter wsX0_joinedAfter ({ frames := 2, cells := 0, slots := 0, locals := 45 } : Room) (pre1 D cy [.ref h0, .int b] [(h0, .inr (1, [.ref h1, .int (nI w), .int gr, .int bt, .int jo])), (h1, .inl (cy 1, 10, .inl f))] sz) (va_Qi (fun (r : Int32) (u : Unit) => r = hi_j f w b) (fun u t => va_P D vwCl [(h0, .inr (1, [.ref h1, .int (nI w), .int gr, .int bt, .int jo])), (h1, .inl (cy 1, 10, .inl f))] t.heap ∧ va_D (va_A [(h0, .inr (1, [.ref h1, .int (nI w), .int gr, .int bt, .int jo])), (h1, .inl (cy 1, 10, .inl f))] sz) [(h0, .inr (1, [.ref h1, .int (nI w), .int gr, .int bt, .int jo])), (h1, .inl (cy 1, 10, .inl f))]) (va_A [(h0, .inr (1, [.ref h1, .int (nI w), .int gr, .int bt, .int jo])), (h1, .inl (cy 1, 10, .inl f))] sz)) 0 0 (va_A [(h0, .inr (1, [.ref h1, .int (nI w), .int gr, .int bt, .int jo])), (h1, .inl (cy 1, 10, .inl f))] sz) := by
  refine Met.ofW (cc := cX0_joinedAfter) (maxL := 4) (ret := (some .int)) (by decide) rfl ?_
  intro p e s m args below meth c s₁ B hml hv
  obtain ⟨rfl, hsz, hP, hkk, hD0⟩ := hv
  have hx := B.exec
  have hb := B.bytes
  have hr := B.returns
  have hts := atoms_spec (ws := wsX0_joinedAfter) B.pre
  have hown : s.vm.findClass RX0 = some m.cls := findClass_of_methodNamed B.named
  have hlocks := B.notSynchronized
  have hin : meth.name = _ := (name_of_methodNamed B.named B.method).1
  have hK := hkk.1
  subst hsz
  have hD := hD0.self (sz := s.heap.size)
  generalize hAe : va_A [(h0, .inr (1, [.ref h1, .int (nI w), .int gr, .int bt, .int jo])), (h1, .inl (cy 1, 10, .inl f))] s.heap.size = A at hD ⊢
  have hA : ∀ q : Nat, s.heap.size ≤ q → A q := fun q h => by rw [← hAe]; exact Or.inr h
  have hS : va_S A s.heap s.heap [] := va_S.rf
  have hP : va_P D vwCl [(h0, .inr (1, [.ref h1, .int (nI w), .int gr, .int bt, .int jo])), (h1, .inl (cy 1, 10, .inl f))] s.heap := hP
  have hl := lv_entry ([.ref h0, .int b]) (n := 4) (Nat.le_of_ble_eq_true rfl)
  rw [lg_entry_eq]
  generalize (lg_sl ([.ref h0, .int b]) ++ List.replicate (4 - (lg_sl ([.ref h0, .int b])).length) Slot.unset).toArray = ls at hl ⊢
  have hl : lv_has ls 4 [(0, .ref h0), (1, .int b)] := hl
  refine lv_aload_n hx hb dX0_joinedAfter_0 rfl (lv_at hl 0 rfl) ?_
  refine lv_bipush (v := 10) hx hb dX0_joinedAfter_1 (by decide) ?_
  refine lv_topi (fun x_1 ex_1 => ?_)
  obtain rfl : x_1 = nI 10 := by rw [ex_1]; decide
  refine lv_iconst (v := 2) hx hb dX0_joinedAfter_3 (by decide) ?_
  have hPc := hP.sub (ws' := [(h0, .inr (1, [.ref h1, .int (nI w), .int gr, .int bt, .int jo])), (h1, .inl (cy 1, 10, .inl f))]) [0, 1] rfl
  have hDc := hD.sub (ws' := [(h0, .inr (1, [.ref h1, .int (nI w), .int gr, .int bt, .int jo])), (h1, .inl (cy 1, 10, .inl f))]) [0, 1] (by decide) rfl
  have hFc := va_free (wc := [(h0, .inr (1, [.ref h1, .int (nI w), .int gr, .int bt, .int jo])), (h1, .inl (cy 1, 10, .inl f))]) hD hS hA [0, 1] rfl
  refine va_calli (va_runV (As := [.int (nI 10), .int 2]) (rest := []) ⟨hx, hb, hml, hown, hts⟩ (c_X0_countOfLast l D cy s.heap.size h0 h1 f w gr bt jo 10 2 (by first | assumption | omega) (by decide)) (cwV 2 hts gX0_joinedAfter_X0_countOfLast rfl rfl rfl (by decide +kernel) ⟨Nat.le_of_ble_eq_true rfl, Nat.le_of_ble_eq_true rfl⟩) (pv_V (ci := 1) (q := (RX0, TX0, 5)) hkk hPc hDc rfl rfl rfl) rfl rfl hl.1 rfl (lv_room (Nat.le_of_ble_eq_true rfl)) dX0_joinedAfter_4 ⟨Nat.le_of_ble_eq_true rfl, Nat.le_of_ble_eq_true rfl⟩) hS (fun q _ h => hFc q h) hFc (fun r_4 u t H1 locs ht hvm hw hB hz1 hk1 hS => ?_)
  obtain ⟨hP1, hD1⟩ := hB
  rw [ht] at hP1
  try dsimp only at hw hP1 hD1
  obtain ⟨hP, hD⟩ := va_join (wr := []) (w1 := [(h0, .inr (1, [.ref h1, .int (nI w), .int gr, .int bt, .int jo])), (h1, .inl (cy 1, 10, .inl f))]) hP hD [0, 1] [] rfl rfl (by decide) (by decide) hk1 hFc hP1 hD1
  clear hPc hDc hFc hP1 hD1 hz1 hk1
  generalize H1 = H at hP hS ⊢
  have hP : va_P D vwCl [(h0, .inr (1, [.ref h1, .int (nI w), .int gr, .int bt, .int jo])), (h1, .inl (cy 1, 10, .inl f))] H := hP
  have hD : va_D A [(h0, .inr (1, [.ref h1, .int (nI w), .int gr, .int bt, .int jo])), (h1, .inl (cy 1, 10, .inl f))] := hD
  obtain rfl := hw
  refine lv_iconst (v := 3) hx hb dX0_joinedAfter_7 (by decide) ?_
  refine lv_icmp_lt (tgt := 13) hx hb dX0_joinedAfter_8 (by decide) (fun c_8 => ?_) (fun c_8 => ?_)
  · refine lv_aload_n hx hb dX0_joinedAfter_13 rfl (lv_at hl 0 rfl) ?_
    refine lv_bipush (v := 10) hx hb dX0_joinedAfter_14 (by decide) ?_
    refine lv_topi (fun x_14 ex_14 => ?_)
    obtain rfl : x_14 = nI 10 := by rw [ex_14]; decide
    refine lv_iconst (v := 1) hx hb dX0_joinedAfter_16 (by decide) ?_
    have hPc := hP.sub (ws' := [(h0, .inr (1, [.ref h1, .int (nI w), .int gr, .int bt, .int jo])), (h1, .inl (cy 1, 10, .inl f))]) [0, 1] rfl
    have hDc := hD.sub (ws' := [(h0, .inr (1, [.ref h1, .int (nI w), .int gr, .int bt, .int jo])), (h1, .inl (cy 1, 10, .inl f))]) [0, 1] (by decide) rfl
    have hFc := va_free (wc := [(h0, .inr (1, [.ref h1, .int (nI w), .int gr, .int bt, .int jo])), (h1, .inl (cy 1, 10, .inl f))]) hD hS hA [0, 1] rfl
    refine va_calli (va_runV (As := [.int (nI 10), .int 1]) (rest := []) ⟨hx, hb, hml, hown, hts⟩ (c_X0_countOfLast l D cy H.size h0 h1 f w gr bt jo 10 1 (by first | assumption | omega) (by decide)) (cwV 2 hts gX0_joinedAfter_X0_countOfLast rfl rfl rfl (by decide +kernel) ⟨Nat.le_of_ble_eq_true rfl, Nat.le_of_ble_eq_true rfl⟩) (pv_V (ci := 1) (q := (RX0, TX0, 5)) hkk hPc hDc rfl rfl rfl) rfl rfl hl.1 rfl (lv_room (Nat.le_of_ble_eq_true rfl)) dX0_joinedAfter_17 ⟨Nat.le_of_ble_eq_true rfl, Nat.le_of_ble_eq_true rfl⟩) hS (fun q _ h => hFc q h) hFc (fun r_17 u t H1 locs ht hvm hw hB hz1 hk1 hS => ?_)
    obtain ⟨hP1, hD1⟩ := hB
    rw [ht] at hP1
    try dsimp only at hw hP1 hD1
    obtain ⟨hP, hD⟩ := va_join (wr := []) (w1 := [(h0, .inr (1, [.ref h1, .int (nI w), .int gr, .int bt, .int jo])), (h1, .inl (cy 1, 10, .inl f))]) hP hD [0, 1] [] rfl rfl (by decide) (by decide) hk1 hFc hP1 hD1
    clear hPc hDc hFc hP1 hD1 hz1 hk1
    generalize H1 = H at hP hS ⊢
    have hP : va_P D vwCl [(h0, .inr (1, [.ref h1, .int (nI w), .int gr, .int bt, .int jo])), (h1, .inl (cy 1, 10, .inl f))] H := hP
    have hD : va_D A [(h0, .inr (1, [.ref h1, .int (nI w), .int gr, .int bt, .int jo])), (h1, .inl (cy 1, 10, .inl f))] := hD
    obtain rfl := hw
    refine lv_iconst (v := 3) hx hb dX0_joinedAfter_20 (by decide) ?_
    refine lv_icmp_lt (tgt := 28) hx hb dX0_joinedAfter_21 (by decide) (fun c_21 => ?_) (fun c_21 => ?_)
    · refine lv_iconst (v := 0) hx hb dX0_joinedAfter_28 (by decide) ?_
      refine lv_istore_n (lv' := [(2, .int 0), (0, .ref h0), (1, .int b)]) hx hb dX0_joinedAfter_29 rfl hl (by decide) rfl (fun ls hl => ?_)
      refine lv_aload_n hx hb dX0_joinedAfter_30 rfl (lv_at hl 1 rfl) ?_
      refine lv_iconst (v := 3) hx hb dX0_joinedAfter_31 (by decide) ?_
      refine lv_topi (fun x_31 ex_31 => ?_)
      obtain rfl : x_31 = nI 3 := by rw [ex_31]; decide
      refine lv_iconst (v := 1) hx hb dX0_joinedAfter_32 (by decide) ?_
      have hPc := hP.sub (ws' := [(h0, .inr (1, [.ref h1, .int (nI w), .int gr, .int bt, .int jo])), (h1, .inl (cy 1, 10, .inl f))]) [0, 1] rfl
      have hDc := hD.sub (ws' := [(h0, .inr (1, [.ref h1, .int (nI w), .int gr, .int bt, .int jo])), (h1, .inl (cy 1, 10, .inl f))]) [0, 1] (by decide) rfl
      have hFc := va_free (wc := [(h0, .inr (1, [.ref h1, .int (nI w), .int gr, .int bt, .int jo])), (h1, .inl (cy 1, 10, .inl f))]) hD hS hA [0, 1] rfl
      refine va_calli (va_runV (As := [.int (nI 3), .int 1]) (rest := []) ⟨hx, hb, hml, hown, hts⟩ (c_X0_countOfLast l D cy H.size h0 h1 f w gr bt jo 3 1 (by first | assumption | omega) (by decide)) (cwV 2 hts gX0_joinedAfter_X0_countOfLast rfl rfl rfl (by decide +kernel) ⟨Nat.le_of_ble_eq_true rfl, Nat.le_of_ble_eq_true rfl⟩) (pv_V (ci := 1) (q := (RX0, TX0, 5)) hkk hPc hDc rfl rfl rfl) rfl rfl hl.1 rfl (lv_room (Nat.le_of_ble_eq_true rfl)) dX0_joinedAfter_33 ⟨Nat.le_of_ble_eq_true rfl, Nat.le_of_ble_eq_true rfl⟩) hS (fun q _ h => hFc q h) hFc (fun r_33 u t H1 locs ht hvm hw hB hz1 hk1 hS => ?_)
      obtain ⟨hP1, hD1⟩ := hB
      rw [ht] at hP1
      try dsimp only at hw hP1 hD1
      obtain ⟨hP, hD⟩ := va_join (wr := []) (w1 := [(h0, .inr (1, [.ref h1, .int (nI w), .int gr, .int bt, .int jo])), (h1, .inl (cy 1, 10, .inl f))]) hP hD [0, 1] [] rfl rfl (by decide) (by decide) hk1 hFc hP1 hD1
      clear hPc hDc hFc hP1 hD1 hz1 hk1
      generalize H1 = H at hP hS ⊢
      have hP : va_P D vwCl [(h0, .inr (1, [.ref h1, .int (nI w), .int gr, .int bt, .int jo])), (h1, .inl (cy 1, 10, .inl f))] H := hP
      have hD : va_D A [(h0, .inr (1, [.ref h1, .int (nI w), .int gr, .int bt, .int jo])), (h1, .inl (cy 1, 10, .inl f))] := hD
      obtain rfl := hw
      refine lv_iconst (v := 3) hx hb dX0_joinedAfter_36 (by decide) ?_
      refine lv_icmp_ne (tgt := 44) hx hb dX0_joinedAfter_37 (by decide) (fun c_37 => ?_) (fun c_37 => ?_)
      · refine lv_iconst (v := 0) hx hb dX0_joinedAfter_44 (by decide) ?_
        refine lv_istore_n (lv' := [(3, .int 0), (2, .int 0), (0, .ref h0), (1, .int b)]) hx hb dX0_joinedAfter_45 rfl hl (by decide) rfl (fun ls hl => ?_)
        refine lv_iload_n hx hb dX0_joinedAfter_46 rfl (lv_at hl 1 rfl) ?_
        refine lv_if_eq (tgt := 68) hx hb dX0_joinedAfter_47 (by decide) (fun c_47 => ?_) (fun c_47 => ?_)
        · refine lv_iload_n hx hb dX0_joinedAfter_68 rfl (lv_at hl 3 rfl) ?_
          have hP9 := hP.sub (ws' := [(h0, .inr (1, [.ref h1, .int (nI w), .int gr, .int bt, .int jo])), (h1, .inl (cy 1, 10, .inl f))]) [0, 1] rfl
          have hD9 := hD.sub (ws' := [(h0, .inr (1, [.ref h1, .int (nI w), .int gr, .int bt, .int jo])), (h1, .inl (cy 1, 10, .inl f))]) [0, 1] (by decide) rfl
          exact W.iret (v := b) hx hb hr (fun t ht hW => ⟨⟨b, (), rfl, hi_j_c (Nat.not_le.mpr ((hi_lt3 (hi_c_le 10)).mp c_8)) (fun q => Nat.not_le.mpr ((hi_lt3 (hi_c_le 10)).mp c_21) q.1), by rw [ht]; exact hP9, hD9⟩, hS.F ht⟩) hS.2.2 dX0_joinedAfter_69
        · exact absurd c_47 (by decide)
      · refine lv_iconst (v := 1) hx hb dX0_joinedAfter_40 (by decide) ?_
        refine lv_goto (tgt := 45) hx hb dX0_joinedAfter_41 (by decide) ?_
        refine lv_istore_n (lv' := [(3, .int 1), (2, .int 0), (0, .ref h0), (1, .int b)]) hx hb dX0_joinedAfter_45 rfl hl (by decide) rfl (fun ls hl => ?_)
        refine lv_iload_n hx hb dX0_joinedAfter_46 rfl (lv_at hl 1 rfl) ?_
        refine lv_if_eq (tgt := 68) hx hb dX0_joinedAfter_47 (by decide) (fun c_47 => ?_) (fun c_47 => ?_)
        · refine lv_iload_n hx hb dX0_joinedAfter_68 rfl (lv_at hl 3 rfl) ?_
          have hP9 := hP.sub (ws' := [(h0, .inr (1, [.ref h1, .int (nI w), .int gr, .int bt, .int jo])), (h1, .inl (cy 1, 10, .inl f))]) [0, 1] rfl
          have hD9 := hD.sub (ws' := [(h0, .inr (1, [.ref h1, .int (nI w), .int gr, .int bt, .int jo])), (h1, .inl (cy 1, 10, .inl f))]) [0, 1] (by decide) rfl
          exact W.iret (v := b) hx hb hr (fun t ht hW => ⟨⟨b, (), rfl, hi_j_c (Nat.not_le.mpr ((hi_lt3 (hi_c_le 10)).mp c_8)) (fun q => Nat.not_le.mpr ((hi_lt3 (hi_c_le 10)).mp c_21) q.1), by rw [ht]; exact hP9, hD9⟩, hS.F ht⟩) hS.2.2 dX0_joinedAfter_69
        · exact absurd c_47 (by decide)
    · refine lv_iconst (v := 1) hx hb dX0_joinedAfter_24 (by decide) ?_
      refine lv_goto (tgt := 29) hx hb dX0_joinedAfter_25 (by decide) ?_
      refine lv_istore_n (lv' := [(2, .int 1), (0, .ref h0), (1, .int b)]) hx hb dX0_joinedAfter_29 rfl hl (by decide) rfl (fun ls hl => ?_)
      refine lv_aload_n hx hb dX0_joinedAfter_30 rfl (lv_at hl 1 rfl) ?_
      refine lv_iconst (v := 3) hx hb dX0_joinedAfter_31 (by decide) ?_
      refine lv_topi (fun x_31 ex_31 => ?_)
      obtain rfl : x_31 = nI 3 := by rw [ex_31]; decide
      refine lv_iconst (v := 1) hx hb dX0_joinedAfter_32 (by decide) ?_
      have hPc := hP.sub (ws' := [(h0, .inr (1, [.ref h1, .int (nI w), .int gr, .int bt, .int jo])), (h1, .inl (cy 1, 10, .inl f))]) [0, 1] rfl
      have hDc := hD.sub (ws' := [(h0, .inr (1, [.ref h1, .int (nI w), .int gr, .int bt, .int jo])), (h1, .inl (cy 1, 10, .inl f))]) [0, 1] (by decide) rfl
      have hFc := va_free (wc := [(h0, .inr (1, [.ref h1, .int (nI w), .int gr, .int bt, .int jo])), (h1, .inl (cy 1, 10, .inl f))]) hD hS hA [0, 1] rfl
      refine va_calli (va_runV (As := [.int (nI 3), .int 1]) (rest := []) ⟨hx, hb, hml, hown, hts⟩ (c_X0_countOfLast l D cy H.size h0 h1 f w gr bt jo 3 1 (by first | assumption | omega) (by decide)) (cwV 2 hts gX0_joinedAfter_X0_countOfLast rfl rfl rfl (by decide +kernel) ⟨Nat.le_of_ble_eq_true rfl, Nat.le_of_ble_eq_true rfl⟩) (pv_V (ci := 1) (q := (RX0, TX0, 5)) hkk hPc hDc rfl rfl rfl) rfl rfl hl.1 rfl (lv_room (Nat.le_of_ble_eq_true rfl)) dX0_joinedAfter_33 ⟨Nat.le_of_ble_eq_true rfl, Nat.le_of_ble_eq_true rfl⟩) hS (fun q _ h => hFc q h) hFc (fun r_33 u t H1 locs ht hvm hw hB hz1 hk1 hS => ?_)
      obtain ⟨hP1, hD1⟩ := hB
      rw [ht] at hP1
      try dsimp only at hw hP1 hD1
      obtain ⟨hP, hD⟩ := va_join (wr := []) (w1 := [(h0, .inr (1, [.ref h1, .int (nI w), .int gr, .int bt, .int jo])), (h1, .inl (cy 1, 10, .inl f))]) hP hD [0, 1] [] rfl rfl (by decide) (by decide) hk1 hFc hP1 hD1
      clear hPc hDc hFc hP1 hD1 hz1 hk1
      generalize H1 = H at hP hS ⊢
      have hP : va_P D vwCl [(h0, .inr (1, [.ref h1, .int (nI w), .int gr, .int bt, .int jo])), (h1, .inl (cy 1, 10, .inl f))] H := hP
      have hD : va_D A [(h0, .inr (1, [.ref h1, .int (nI w), .int gr, .int bt, .int jo])), (h1, .inl (cy 1, 10, .inl f))] := hD
      obtain rfl := hw
      refine lv_iconst (v := 3) hx hb dX0_joinedAfter_36 (by decide) ?_
      refine lv_icmp_ne (tgt := 44) hx hb dX0_joinedAfter_37 (by decide) (fun c_37 => ?_) (fun c_37 => ?_)
      · refine lv_iconst (v := 0) hx hb dX0_joinedAfter_44 (by decide) ?_
        refine lv_istore_n (lv' := [(3, .int 0), (2, .int 1), (0, .ref h0), (1, .int b)]) hx hb dX0_joinedAfter_45 rfl hl (by decide) rfl (fun ls hl => ?_)
        refine lv_iload_n hx hb dX0_joinedAfter_46 rfl (lv_at hl 1 rfl) ?_
        refine lv_if_eq (tgt := 68) hx hb dX0_joinedAfter_47 (by decide) (fun c_47 => ?_) (fun c_47 => ?_)
        · exact absurd c_47 (by decide)
        · refine lv_iload_n hx hb dX0_joinedAfter_50 rfl (lv_at hl 3 rfl) ?_
          refine lv_iconst (v := 1) hx hb dX0_joinedAfter_51 (by decide) ?_
          refine lv_icmp_eq (tgt := 64) hx hb dX0_joinedAfter_52 (by decide) (fun c_52 => ?_) (fun c_52 => ?_)
          · refine lv_iconst (v := 2) hx hb dX0_joinedAfter_64 (by decide) ?_
            refine lv_goto (tgt := 69) hx hb dX0_joinedAfter_65 (by decide) ?_
            have hP9 := hP.sub (ws' := [(h0, .inr (1, [.ref h1, .int (nI w), .int gr, .int bt, .int jo])), (h1, .inl (cy 1, 10, .inl f))]) [0, 1] rfl
            have hD9 := hD.sub (ws' := [(h0, .inr (1, [.ref h1, .int (nI w), .int gr, .int bt, .int jo])), (h1, .inl (cy 1, 10, .inl f))]) [0, 1] (by decide) rfl
            exact W.iret (v := 2) hx hb hr (fun t ht hW => ⟨⟨2, (), rfl, hi_j_b (Nat.not_le.mpr ((hi_lt3 (hi_c_le 10)).mp c_8)) (Nat.not_lt.mp fun q => c_21 ((hi_lt3 (hi_c_le 10)).mpr q)) (Or.inl c_52), by rw [ht]; exact hP9, hD9⟩, hS.F ht⟩) hS.2.2 dX0_joinedAfter_69
          · refine lv_iload_n hx hb dX0_joinedAfter_55 rfl (lv_at hl 3 rfl) ?_
            refine lv_iconst (v := 3) hx hb dX0_joinedAfter_56 (by decide) ?_
            refine lv_icmp_ne (tgt := 68) hx hb dX0_joinedAfter_57 (by decide) (fun c_57 => ?_) (fun c_57 => ?_)
            · refine lv_iload_n hx hb dX0_joinedAfter_68 rfl (lv_at hl 3 rfl) ?_
              have hP9 := hP.sub (ws' := [(h0, .inr (1, [.ref h1, .int (nI w), .int gr, .int bt, .int jo])), (h1, .inl (cy 1, 10, .inl f))]) [0, 1] rfl
              have hD9 := hD.sub (ws' := [(h0, .inr (1, [.ref h1, .int (nI w), .int gr, .int bt, .int jo])), (h1, .inl (cy 1, 10, .inl f))]) [0, 1] (by decide) rfl
              exact W.iret (v := b) hx hb hr (fun t ht hW => ⟨⟨b, (), rfl, hi_j_c (Nat.not_le.mpr ((hi_lt3 (hi_c_le 10)).mp c_8)) (fun q => q.2.elim c_52 (fun r => c_57 r.1)), by rw [ht]; exact hP9, hD9⟩, hS.F ht⟩) hS.2.2 dX0_joinedAfter_69
            · refine lv_iload_n hx hb dX0_joinedAfter_60 rfl (lv_at hl 0 rfl) ?_
              refine lv_if_eq (tgt := 68) hx hb dX0_joinedAfter_61 (by decide) (fun c_61 => ?_) (fun c_61 => ?_)
              · refine lv_iload_n hx hb dX0_joinedAfter_68 rfl (lv_at hl 3 rfl) ?_
                have hP9 := hP.sub (ws' := [(h0, .inr (1, [.ref h1, .int (nI w), .int gr, .int bt, .int jo])), (h1, .inl (cy 1, 10, .inl f))]) [0, 1] rfl
                have hD9 := hD.sub (ws' := [(h0, .inr (1, [.ref h1, .int (nI w), .int gr, .int bt, .int jo])), (h1, .inl (cy 1, 10, .inl f))]) [0, 1] (by decide) rfl
                exact W.iret (v := b) hx hb hr (fun t ht hW => ⟨⟨b, (), rfl, hi_j_c (Nat.not_le.mpr ((hi_lt3 (hi_c_le 10)).mp c_8)) (fun q => q.2.elim c_52 (fun r => c_37 ((hi_eq3 (Nat.le_trans (hi_c_le 3) (by decide))).mpr r.2))), by rw [ht]; exact hP9, hD9⟩, hS.F ht⟩) hS.2.2 dX0_joinedAfter_69
              · exact absurd c_61 (by decide)
      · refine lv_iconst (v := 1) hx hb dX0_joinedAfter_40 (by decide) ?_
        refine lv_goto (tgt := 45) hx hb dX0_joinedAfter_41 (by decide) ?_
        refine lv_istore_n (lv' := [(3, .int 1), (2, .int 1), (0, .ref h0), (1, .int b)]) hx hb dX0_joinedAfter_45 rfl hl (by decide) rfl (fun ls hl => ?_)
        refine lv_iload_n hx hb dX0_joinedAfter_46 rfl (lv_at hl 1 rfl) ?_
        refine lv_if_eq (tgt := 68) hx hb dX0_joinedAfter_47 (by decide) (fun c_47 => ?_) (fun c_47 => ?_)
        · exact absurd c_47 (by decide)
        · refine lv_iload_n hx hb dX0_joinedAfter_50 rfl (lv_at hl 3 rfl) ?_
          refine lv_iconst (v := 1) hx hb dX0_joinedAfter_51 (by decide) ?_
          refine lv_icmp_eq (tgt := 64) hx hb dX0_joinedAfter_52 (by decide) (fun c_52 => ?_) (fun c_52 => ?_)
          · refine lv_iconst (v := 2) hx hb dX0_joinedAfter_64 (by decide) ?_
            refine lv_goto (tgt := 69) hx hb dX0_joinedAfter_65 (by decide) ?_
            have hP9 := hP.sub (ws' := [(h0, .inr (1, [.ref h1, .int (nI w), .int gr, .int bt, .int jo])), (h1, .inl (cy 1, 10, .inl f))]) [0, 1] rfl
            have hD9 := hD.sub (ws' := [(h0, .inr (1, [.ref h1, .int (nI w), .int gr, .int bt, .int jo])), (h1, .inl (cy 1, 10, .inl f))]) [0, 1] (by decide) rfl
            exact W.iret (v := 2) hx hb hr (fun t ht hW => ⟨⟨2, (), rfl, hi_j_b (Nat.not_le.mpr ((hi_lt3 (hi_c_le 10)).mp c_8)) (Nat.not_lt.mp fun q => c_21 ((hi_lt3 (hi_c_le 10)).mpr q)) (Or.inl c_52), by rw [ht]; exact hP9, hD9⟩, hS.F ht⟩) hS.2.2 dX0_joinedAfter_69
          · refine lv_iload_n hx hb dX0_joinedAfter_55 rfl (lv_at hl 3 rfl) ?_
            refine lv_iconst (v := 3) hx hb dX0_joinedAfter_56 (by decide) ?_
            refine lv_icmp_ne (tgt := 68) hx hb dX0_joinedAfter_57 (by decide) (fun c_57 => ?_) (fun c_57 => ?_)
            · refine lv_iload_n hx hb dX0_joinedAfter_68 rfl (lv_at hl 3 rfl) ?_
              have hP9 := hP.sub (ws' := [(h0, .inr (1, [.ref h1, .int (nI w), .int gr, .int bt, .int jo])), (h1, .inl (cy 1, 10, .inl f))]) [0, 1] rfl
              have hD9 := hD.sub (ws' := [(h0, .inr (1, [.ref h1, .int (nI w), .int gr, .int bt, .int jo])), (h1, .inl (cy 1, 10, .inl f))]) [0, 1] (by decide) rfl
              exact W.iret (v := b) hx hb hr (fun t ht hW => ⟨⟨b, (), rfl, hi_j_c (Nat.not_le.mpr ((hi_lt3 (hi_c_le 10)).mp c_8)) (fun q => q.2.elim c_52 (fun r => c_57 r.1)), by rw [ht]; exact hP9, hD9⟩, hS.F ht⟩) hS.2.2 dX0_joinedAfter_69
            · refine lv_iload_n hx hb dX0_joinedAfter_60 rfl (lv_at hl 0 rfl) ?_
              refine lv_if_eq (tgt := 68) hx hb dX0_joinedAfter_61 (by decide) (fun c_61 => ?_) (fun c_61 => ?_)
              · exact absurd c_61 (by decide)
              · refine lv_iconst (v := 2) hx hb dX0_joinedAfter_64 (by decide) ?_
                refine lv_goto (tgt := 69) hx hb dX0_joinedAfter_65 (by decide) ?_
                have hP9 := hP.sub (ws' := [(h0, .inr (1, [.ref h1, .int (nI w), .int gr, .int bt, .int jo])), (h1, .inl (cy 1, 10, .inl f))]) [0, 1] rfl
                have hD9 := hD.sub (ws' := [(h0, .inr (1, [.ref h1, .int (nI w), .int gr, .int bt, .int jo])), (h1, .inl (cy 1, 10, .inl f))]) [0, 1] (by decide) rfl
                exact W.iret (v := 2) hx hb hr (fun t ht hW => ⟨⟨2, (), rfl, hi_j_b (Nat.not_le.mpr ((hi_lt3 (hi_c_le 10)).mp c_8)) (Nat.not_lt.mp fun q => c_21 ((hi_lt3 (hi_c_le 10)).mpr q)) (Or.inr ⟨c_57, (hi_eq3 (Nat.le_trans (hi_c_le 3) (by decide))).mp c_37⟩), by rw [ht]; exact hP9, hD9⟩, hS.F ht⟩) hS.2.2 dX0_joinedAfter_69
  · refine lv_iconst (v := 3) hx hb dX0_joinedAfter_11 (by decide) ?_
    have hP9 := hP.sub (ws' := [(h0, .inr (1, [.ref h1, .int (nI w), .int gr, .int bt, .int jo])), (h1, .inl (cy 1, 10, .inl f))]) [0, 1] rfl
    have hD9 := hD.sub (ws' := [(h0, .inr (1, [.ref h1, .int (nI w), .int gr, .int bt, .int jo])), (h1, .inl (cy 1, 10, .inl f))]) [0, 1] (by decide) rfl
    exact W.iret (v := 3) hx hb hr (fun t ht hW => ⟨⟨3, (), rfl, hi_j_a (Nat.not_lt.mp fun q => c_8 ((hi_lt3 (hi_c_le 10)).mpr q)), by rw [ht]; exact hP9, hD9⟩, hS.F ht⟩) hS.2.2 dX0_joinedAfter_12

theorem iw_X0_add_X0 : ∀ w ∈ wsX00, w ∈ wsX0_add := by decide +kernel
theorem lk_X0_add_f9 : (.fieldLink RX0 9 "DataGuards$History" "findings" "[I" : Cond) ∈ wsX0_add := by decide +kernel
theorem lk_X0_add_f19 : (.fieldLink RX0 19 "DataGuards$History" "rows" "I" : Cond) ∈ wsX0_add := by decide +kernel
theorem lk_X0_add_m22 : (.methodLink RX0 22 Lib.Math.min.name : Cond) ∈ wsX0_add := by decide +kernel
theorem lk_X0_add_mns : (.static Lib.Math.min.name : Cond) ∈ wsX0_add := by decide +kernel
theorem lk_X0_add_mni : (.initialized "java/lang/Math" : Cond) ∈ wsX0_add := by decide +kernel
theorem lk_X0_add_mnc : (.code Lib.Math.min.name Lib.Math.min.code 2 (some .int) : Cond) ∈ wsX0_add := by decide +kernel
theorem lk_X0_add_f35 : (.fieldLink RX0 35 "DataGuards$History" "everFoundBits" "I" : Cond) ∈ wsX0_add := by decide +kernel
theorem lk_X0_add_f15 : (.fieldLink RX0 15 "DataGuards$History" "joined" "I" : Cond) ∈ wsX0_add := by decide +kernel
theorem lk_X0_add_iniX5 : (.initialized RX5 : Cond) ∈ wsX0_add := by decide +kernel
theorem lk_X0_add_isyX5_sideOf : (.static yX5_sideOf : Cond) ∈ wsX0_add := by decide +kernel
theorem lk_X0_add_f32 : (.fieldLink RX0 32 "DataGuards$History" "goodRows" "I" : Cond) ∈ wsX0_add := by decide +kernel
set_option maxHeartbeats 4000000 in
set_option maxRecDepth 100000 in
/-- History.add(finding) -/
theorem c_X0_add (l : Launch) (D : va_G) (cy : Nat → ClassId) (sz : Nat) (h0 : Nat) (h1 : Nat) (f : Nat → Int32) (w : Nat) (gr : Int32) (bt : Int32) (jo : Int32) (x : Int32) (hw9 : w ≤ 10) : Met l yX0_add wsX0_add ({ frames := 3, cells := 0, slots := 0, locals := 68 } : Room) (pre1 D cy [.ref h0, .int x] [(h0, .inr (1, [.ref h1, .int (nI w), .int gr, .int bt, .int jo])), (h1, .inl (cy 1, 10, .inl f))] sz) (va_Qv (fun (u : (Nat → Int32)) => (∀ j, j < 10 → u j = hi_s f x j)) (fun u t => va_P D vwCl [(h0, .inr (1, [.ref h1, .int (nI (min (w + 1) 10)), .int (if sd x = 1 then gr + 1 else gr), .int (bt ||| (1 <<< (x &&& 31))), .int (hi_j u (min (w + 1) 10) (if jo = 0 then 1 else jo))])), (h1, .inl (cy 1, 10, .inl u))] t.heap ∧ va_D (va_A [(h0, .inr (1, [.ref h1, .int (nI w), .int gr, .int bt, .int jo])), (h1, .inl (cy 1, 10, .inl f))] sz) [(h0, .inr (1, [.ref h1, .int (nI (min (w + 1) 10)), .int (if sd x = 1 then gr + 1 else gr), .int (bt ||| (1 <<< (x &&& 31))), .int (hi_j u (min (w + 1) 10) (if jo = 0 then 1 else jo))])), (h1, .inl (cy 1, 10, .inl u))]) (va_A [(h0, .inr (1, [.ref h1, .int (nI w), .int gr, .int bt, .int jo])), (h1, .inl (cy 1, 10, .inl f))] sz)) 0 0 (va_A [(h0, .inr (1, [.ref h1, .int (nI w), .int gr, .int bt, .int jo])), (h1, .inl (cy 1, 10, .inl f))] sz) := by
  refine Met.ofW (cc := cX0_add) (maxL := 3) (ret := none) (by decide) rfl ?_
  intro p e s m args below meth c s₁ B hml hv
  obtain ⟨rfl, hsz, hP, hkk, hD0⟩ := hv
  have hx := B.exec
  have hb := B.bytes
  have hr := B.returns
  have hts := atoms_spec (ws := wsX0_add) B.pre
  have hown : s.vm.findClass RX0 = some m.cls := findClass_of_methodNamed B.named
  have hlocks := B.notSynchronized
  have hin : meth.name = _ := (name_of_methodNamed B.named B.method).1
  have hK := hkk.1
  subst hsz
  have hD := hD0.self (sz := s.heap.size)
  generalize hAe : va_A [(h0, .inr (1, [.ref h1, .int (nI w), .int gr, .int bt, .int jo])), (h1, .inl (cy 1, 10, .inl f))] s.heap.size = A at hD ⊢
  have hA : ∀ q : Nat, s.heap.size ≤ q → A q := fun q h => by rw [← hAe]; exact Or.inr h
  have hS : va_S A s.heap s.heap [] := va_S.rf
  have hP : va_P D vwCl [(h0, .inr (1, [.ref h1, .int (nI w), .int gr, .int bt, .int jo])), (h1, .inl (cy 1, 10, .inl f))] s.heap := hP
  have hl := lv_entry ([.ref h0, .int x]) (n := 3) (Nat.le_of_ble_eq_true rfl)
  rw [lg_entry_eq]
  generalize (lg_sl ([.ref h0, .int x]) ++ List.replicate (3 - (lg_sl ([.ref h0, .int x])).length) Slot.unset).toArray = ls at hl ⊢
  have hl : lv_has ls 3 [(0, .ref h0), (1, .int x)] := hl
  refine lv_bipush (v := 9) hx hb dX0_add_0 (by decide) ?_
  refine lv_topi (fun x_0 ex_0 => ?_)
  obtain rfl : x_0 = nI 9 := by rw [ex_0]; decide
  refine lv_istore_n (lv' := [(2, .int (nI 9)), (0, .ref h0), (1, .int x)]) hx hb dX0_add_2 rfl hl (by decide) rfl (fun ls hl => ?_)
  have cut_3 : ∀ (N : Nat) (k : Nat) (f1 : Nat → Int32) (H : Heap) (locs : List Loc), k < N → k ≤ 9 → (∀ j, j < 10 → f1 j = if k < j then f (j - 1) else f j) → va_P D vwCl [(h0, .inr (1, [.ref h1, .int (nI w), .int gr, .int bt, .int jo])), (h1, .inl (cy 1, 10, .inl f1))] H → va_D A [(h0, .inr (1, [.ref h1, .int (nI w), .int gr, .int bt, .int jo])), (h1, .inl (cy 1, 10, .inl f1))] → va_S A s.heap H locs → ∀ (ls : Array Slot), lv_has ls 3 [(0, .ref h0), (1, .int x), (2, .int (nI k))] → W p l e (headSpec wsX0_add ({ frames := 3, cells := 0, slots := 0, locals := 68 } : Room)).room s m [.ref h0, .int x].toArray below meth c H locs 0 0 (MQ below (va_Qv (fun (u : (Nat → Int32)) => (∀ j, j < 10 → u j = hi_s f x j)) (fun u t => va_P D vwCl [(h0, .inr (1, [.ref h1, .int (nI (min (w + 1) 10)), .int (if sd x = 1 then gr + 1 else gr), .int (bt ||| (1 <<< (x &&& 31))), .int (hi_j u (min (w + 1) 10) (if jo = 0 then 1 else jo))])), (h1, .inl (cy 1, 10, .inl u))] t.heap ∧ va_D A [(h0, .inr (1, [.ref h1, .int (nI (min (w + 1) 10)), .int (if sd x = 1 then gr + 1 else gr), .int (bt ||| (1 <<< (x &&& 31))), .int (hi_j u (min (w + 1) 10) (if jo = 0 then 1 else jo))])), (h1, .inl (cy 1, 10, .inl u))]) A) [.ref h0, .int x].toArray s 0 0 A) (F0 m 3 ls []) := by
    intro N
    induction N with
    | zero => intro k f1 H locs hN; exact absurd hN (Nat.not_lt_zero _)
    | succ N ih =>
      intro k f1 H locs hN hk hf1 hP hD hS ls hl
      refine lv_iload_n hx hb dX0_add_3 rfl (lv_at hl 2 rfl) ?_
      refine lv_if_le (tgt := 27) hx hb dX0_add_4 (by decide) (fun c_4 => ?_) (fun c_4 => ?_)
      · obtain rfl := hi_k9 hk c_4
        refine lv_aload_n hx hb dX0_add_27 rfl (lv_at hl 0 rfl) ?_
        refine va_get (D := D) (ci := 1) (v := .ref h1) (C := RX0) (T := TX0) (N := 5) hx hb hts iw_X0_add_X0 hown hK hP 0 rfl rfl 0 (by decide) (hts _ lk_X0_add_f9) (fun _ h9 => h9) rfl dX0_add_28 ?_
        refine lv_iconst (v := 0) hx hb dX0_add_31 (by decide) ?_
        refine lv_iload_n hx hb dX0_add_32 rfl (lv_at hl 1 rfl) ?_
        refine va_iast hx hb hK hP hD hS 1 1 rfl rfl (by rw [← nI_0]; exact vp_in_nI (by decide) (by decide)) dX0_add_33 (fun H locs hP hD hS => ?_)
        have hP : va_P D vwCl [(h0, .inr (1, [.ref h1, .int (nI w), .int gr, .int bt, .int jo])), (h1, .inl (cy 1, 10, .inl (upd f1 (0 : Int32).toNatClampNeg x)))] H := hP
        have hD : va_D A [(h0, .inr (1, [.ref h1, .int (nI w), .int gr, .int bt, .int jo])), (h1, .inl (cy 1, 10, .inl (upd f1 (0 : Int32).toNatClampNeg x)))] := hD
        have eA_33 : upd f1 (0 : Int32).toNatClampNeg x = upd f1 0 x := by rw [sb_cl0]
        rw [eA_33] at hP hD
        refine lv_aload_n hx hb dX0_add_34 rfl (lv_at hl 0 rfl) ?_
        refine lv_aload_n hx hb dX0_add_35 rfl (lv_at hl 0 rfl) ?_
        refine va_get (D := D) (ci := 1) (v := .int (nI w)) (C := RX0) (T := TX0) (N := 5) hx hb hts iw_X0_add_X0 hown hK hP 0 rfl rfl 1 (by decide) (hts _ lk_X0_add_f19) (fun _ h9 => h9) rfl dX0_add_36 ?_
        refine lv_iconst (v := 1) hx hb dX0_add_39 (by decide) ?_
        refine lv_iadd hx hb dX0_add_40 ?_
        refine lv_bipush (v := 10) hx hb dX0_add_41 (by decide) ?_
        refine va_mmin hx hb (hml.trans hl.1.symm) hown (hts _ lk_X0_add_m22) (hts _ lk_X0_add_mns) (hts _ lk_X0_add_mni) (hts _ lk_X0_add_mnc) (Nat.le_of_ble_eq_true rfl) (Nat.le_of_ble_eq_true rfl) (Nat.zero_le _) (Nat.zero_le _) dX0_add_43 ?_
        refine lv_topi (fun x_43 ex_43 => ?_)
        obtain rfl : x_43 = nI (min (w + 1) 10) := by rw [ex_43]; exact hi_min hw9
        refine va_put (D := D) (ci := 1) (v := .int (nI (min (w + 1) 10))) (ty := .int) (C := RX0) (T := TX0) (N := 5) hx hb hts iw_X0_add_X0 tyX0 tyX0_ok nmX0 hown hK hP hD hS 0 rfl rfl 1 (by decide) (hts _ lk_X0_add_f19) (fun _ h9 => h9) rfl (by decide +kernel) rfl rfl (Nat.le_of_ble_eq_true rfl) dX0_add_46 (fun H locs hP hD hS => ?_)
        have hP : va_P D vwCl [(h0, .inr (1, [.ref h1, .int (nI (min (w + 1) 10)), .int gr, .int bt, .int jo])), (h1, .inl (cy 1, 10, .inl (upd f1 0 x)))] H := hP
        have hD : va_D A [(h0, .inr (1, [.ref h1, .int (nI (min (w + 1) 10)), .int gr, .int bt, .int jo])), (h1, .inl (cy 1, 10, .inl (upd f1 0 x)))] := hD
        have cut_67 : ∀ (gr2 : Int32) (H : Heap) (locs : List Loc), gr2 = (if sd x = 1 then gr + 1 else gr) → va_P D vwCl [(h0, .inr (1, [.ref h1, .int (nI (min (w + 1) 10)), .int gr2, .int bt, .int jo])), (h1, .inl (cy 1, 10, .inl (upd f1 0 x)))] H → va_D A [(h0, .inr (1, [.ref h1, .int (nI (min (w + 1) 10)), .int gr2, .int bt, .int jo])), (h1, .inl (cy 1, 10, .inl (upd f1 0 x)))] → va_S A s.heap H locs → ∀ (ls : Array Slot), lv_has ls 3 [(0, .ref h0), (1, .int x)] → W p l e (headSpec wsX0_add ({ frames := 3, cells := 0, slots := 0, locals := 68 } : Room)).room s m [.ref h0, .int x].toArray below meth c H locs 0 0 (MQ below (va_Qv (fun (u : (Nat → Int32)) => (∀ j, j < 10 → u j = hi_s f x j)) (fun u t => va_P D vwCl [(h0, .inr (1, [.ref h1, .int (nI (min (w + 1) 10)), .int (if sd x = 1 then gr + 1 else gr), .int (bt ||| (1 <<< (x &&& 31))), .int (hi_j u (min (w + 1) 10) (if jo = 0 then 1 else jo))])), (h1, .inl (cy 1, 10, .inl u))] t.heap ∧ va_D A [(h0, .inr (1, [.ref h1, .int (nI (min (w + 1) 10)), .int (if sd x = 1 then gr + 1 else gr), .int (bt ||| (1 <<< (x &&& 31))), .int (hi_j u (min (w + 1) 10) (if jo = 0 then 1 else jo))])), (h1, .inl (cy 1, 10, .inl u))]) A) [.ref h0, .int x].toArray s 0 0 A) (F0 m 67 ls []) := by
          intro gr2 H locs hgr hP hD hS ls hl
          refine lv_aload_n hx hb dX0_add_67 rfl (lv_at hl 0 rfl) ?_
          refine lv_dup hx hb dX0_add_68 rfl ?_
          refine va_get (D := D) (ci := 1) (v := .int bt) (C := RX0) (T := TX0) (N := 5) hx hb hts iw_X0_add_X0 hown hK hP 0 rfl rfl 3 (by decide) (hts _ lk_X0_add_f35) (fun _ h9 => h9) rfl dX0_add_69 ?_
          refine lv_iconst (v := 1) hx hb dX0_add_72 (by decide) ?_
          refine lv_iload_n hx hb dX0_add_73 rfl (lv_at hl 1 rfl) ?_
          refine lv_ishl hx hb dX0_add_74 ?_
          refine lv_ior hx hb dX0_add_75 ?_
          refine va_put (D := D) (ci := 1) (v := .int (bt ||| (1 <<< (x &&& 31)))) (ty := .int) (C := RX0) (T := TX0) (N := 5) hx hb hts iw_X0_add_X0 tyX0 tyX0_ok nmX0 hown hK hP hD hS 0 rfl rfl 3 (by decide) (hts _ lk_X0_add_f35) (fun _ h9 => h9) rfl (by decide +kernel) rfl rfl (Nat.le_of_ble_eq_true rfl) dX0_add_76 (fun H locs hP hD hS => ?_)
          have hP : va_P D vwCl [(h0, .inr (1, [.ref h1, .int (nI (min (w + 1) 10)), .int gr2, .int (bt ||| (1 <<< (x &&& 31))), .int jo])), (h1, .inl (cy 1, 10, .inl (upd f1 0 x)))] H := hP
          have hD : va_D A [(h0, .inr (1, [.ref h1, .int (nI (min (w + 1) 10)), .int gr2, .int (bt ||| (1 <<< (x &&& 31))), .int jo])), (h1, .inl (cy 1, 10, .inl (upd f1 0 x)))] := hD
          refine lv_aload_n hx hb dX0_add_79 rfl (lv_at hl 0 rfl) ?_
          refine lv_aload_n hx hb dX0_add_80 rfl (lv_at hl 0 rfl) ?_
          refine lv_aload_n hx hb dX0_add_81 rfl (lv_at hl 0 rfl) ?_
          refine va_get (D := D) (ci := 1) (v := .int jo) (C := RX0) (T := TX0) (N := 5) hx hb hts iw_X0_add_X0 hown hK hP 0 rfl rfl 4 (by decide) (hts _ lk_X0_add_f15) (fun _ h9 => h9) rfl dX0_add_82 ?_
          refine lv_if_ne (tgt := 92) hx hb dX0_add_85 (by decide) (fun c_85 => ?_) (fun c_85 => ?_)
          · refine lv_aload_n hx hb dX0_add_92 rfl (lv_at hl 0 rfl) ?_
            refine va_get (D := D) (ci := 1) (v := .int jo) (C := RX0) (T := TX0) (N := 5) hx hb hts iw_X0_add_X0 hown hK hP 0 rfl rfl 4 (by decide) (hts _ lk_X0_add_f15) (fun _ h9 => h9) rfl dX0_add_93 ?_
            have hPc := hP.sub (ws' := [(h0, .inr (1, [.ref h1, .int (nI (min (w + 1) 10)), .int gr2, .int (bt ||| (1 <<< (x &&& 31))), .int jo])), (h1, .inl (cy 1, 10, .inl (upd f1 0 x)))]) [0, 1] rfl
            have hDc := hD.sub (ws' := [(h0, .inr (1, [.ref h1, .int (nI (min (w + 1) 10)), .int gr2, .int (bt ||| (1 <<< (x &&& 31))), .int jo])), (h1, .inl (cy 1, 10, .inl (upd f1 0 x)))]) [0, 1] (by decide) rfl
            have hFc := va_free (wc := [(h0, .inr (1, [.ref h1, .int (nI (min (w + 1) 10)), .int gr2, .int (bt ||| (1 <<< (x &&& 31))), .int jo])), (h1, .inl (cy 1, 10, .inl (upd f1 0 x)))]) hD hS hA [0, 1] rfl
            refine va_calli (va_runV (As := [.int jo]) (rest := [.ref h0]) ⟨hx, hb, hml, hown, hts⟩ (c_X0_joinedAfter l D cy H.size h0 h1 (upd f1 0 x) (min (w + 1) 10) gr2 (bt ||| (1 <<< (x &&& 31))) jo jo (Nat.min_le_right _ _)) (cwV 1 hts gX0_add_X0_joinedAfter rfl rfl rfl (by decide +kernel) ⟨Nat.le_of_ble_eq_true rfl, Nat.le_of_ble_eq_true rfl⟩) (pv_V (ci := 1) (q := (RX0, TX0, 5)) hkk hPc hDc rfl rfl rfl) rfl rfl hl.1 rfl (lv_room (Nat.le_of_ble_eq_true rfl)) dX0_add_96 ⟨Nat.le_of_ble_eq_true rfl, Nat.le_of_ble_eq_true rfl⟩) hS (fun q _ h => hFc q h) hFc (fun r_96 u t H1 locs ht hvm hw hB hz1 hk1 hS => ?_)
            obtain ⟨hP1, hD1⟩ := hB
            rw [ht] at hP1
            try dsimp only at hw hP1 hD1
            obtain ⟨hP, hD⟩ := va_join (wr := []) (w1 := [(h0, .inr (1, [.ref h1, .int (nI (min (w + 1) 10)), .int gr2, .int (bt ||| (1 <<< (x &&& 31))), .int jo])), (h1, .inl (cy 1, 10, .inl (upd f1 0 x)))]) hP hD [0, 1] [] rfl rfl (by decide) (by decide) hk1 hFc hP1 hD1
            clear hPc hDc hFc hP1 hD1 hz1 hk1
            generalize H1 = H at hP hS ⊢
            have hP : va_P D vwCl [(h0, .inr (1, [.ref h1, .int (nI (min (w + 1) 10)), .int gr2, .int (bt ||| (1 <<< (x &&& 31))), .int jo])), (h1, .inl (cy 1, 10, .inl (upd f1 0 x)))] H := hP
            have hD : va_D A [(h0, .inr (1, [.ref h1, .int (nI (min (w + 1) 10)), .int gr2, .int (bt ||| (1 <<< (x &&& 31))), .int jo])), (h1, .inl (cy 1, 10, .inl (upd f1 0 x)))] := hD
            obtain rfl := hw
            refine va_put (D := D) (ci := 1) (v := .int (hi_j (upd f1 0 x) (min (w + 1) 10) jo)) (ty := .int) (C := RX0) (T := TX0) (N := 5) hx hb hts iw_X0_add_X0 tyX0 tyX0_ok nmX0 hown hK hP hD hS 0 rfl rfl 4 (by decide) (hts _ lk_X0_add_f15) (fun _ h9 => h9) rfl (by decide +kernel) rfl rfl (Nat.le_of_ble_eq_true rfl) dX0_add_99 (fun H locs hP hD hS => ?_)
            have hP : va_P D vwCl [(h0, .inr (1, [.ref h1, .int (nI (min (w + 1) 10)), .int gr2, .int (bt ||| (1 <<< (x &&& 31))), .int (hi_j (upd f1 0 x) (min (w + 1) 10) jo)])), (h1, .inl (cy 1, 10, .inl (upd f1 0 x)))] H := hP
            have hD : va_D A [(h0, .inr (1, [.ref h1, .int (nI (min (w + 1) 10)), .int gr2, .int (bt ||| (1 <<< (x &&& 31))), .int (hi_j (upd f1 0 x) (min (w + 1) 10) jo)])), (h1, .inl (cy 1, 10, .inl (upd f1 0 x)))] := hD
            subst hgr
            rw [show hi_j (upd f1 0 x) (min (w + 1) 10) jo = hi_j (upd f1 0 x) (min (w + 1) 10) (if jo = 0 then 1 else jo) by rw [if_neg c_85]] at hP hD
            have hP9 := hP.sub (ws' := [(h0, .inr (1, [.ref h1, .int (nI (min (w + 1) 10)), .int (if sd x = 1 then gr + 1 else gr), .int (bt ||| (1 <<< (x &&& 31))), .int (hi_j (upd f1 0 x) (min (w + 1) 10) (if jo = 0 then 1 else jo))])), (h1, .inl (cy 1, 10, .inl (upd f1 0 x)))]) [0, 1] rfl
            have hD9 := hD.sub (ws' := [(h0, .inr (1, [.ref h1, .int (nI (min (w + 1) 10)), .int (if sd x = 1 then gr + 1 else gr), .int (bt ||| (1 <<< (x &&& 31))), .int (hi_j (upd f1 0 x) (min (w + 1) 10) (if jo = 0 then 1 else jo))])), (h1, .inl (cy 1, 10, .inl (upd f1 0 x)))]) [0, 1] (by decide) rfl
            exact W.vret hx hb hr (fun t ht hW => ⟨⟨upd f1 0 x, rfl, hi_s0 hf1, by rw [ht]; exact hP9, hD9⟩, hS.F ht⟩) hS.2.2 dX0_add_102
          · refine lv_iconst (v := 1) hx hb dX0_add_88 (by decide) ?_
            refine lv_goto (tgt := 96) hx hb dX0_add_89 (by decide) ?_
            have hPc := hP.sub (ws' := [(h0, .inr (1, [.ref h1, .int (nI (min (w + 1) 10)), .int gr2, .int (bt ||| (1 <<< (x &&& 31))), .int jo])), (h1, .inl (cy 1, 10, .inl (upd f1 0 x)))]) [0, 1] rfl
            have hDc := hD.sub (ws' := [(h0, .inr (1, [.ref h1, .int (nI (min (w + 1) 10)), .int gr2, .int (bt ||| (1 <<< (x &&& 31))), .int jo])), (h1, .inl (cy 1, 10, .inl (upd f1 0 x)))]) [0, 1] (by decide) rfl
            have hFc := va_free (wc := [(h0, .inr (1, [.ref h1, .int (nI (min (w + 1) 10)), .int gr2, .int (bt ||| (1 <<< (x &&& 31))), .int jo])), (h1, .inl (cy 1, 10, .inl (upd f1 0 x)))]) hD hS hA [0, 1] rfl
            refine va_calli (va_runV (As := [.int 1]) (rest := [.ref h0]) ⟨hx, hb, hml, hown, hts⟩ (c_X0_joinedAfter l D cy H.size h0 h1 (upd f1 0 x) (min (w + 1) 10) gr2 (bt ||| (1 <<< (x &&& 31))) jo 1 (Nat.min_le_right _ _)) (cwV 1 hts gX0_add_X0_joinedAfter rfl rfl rfl (by decide +kernel) ⟨Nat.le_of_ble_eq_true rfl, Nat.le_of_ble_eq_true rfl⟩) (pv_V (ci := 1) (q := (RX0, TX0, 5)) hkk hPc hDc rfl rfl rfl) rfl rfl hl.1 rfl (lv_room (Nat.le_of_ble_eq_true rfl)) dX0_add_96 ⟨Nat.le_of_ble_eq_true rfl, Nat.le_of_ble_eq_true rfl⟩) hS (fun q _ h => hFc q h) hFc (fun r_96 u t H1 locs ht hvm hw hB hz1 hk1 hS => ?_)
            obtain ⟨hP1, hD1⟩ := hB
            rw [ht] at hP1
            try dsimp only at hw hP1 hD1
            obtain ⟨hP, hD⟩ := va_join (wr := []) (w1 := [(h0, .inr (1, [.ref h1, .int (nI (min (w + 1) 10)), .int gr2, .int (bt ||| (1 <<< (x &&& 31))), .int jo])), (h1, .inl (cy 1, 10, .inl (upd f1 0 x)))]) hP hD [0, 1] [] rfl rfl (by decide) (by decide) hk1 hFc hP1 hD1
            clear hPc hDc hFc hP1 hD1 hz1 hk1
            generalize H1 = H at hP hS ⊢
            have hP : va_P D vwCl [(h0, .inr (1, [.ref h1, .int (nI (min (w + 1) 10)), .int gr2, .int (bt ||| (1 <<< (x &&& 31))), .int jo])), (h1, .inl (cy 1, 10, .inl (upd f1 0 x)))] H := hP
            have hD : va_D A [(h0, .inr (1, [.ref h1, .int (nI (min (w + 1) 10)), .int gr2, .int (bt ||| (1 <<< (x &&& 31))), .int jo])), (h1, .inl (cy 1, 10, .inl (upd f1 0 x)))] := hD
            obtain rfl := hw
            refine va_put (D := D) (ci := 1) (v := .int (hi_j (upd f1 0 x) (min (w + 1) 10) 1)) (ty := .int) (C := RX0) (T := TX0) (N := 5) hx hb hts iw_X0_add_X0 tyX0 tyX0_ok nmX0 hown hK hP hD hS 0 rfl rfl 4 (by decide) (hts _ lk_X0_add_f15) (fun _ h9 => h9) rfl (by decide +kernel) rfl rfl (Nat.le_of_ble_eq_true rfl) dX0_add_99 (fun H locs hP hD hS => ?_)
            have hP : va_P D vwCl [(h0, .inr (1, [.ref h1, .int (nI (min (w + 1) 10)), .int gr2, .int (bt ||| (1 <<< (x &&& 31))), .int (hi_j (upd f1 0 x) (min (w + 1) 10) 1)])), (h1, .inl (cy 1, 10, .inl (upd f1 0 x)))] H := hP
            have hD : va_D A [(h0, .inr (1, [.ref h1, .int (nI (min (w + 1) 10)), .int gr2, .int (bt ||| (1 <<< (x &&& 31))), .int (hi_j (upd f1 0 x) (min (w + 1) 10) 1)])), (h1, .inl (cy 1, 10, .inl (upd f1 0 x)))] := hD
            subst hgr
            rw [show hi_j (upd f1 0 x) (min (w + 1) 10) 1 = hi_j (upd f1 0 x) (min (w + 1) 10) (if jo = 0 then 1 else jo) by rw [if_pos c_85]] at hP hD
            have hP9 := hP.sub (ws' := [(h0, .inr (1, [.ref h1, .int (nI (min (w + 1) 10)), .int (if sd x = 1 then gr + 1 else gr), .int (bt ||| (1 <<< (x &&& 31))), .int (hi_j (upd f1 0 x) (min (w + 1) 10) (if jo = 0 then 1 else jo))])), (h1, .inl (cy 1, 10, .inl (upd f1 0 x)))]) [0, 1] rfl
            have hD9 := hD.sub (ws' := [(h0, .inr (1, [.ref h1, .int (nI (min (w + 1) 10)), .int (if sd x = 1 then gr + 1 else gr), .int (bt ||| (1 <<< (x &&& 31))), .int (hi_j (upd f1 0 x) (min (w + 1) 10) (if jo = 0 then 1 else jo))])), (h1, .inl (cy 1, 10, .inl (upd f1 0 x)))]) [0, 1] (by decide) rfl
            exact W.vret hx hb hr (fun t ht hW => ⟨⟨upd f1 0 x, rfl, hi_s0 hf1, by rw [ht]; exact hP9, hD9⟩, hS.F ht⟩) hS.2.2 dX0_add_102
        refine lv_iload_n hx hb dX0_add_49 rfl (lv_at hl 1 rfl) ?_
        have hPc := hP.sub (ws' := []) [] rfl
        have hDc := hD.sub (ws' := []) [] (by decide) rfl
        have hFc := va_free (wc := []) hD hS hA [] rfl
        refine va_calli (va_runSN (As := [.int x]) (rest := []) ⟨hx, hb, hml, hown, hts⟩ (c_X5_sideOf l D cy H.size x ) ⟨va_cnB 1 hts gX0_add_X5_sideOf_n28 rfl rfl rfl (nw_get 12 rfl hkk.2) (hts _ lk_X0_add_iniX5) (by decide +kernel) ⟨Nat.le_of_ble_eq_true rfl, Nat.le_of_ble_eq_true rfl⟩, (hts _ lk_X0_add_isyX5_sideOf), trivial⟩ (pv_S hkk hPc hDc rfl) rfl rfl hl.1 rfl (lv_room (Nat.le_of_ble_eq_true rfl)) dX0_add_50 ⟨Nat.le_of_ble_eq_true rfl, Nat.le_of_ble_eq_true rfl⟩) hS (fun q _ h => hFc q h) hFc (fun r_50 u t H1 locs ht hvm hw hB hz1 hk1 hS => ?_)
        obtain ⟨hP1, hD1⟩ := hB
        rw [ht] at hP1
        try dsimp only at hw hP1 hD1
        obtain ⟨hP, hD⟩ := va_join (wr := [(h0, .inr (1, [.ref h1, .int (nI (min (w + 1) 10)), .int gr, .int bt, .int jo])), (h1, .inl (cy 1, 10, .inl (upd f1 0 x)))]) (w1 := []) hP hD [] [0, 1] rfl rfl (by decide) (by decide) hk1 hFc hP1 hD1
        clear hPc hDc hFc hP1 hD1 hz1 hk1
        generalize H1 = H at hP hS ⊢
        have hP : va_P D vwCl [(h0, .inr (1, [.ref h1, .int (nI (min (w + 1) 10)), .int gr, .int bt, .int jo])), (h1, .inl (cy 1, 10, .inl (upd f1 0 x)))] H := hP
        have hD : va_D A [(h0, .inr (1, [.ref h1, .int (nI (min (w + 1) 10)), .int gr, .int bt, .int jo])), (h1, .inl (cy 1, 10, .inl (upd f1 0 x)))] := hD
        obtain rfl := hw
        refine lv_iconst (v := 1) hx hb dX0_add_53 (by decide) ?_
        refine lv_icmp_ne (tgt := 67) hx hb dX0_add_54 (by decide) (fun c_54 => ?_) (fun c_54 => ?_)
        · exact cut_67 gr _ _ (if_neg c_54).symm hP hD hS _ (lv_sub hl [0, 1] rfl)
        · refine lv_aload_n hx hb dX0_add_57 rfl (lv_at hl 0 rfl) ?_
          refine lv_dup hx hb dX0_add_58 rfl ?_
          refine va_get (D := D) (ci := 1) (v := .int gr) (C := RX0) (T := TX0) (N := 5) hx hb hts iw_X0_add_X0 hown hK hP 0 rfl rfl 2 (by decide) (hts _ lk_X0_add_f32) (fun _ h9 => h9) rfl dX0_add_59 ?_
          refine lv_iconst (v := 1) hx hb dX0_add_62 (by decide) ?_
          refine lv_iadd hx hb dX0_add_63 ?_
          refine va_put (D := D) (ci := 1) (v := .int (gr + 1)) (ty := .int) (C := RX0) (T := TX0) (N := 5) hx hb hts iw_X0_add_X0 tyX0 tyX0_ok nmX0 hown hK hP hD hS 0 rfl rfl 2 (by decide) (hts _ lk_X0_add_f32) (fun _ h9 => h9) rfl (by decide +kernel) rfl rfl (Nat.le_of_ble_eq_true rfl) dX0_add_64 (fun H locs hP hD hS => ?_)
          have hP : va_P D vwCl [(h0, .inr (1, [.ref h1, .int (nI (min (w + 1) 10)), .int (gr + 1), .int bt, .int jo])), (h1, .inl (cy 1, 10, .inl (upd f1 0 x)))] H := hP
          have hD : va_D A [(h0, .inr (1, [.ref h1, .int (nI (min (w + 1) 10)), .int (gr + 1), .int bt, .int jo])), (h1, .inl (cy 1, 10, .inl (upd f1 0 x)))] := hD
          exact cut_67 (gr + 1) _ _ (if_pos c_54).symm hP hD hS _ (lv_sub hl [0, 1] rfl)
      · obtain ⟨z, rfl⟩ := hi_k9' c_4
        refine lv_aload_n hx hb dX0_add_7 rfl (lv_at hl 0 rfl) ?_
        refine va_get (D := D) (ci := 1) (v := .ref h1) (C := RX0) (T := TX0) (N := 5) hx hb hts iw_X0_add_X0 hown hK hP 0 rfl rfl 0 (by decide) (hts _ lk_X0_add_f9) (fun _ h9 => h9) rfl dX0_add_8 ?_
        refine lv_iload_n hx hb dX0_add_11 rfl (lv_at hl 2 rfl) ?_
        refine lv_aload_n hx hb dX0_add_12 rfl (lv_at hl 0 rfl) ?_
        refine va_get (D := D) (ci := 1) (v := .ref h1) (C := RX0) (T := TX0) (N := 5) hx hb hts iw_X0_add_X0 hown hK hP 0 rfl rfl 0 (by decide) (hts _ lk_X0_add_f9) (fun _ h9 => h9) rfl dX0_add_13 ?_
        refine lv_iload_n hx hb dX0_add_16 rfl (lv_at hl 2 rfl) ?_
        refine lv_iconst (v := 1) hx hb dX0_add_17 (by decide) ?_
        refine lv_isub hx hb dX0_add_18 ?_
        refine lv_topi (fun x_18 ex_18 => ?_)
        obtain rfl : x_18 = nI z := by rw [ex_18]; exact nI_pred z
        refine va_iald hx hb hK hP 1 1 rfl rfl (vp_in_nI (by omega) (by decide)) dX0_add_19 ?_
        refine va_iast hx hb hK hP hD hS 1 1 rfl rfl (vp_in_nI (by omega) (by decide)) dX0_add_20 (fun H locs hP hD hS => ?_)
        have hP : va_P D vwCl [(h0, .inr (1, [.ref h1, .int (nI w), .int gr, .int bt, .int jo])), (h1, .inl (cy 1, 10, .inl (upd f1 (nI (z + 1)).toNatClampNeg (f1 (nI z).toNatClampNeg))))] H := hP
        have hD : va_D A [(h0, .inr (1, [.ref h1, .int (nI w), .int gr, .int bt, .int jo])), (h1, .inl (cy 1, 10, .inl (upd f1 (nI (z + 1)).toNatClampNeg (f1 (nI z).toNatClampNeg))))] := hD
        have eA_20 : upd f1 (nI (z + 1)).toNatClampNeg (f1 (nI z).toNatClampNeg) = upd f1 (z + 1) (f1 z) := by rw [nI_clamp (by omega), nI_clamp (by omega)]
        rw [eA_20] at hP hD
        refine lv_iinc (v := nI z) (lv' := [(2, .int (nI z)), (0, .ref h0), (1, .int x)]) hx hb dX0_add_21 hl (k := 2) rfl (oc_m1 z) (by decide) rfl (fun ls hl => ?_)
        refine lv_goto (tgt := 3) hx hb dX0_add_24 (by decide) ?_
        exact ih z (upd f1 (z + 1) (f1 z)) _ _ (by omega) (by omega) (hi_sh (by omega) hf1) hP hD hS _ (lv_sub hl [1, 2, 0] rfl)
  exact cut_3 _ 9 f _ _ (Nat.lt_succ_self _) (Nat.le_refl _) (fun j hj => by rw [if_neg (by omega)]) hP hD hS _ (lv_sub hl [1, 2, 0] rfl)

theorem iw_X0_everFound_X0 : ∀ w ∈ wsX00, w ∈ wsX0_everFound := by decide +kernel
theorem lk_X0_everFound_f35 : (.fieldLink RX0 35 "DataGuards$History" "everFoundBits" "I" : Cond) ∈ wsX0_everFound := by decide +kernel
set_option maxHeartbeats 4000000 in
set_option maxRecDepth 100000 in
theorem c_X0_everFound (l : Launch) (D : va_G) (cy : Nat → ClassId) (sz : Nat) (h0 : Nat) (h1 : Nat) (f : Nat → Int32) (w : Nat) (gr : Int32) (bt : Int32) (jo : Int32) (i : Int32)  : Met l yX0_everFound wsX0_everFound ({ frames := 0, cells := 0, slots := 0, locals := 0 } : Room) (pre1 D cy [.ref h0, .int i] [(h0, .inr (1, [.ref h1, .int (nI w), .int gr, .int bt, .int jo])), (h1, .inl (cy 1, 10, .inl f))] sz) (va_Qi (fun (r : Int32) (u : Unit) => r = hi_e bt i) (fun u t => va_P D vwCl [(h0, .inr (1, [.ref h1, .int (nI w), .int gr, .int bt, .int jo])), (h1, .inl (cy 1, 10, .inl f))] t.heap ∧ va_D (va_A [(h0, .inr (1, [.ref h1, .int (nI w), .int gr, .int bt, .int jo])), (h1, .inl (cy 1, 10, .inl f))] sz) [(h0, .inr (1, [.ref h1, .int (nI w), .int gr, .int bt, .int jo])), (h1, .inl (cy 1, 10, .inl f))]) (va_A [(h0, .inr (1, [.ref h1, .int (nI w), .int gr, .int bt, .int jo])), (h1, .inl (cy 1, 10, .inl f))] sz)) 0 0 (va_A [(h0, .inr (1, [.ref h1, .int (nI w), .int gr, .int bt, .int jo])), (h1, .inl (cy 1, 10, .inl f))] sz) := by
  refine Met.ofW (cc := cX0_everFound) (maxL := 2) (ret := (some .boolean)) (by decide) rfl ?_
  intro p e s m args below meth c s₁ B hml hv
  obtain ⟨rfl, hsz, hP, hkk, hD0⟩ := hv
  have hx := B.exec
  have hb := B.bytes
  have hr := B.returns
  have hts := atoms_spec (ws := wsX0_everFound) B.pre
  have hown : s.vm.findClass RX0 = some m.cls := findClass_of_methodNamed B.named
  have hlocks := B.notSynchronized
  have hin : meth.name = _ := (name_of_methodNamed B.named B.method).1
  have hK := hkk.1
  subst hsz
  have hD := hD0.self (sz := s.heap.size)
  generalize hAe : va_A [(h0, .inr (1, [.ref h1, .int (nI w), .int gr, .int bt, .int jo])), (h1, .inl (cy 1, 10, .inl f))] s.heap.size = A at hD ⊢
  have hA : ∀ q : Nat, s.heap.size ≤ q → A q := fun q h => by rw [← hAe]; exact Or.inr h
  have hS : va_S A s.heap s.heap [] := va_S.rf
  have hP : va_P D vwCl [(h0, .inr (1, [.ref h1, .int (nI w), .int gr, .int bt, .int jo])), (h1, .inl (cy 1, 10, .inl f))] s.heap := hP
  have hl := lv_entry ([.ref h0, .int i]) (n := 2) (Nat.le_of_ble_eq_true rfl)
  rw [lg_entry_eq]
  generalize (lg_sl ([.ref h0, .int i]) ++ List.replicate (2 - (lg_sl ([.ref h0, .int i])).length) Slot.unset).toArray = ls at hl ⊢
  have hl : lv_has ls 2 [(0, .ref h0), (1, .int i)] := hl
  refine lv_iload_n hx hb dX0_everFound_0 rfl (lv_at hl 1 rfl) ?_
  refine lv_if_lt (tgt := 25) hx hb dX0_everFound_1 (by decide) (fun c_1 => ?_) (fun c_1 => ?_)
  · refine lv_iconst (v := 0) hx hb dX0_everFound_25 (by decide) ?_
    have hP9 := hP.sub (ws' := [(h0, .inr (1, [.ref h1, .int (nI w), .int gr, .int bt, .int jo])), (h1, .inl (cy 1, 10, .inl f))]) [0, 1] rfl
    have hD9 := hD.sub (ws' := [(h0, .inr (1, [.ref h1, .int (nI w), .int gr, .int bt, .int jo])), (h1, .inl (cy 1, 10, .inl f))]) [0, 1] (by decide) rfl
    exact W.zret (v := 0) hx hb hr rfl (fun t ht hW => ⟨⟨0, (), rfl, by unfold hi_e; rw [if_neg (fun q => q.1 c_1)], by rw [ht]; exact hP9, hD9⟩, hS.F ht⟩) hS.2.2 dX0_everFound_26
  · refine lv_iload_n hx hb dX0_everFound_4 rfl (lv_at hl 1 rfl) ?_
    refine lv_iconst (v := 5) hx hb dX0_everFound_5 (by decide) ?_
    refine lv_icmp_gt (tgt := 25) hx hb dX0_everFound_6 (by decide) (fun c_6 => ?_) (fun c_6 => ?_)
    · refine lv_iconst (v := 0) hx hb dX0_everFound_25 (by decide) ?_
      have hP9 := hP.sub (ws' := [(h0, .inr (1, [.ref h1, .int (nI w), .int gr, .int bt, .int jo])), (h1, .inl (cy 1, 10, .inl f))]) [0, 1] rfl
      have hD9 := hD.sub (ws' := [(h0, .inr (1, [.ref h1, .int (nI w), .int gr, .int bt, .int jo])), (h1, .inl (cy 1, 10, .inl f))]) [0, 1] (by decide) rfl
      exact W.zret (v := 0) hx hb hr rfl (fun t ht hW => ⟨⟨0, (), rfl, by unfold hi_e; rw [if_neg (fun q => q.2.1 c_6)], by rw [ht]; exact hP9, hD9⟩, hS.F ht⟩) hS.2.2 dX0_everFound_26
    · refine lv_aload_n hx hb dX0_everFound_9 rfl (lv_at hl 0 rfl) ?_
      refine va_get (D := D) (ci := 1) (v := .int bt) (C := RX0) (T := TX0) (N := 5) hx hb hts iw_X0_everFound_X0 hown hK hP 0 rfl rfl 3 (by decide) (hts _ lk_X0_everFound_f35) (fun _ h9 => h9) rfl dX0_everFound_10 ?_
      refine lv_iload_n hx hb dX0_everFound_13 rfl (lv_at hl 1 rfl) ?_
      refine lv_ishr hx hb dX0_everFound_14 ?_
      refine lv_iconst (v := 1) hx hb dX0_everFound_15 (by decide) ?_
      refine lv_iand hx hb dX0_everFound_16 ?_
      refine lv_iconst (v := 1) hx hb dX0_everFound_17 (by decide) ?_
      refine lv_icmp_ne (tgt := 25) hx hb dX0_everFound_18 (by decide) (fun c_18 => ?_) (fun c_18 => ?_)
      · refine lv_iconst (v := 0) hx hb dX0_everFound_25 (by decide) ?_
        have hP9 := hP.sub (ws' := [(h0, .inr (1, [.ref h1, .int (nI w), .int gr, .int bt, .int jo])), (h1, .inl (cy 1, 10, .inl f))]) [0, 1] rfl
        have hD9 := hD.sub (ws' := [(h0, .inr (1, [.ref h1, .int (nI w), .int gr, .int bt, .int jo])), (h1, .inl (cy 1, 10, .inl f))]) [0, 1] (by decide) rfl
        exact W.zret (v := 0) hx hb hr rfl (fun t ht hW => ⟨⟨0, (), rfl, by unfold hi_e; rw [if_neg (fun q => c_18 q.2.2)], by rw [ht]; exact hP9, hD9⟩, hS.F ht⟩) hS.2.2 dX0_everFound_26
      · refine lv_iconst (v := 1) hx hb dX0_everFound_21 (by decide) ?_
        refine lv_goto (tgt := 26) hx hb dX0_everFound_22 (by decide) ?_
        have hP9 := hP.sub (ws' := [(h0, .inr (1, [.ref h1, .int (nI w), .int gr, .int bt, .int jo])), (h1, .inl (cy 1, 10, .inl f))]) [0, 1] rfl
        have hD9 := hD.sub (ws' := [(h0, .inr (1, [.ref h1, .int (nI w), .int gr, .int bt, .int jo])), (h1, .inl (cy 1, 10, .inl f))]) [0, 1] (by decide) rfl
        exact W.zret (v := 1) hx hb hr rfl (fun t ht hW => ⟨⟨1, (), rfl, by unfold hi_e; rw [if_pos ⟨c_1, c_6, c_18⟩], by rw [ht]; exact hP9, hD9⟩, hS.F ht⟩) hS.2.2 dX0_everFound_26

theorem lk_X0_init_m3 : (.methodLink RX0 3 objectInit : Cond) ∈ wsX0_init := by decide +kernel
theorem lk_X0_init_oi : (.instanceMethod objectInit : Cond) ∈ wsX0_init := by decide +kernel
theorem lk_X0_init_oc : (.code objectInit ⟨#[0xb1]⟩ 1 none : Cond) ∈ wsX0_init := by decide +kernel
theorem lk_X0_init_aint : (.arrayClass .int : Cond) ∈ wsX0_init := by decide +kernel
theorem iw_X0_init_X0 : ∀ w ∈ wsX00, w ∈ wsX0_init := by decide +kernel
theorem lk_X0_init_f9 : (.fieldLink RX0 9 "DataGuards$History" "findings" "[I" : Cond) ∈ wsX0_init := by decide +kernel
theorem lk_X0_init_f15 : (.fieldLink RX0 15 "DataGuards$History" "joined" "I" : Cond) ∈ wsX0_init := by decide +kernel
set_option maxHeartbeats 4000000 in
set_option maxRecDepth 100000 in
theorem c_X0_init (l : Launch) (D : va_G) (cy : Nat → ClassId) (sz : Nat) (h0 : Nat)  : Met l yX0_init wsX0_init ({ frames := 1, cells := 1, slots := 10, locals := 20 } : Room) (pre1 D cy [.ref h0] [(h0, .inr (1, [.null, .int 0, .int 0, .int 0, .int 0]))] sz) (va_Qv (fun (u : (Nat)) => True) (fun u t => va_P D vwCl [(h0, .inr (1, [.ref u, .int 0, .int 0, .int 0, .int 0])), (u, .inl (cy 1, 10, .inl (fun _ => 0)))] t.heap ∧ va_D (va_A [(h0, .inr (1, [.null, .int 0, .int 0, .int 0, .int 0]))] sz) [(h0, .inr (1, [.ref u, .int 0, .int 0, .int 0, .int 0])), (u, .inl (cy 1, 10, .inl (fun _ => 0)))]) (va_A [(h0, .inr (1, [.null, .int 0, .int 0, .int 0, .int 0]))] sz)) 1 10 (va_A [(h0, .inr (1, [.null, .int 0, .int 0, .int 0, .int 0]))] sz) := by
  refine Met.ofW (cc := cX0_init) (maxL := 1) (ret := none) (by decide) rfl ?_
  intro p e s m args below meth c s₁ B hml hv
  obtain ⟨rfl, hsz, hP, hkk, hD0⟩ := hv
  have hx := B.exec
  have hb := B.bytes
  have hr := B.returns
  have hts := atoms_spec (ws := wsX0_init) B.pre
  have hown : s.vm.findClass RX0 = some m.cls := findClass_of_methodNamed B.named
  have hlocks := B.notSynchronized
  have hin : meth.name = _ := (name_of_methodNamed B.named B.method).1
  have hK := hkk.1
  subst hsz
  have hD := hD0.self (sz := s.heap.size)
  generalize hAe : va_A [(h0, .inr (1, [.null, .int 0, .int 0, .int 0, .int 0]))] s.heap.size = A at hD ⊢
  have hA : ∀ q : Nat, s.heap.size ≤ q → A q := fun q h => by rw [← hAe]; exact Or.inr h
  have hS : va_S A s.heap s.heap [] := va_S.rf
  have hP : va_P D vwCl [(h0, .inr (1, [.null, .int 0, .int 0, .int 0, .int 0]))] s.heap := hP
  have hl := lv_entry ([.ref h0]) (n := 1) (Nat.le_of_ble_eq_true rfl)
  rw [lg_entry_eq]
  generalize (lg_sl ([.ref h0]) ++ List.replicate (1 - (lg_sl ([.ref h0])).length) Slot.unset).toArray = ls at hl ⊢
  have hl : lv_has ls 1 [(0, .ref h0)] := hl
  refine lv_aload_n hx hb dX0_init_0 rfl (lv_at hl 0 rfl) ?_
  refine W.objInit hx hb hown (hts _ lk_X0_init_m3) (hts _ lk_X0_init_oi) (hts _ lk_X0_init_oc) rfl (by rw [hml]; exact hl.1) rfl dX0_init_1 (Nat.le_of_ble_eq_true rfl) (Nat.le_of_ble_eq_true rfl) ?_
  refine W.eq (g2 := F0 m 4 ls []) rfl ?_
  refine lv_aload_n hx hb dX0_init_4 rfl (lv_at hl 0 rfl) ?_
  refine lv_bipush (v := 10) hx hb dX0_init_5 (by decide) ?_
  refine va_newa (atype := .int) (a0 := (10, .inl (fun _ => 0))) (N' := 10) (ty := .int) hx hb (hts _ lk_X0_init_aint) rfl hK hP hD hS hA (fun _ => rfl) (by decide) (by decide) (by decide) (Nat.le_of_ble_eq_true rfl) (Nat.le_of_ble_eq_true rfl) dX0_init_7 (fun q_7 cA_7 H hK2 hP hD hS => ?_)
  obtain rfl : cA_7 = cy 1 := kk_same hK2 1 4 rfl rfl (fun _ h => by cases h)
  have hP : va_P D vwCl [(h0, .inr (1, [.null, .int 0, .int 0, .int 0, .int 0])), (q_7, .inl (cy 1, 10, .inl (fun _ => 0)))] H := hP
  have hD : va_D A [(h0, .inr (1, [.null, .int 0, .int 0, .int 0, .int 0])), (q_7, .inl (cy 1, 10, .inl (fun _ => 0)))] := hD
  refine W.widen (k := 1) (n := 10) (by decide) (by decide) ?_
  refine va_putF (D := D) (ci := 1) (v := .ref q_7) (ty := (.array .int)) (C := RX0) (T := TX0) (N := 5) hx hb hts iw_X0_init_X0 tyX0 tyX0_ok nmX0 hown hK hP hD hS 0 rfl rfl 0 (by decide) (hts _ lk_X0_init_f9) (fun _ h9 => h9) rfl hin rfl (by decide +kernel) rfl rfl (Nat.le_of_ble_eq_true rfl) dX0_init_9 (fun H locs hP hD hS => ?_)
  have hP : va_P D vwCl [(h0, .inr (1, [.ref q_7, .int 0, .int 0, .int 0, .int 0])), (q_7, .inl (cy 1, 10, .inl (fun _ => 0)))] H := hP
  have hD : va_D A [(h0, .inr (1, [.ref q_7, .int 0, .int 0, .int 0, .int 0])), (q_7, .inl (cy 1, 10, .inl (fun _ => 0)))] := hD
  refine lv_aload_n hx hb dX0_init_12 rfl (lv_at hl 0 rfl) ?_
  refine lv_iconst (v := 0) hx hb dX0_init_13 (by decide) ?_
  refine va_put (D := D) (ci := 1) (v := .int 0) (ty := .int) (C := RX0) (T := TX0) (N := 5) hx hb hts iw_X0_init_X0 tyX0 tyX0_ok nmX0 hown hK hP hD hS 0 rfl rfl 4 (by decide) (hts _ lk_X0_init_f15) (fun _ h9 => h9) rfl (by decide +kernel) rfl rfl (Nat.le_of_ble_eq_true rfl) dX0_init_14 (fun H locs hP hD hS => ?_)
  have hP : va_P D vwCl [(h0, .inr (1, [.ref q_7, .int 0, .int 0, .int 0, .int 0])), (q_7, .inl (cy 1, 10, .inl (fun _ => 0)))] H := hP
  have hD : va_D A [(h0, .inr (1, [.ref q_7, .int 0, .int 0, .int 0, .int 0])), (q_7, .inl (cy 1, 10, .inl (fun _ => 0)))] := hD
  have hP9 := hP.sub (ws' := [(h0, .inr (1, [.ref q_7, .int 0, .int 0, .int 0, .int 0])), (q_7, .inl (cy 1, 10, .inl (fun _ => 0)))]) [0, 1] rfl
  have hD9 := hD.sub (ws' := [(h0, .inr (1, [.ref q_7, .int 0, .int 0, .int 0, .int 0])), (q_7, .inl (cy 1, 10, .inl (fun _ => 0)))]) [0, 1] (by decide) rfl
  exact W.vret hx hb hr (fun t ht hW => ⟨⟨q_7, rfl, trivial, by rw [ht]; exact hP9, hD9⟩, hS.F ht⟩) hS.2.2 dX0_init_17
