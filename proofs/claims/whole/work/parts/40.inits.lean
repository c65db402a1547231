theorem lk_X6_init_m1 : (.methodLink RX6 1 objectInit : Cond) ∈ wsX6_init := by decide +kernel
theorem lk_X6_init_oi : (.instanceMethod objectInit : Cond) ∈ wsX6_init := by decide +kernel
theorem lk_X6_init_oc : (.code objectInit ⟨#[0xb1]⟩ 1 none : Cond) ∈ wsX6_init := by decide +kernel
theorem lk_X6_init_aint : (.arrayClass .int : Cond) ∈ wsX6_init := by decide +kernel
theorem iw_X6_init_X6 : ∀ w ∈ wsX60, w ∈ wsX6_init := by decide +kernel
theorem lk_X6_init_f7 : (.fieldLink RX6 7 "DataGuardsModel" "data" "[I" : Cond) ∈ wsX6_init := by decide +kernel
theorem lk_X6_init_f13 : (.fieldLink RX6 13 "DataGuardsModel" "row" "[I" : Cond) ∈ wsX6_init := by decide +kernel
theorem lk_X6_init_f16 : (.fieldLink RX6 16 "DataGuardsModel" "flipAt" "I" : Cond) ∈ wsX6_init := by decide +kernel
theorem lk_X6_init_f20 : (.fieldLink RX6 20 "DataGuardsModel" "taken" "[I" : Cond) ∈ wsX6_init := by decide +kernel
theorem lk_X6_init_f23 : (.fieldLink RX6 23 "DataGuardsModel" "before" "I" : Cond) ∈ wsX6_init := by decide +kernel
theorem lk_X6_init_f26 : (.fieldLink RX6 26 "DataGuardsModel" "last" "[I" : Cond) ∈ wsX6_init := by decide +kernel
theorem lk_X6_init_aboolean : (.arrayClass .boolean : Cond) ∈ wsX6_init := by decide +kernel
theorem lk_X6_init_f29 : (.fieldLink RX6 29 "DataGuardsModel" "told" "[Z" : Cond) ∈ wsX6_init := by decide +kernel
theorem lk_X6_init_f33 : (.fieldLink RX6 33 "DataGuardsModel" "profile" "I" : Cond) ∈ wsX6_init := by decide +kernel
theorem lk_X6_init_f36 : (.fieldLink RX6 36 "DataGuardsModel" "bits" "I" : Cond) ∈ wsX6_init := by decide +kernel
theorem lk_X6_init_f40 : (.fieldLink RX6 40 "DataGuardsModel" "counters" "I" : Cond) ∈ wsX6_init := by decide +kernel
theorem lk_X6_init_f43 : (.fieldLink RX6 43 "DataGuardsModel" "head" "I" : Cond) ∈ wsX6_init := by decide +kernel
theorem lk_X6_init_k39 : (.constant RX6 39 (65536) : Cond) ∈ wsX6_init := by decide +kernel
set_option maxHeartbeats 4000000 in
set_option maxRecDepth 100000 in
/-- the reference: its constructor -/
theorem c_X6_init (l : Launch) (D : va_G) (cy : Nat → ClassId) (sz : Nat) (h0 : Nat) (i : Int32)  : Met l yX6_init wsX6_init ({ frames := 1, cells := 5, slots := 230, locals := 20 } : Room) (pre1 D cy [.ref h0, .int i] [(h0, .inr (7, [.int 0, .int 0, .int 0, .int 0, .int 0, .int 0, .null, .int 0, .null, .int 0, .int 0, .int 0, .int 0, .int 0, .null, .int 0, .int 0, .null, .int 0, .int 0, .null, .long 0, .long 0]))] sz) (va_Qv (fun (u : (Nat) × (Nat) × (Nat) × (Nat) × (Nat) × (Int32) × (Int32) × (Int32) × (Int32)) => (mnb i u.2.2.2.2.2.1 u.2.2.2.2.2.2.1 u.2.2.2.2.2.2.2.1 u.2.2.2.2.2.2.2.2)) (fun u t => va_P D vwCl [(h0, .inr (7, [.int 0, .int u.2.2.2.2.2.1, .int u.2.2.2.2.2.2.1, .int u.2.2.2.2.2.2.2.1, .int u.2.2.2.2.2.2.2.2, .int 0, .ref u.1, .int 0, .ref u.2.1, .int 0, .int (-1), .int 0, .int 0, .int 0, .ref u.2.2.1, .int (-1), .int 0, .ref u.2.2.2.1, .int 0, .int 0, .ref u.2.2.2.2.1, .long 0, .long 0])), (u.1, .inl (cy 1, 64, .inl (fun _ => 0))), (u.2.1, .inl (cy 1, 80, .inl (fun _ => 0))), (u.2.2.1, .inl (cy 1, 70, .inl (fun _ => 0))), (u.2.2.2.1, .inl (cy 1, 10, .inl (fun _ => 0))), (u.2.2.2.2.1, .inl (cy 2, 6, .inl (fun _ => 0)))] t.heap ∧ va_D (va_A [(h0, .inr (7, [.int 0, .int 0, .int 0, .int 0, .int 0, .int 0, .null, .int 0, .null, .int 0, .int 0, .int 0, .int 0, .int 0, .null, .int 0, .int 0, .null, .int 0, .int 0, .null, .long 0, .long 0]))] sz) [(h0, .inr (7, [.int 0, .int u.2.2.2.2.2.1, .int u.2.2.2.2.2.2.1, .int u.2.2.2.2.2.2.2.1, .int u.2.2.2.2.2.2.2.2, .int 0, .ref u.1, .int 0, .ref u.2.1, .int 0, .int (-1), .int 0, .int 0, .int 0, .ref u.2.2.1, .int (-1), .int 0, .ref u.2.2.2.1, .int 0, .int 0, .ref u.2.2.2.2.1, .long 0, .long 0])), (u.1, .inl (cy 1, 64, .inl (fun _ => 0))), (u.2.1, .inl (cy 1, 80, .inl (fun _ => 0))), (u.2.2.1, .inl (cy 1, 70, .inl (fun _ => 0))), (u.2.2.2.1, .inl (cy 1, 10, .inl (fun _ => 0))), (u.2.2.2.2.1, .inl (cy 2, 6, .inl (fun _ => 0)))]) (va_A [(h0, .inr (7, [.int 0, .int 0, .int 0, .int 0, .int 0, .int 0, .null, .int 0, .null, .int 0, .int 0, .int 0, .int 0, .int 0, .null, .int 0, .int 0, .null, .int 0, .int 0, .null, .long 0, .long 0]))] sz)) 5 230 (va_A [(h0, .inr (7, [.int 0, .int 0, .int 0, .int 0, .int 0, .int 0, .null, .int 0, .null, .int 0, .int 0, .int 0, .int 0, .int 0, .null, .int 0, .int 0, .null, .int 0, .int 0, .null, .long 0, .long 0]))] sz) := by
  refine Met.ofW (cc := cX6_init) (maxL := 2) (ret := none) (by decide) rfl ?_
  intro p e s m args below meth c s₁ B hml hv
  obtain ⟨rfl, hsz, hP, hkk, hD0⟩ := hv
  have hx := B.exec
  have hb := B.bytes
  have hr := B.returns
  have hts := atoms_spec (ws := wsX6_init) B.pre
  have hown : s.vm.findClass RX6 = some m.cls := findClass_of_methodNamed B.named
  have hlocks := B.notSynchronized
  have hin : meth.name = _ := (name_of_methodNamed B.named B.method).1
  have hK := hkk.1
  subst hsz
  have hD := hD0.self (sz := s.heap.size)
  generalize hAe : va_A [(h0, .inr (7, [.int 0, .int 0, .int 0, .int 0, .int 0, .int 0, .null, .int 0, .null, .int 0, .int 0, .int 0, .int 0, .int 0, .null, .int 0, .int 0, .null, .int 0, .int 0, .null, .long 0, .long 0]))] s.heap.size = A at hD ⊢
  have hA : ∀ q : Nat, s.heap.size ≤ q → A q := fun q h => by rw [← hAe]; exact Or.inr h
  have hS : va_S A s.heap s.heap [] := va_S.rf
  have hP : va_P D vwCl [(h0, .inr (7, [.int 0, .int 0, .int 0, .int 0, .int 0, .int 0, .null, .int 0, .null, .int 0, .int 0, .int 0, .int 0, .int 0, .null, .int 0, .int 0, .null, .int 0, .int 0, .null, .long 0, .long 0]))] s.heap := hP
  have hl := lv_entry ([.ref h0, .int i]) (n := 2) (Nat.le_of_ble_eq_true rfl)
  rw [lg_entry_eq]
  generalize (lg_sl ([.ref h0, .int i]) ++ List.replicate (2 - (lg_sl ([.ref h0, .int i])).length) Slot.unset).toArray = ls at hl ⊢
  have hl : lv_has ls 2 [(0, .ref h0), (1, .int i)] := hl
  refine lv_aload_n hx hb dX6_init_0 rfl (lv_at hl 0 rfl) ?_
  refine W.objInit hx hb hown (hts _ lk_X6_init_m1) (hts _ lk_X6_init_oi) (hts _ lk_X6_init_oc) rfl (by rw [hml]; exact hl.1) rfl dX6_init_1 (Nat.le_of_ble_eq_true rfl) (Nat.le_of_ble_eq_true rfl) ?_
  refine W.eq (g2 := F0 m 4 ls []) rfl ?_
  refine lv_aload_n hx hb dX6_init_4 rfl (lv_at hl 0 rfl) ?_
  refine lv_bipush (v := 64) hx hb dX6_init_5 (by decide) ?_
  refine va_newa (atype := .int) (a0 := (64, .inl (fun _ => 0))) (N' := 64) (ty := .int) hx hb (hts _ lk_X6_init_aint) rfl hK hP hD hS hA (fun _ => rfl) (by decide) (by decide) (by decide) (Nat.le_of_ble_eq_true rfl) (Nat.le_of_ble_eq_true rfl) dX6_init_7 (fun q_7 cA_7 H hK2 hP hD hS => ?_)
  obtain rfl : cA_7 = cy 1 := kk_same hK2 1 4 rfl rfl (fun _ h => by cases h)
  have hP : va_P D vwCl [(h0, .inr (7, [.int 0, .int 0, .int 0, .int 0, .int 0, .int 0, .null, .int 0, .null, .int 0, .int 0, .int 0, .int 0, .int 0, .null, .int 0, .int 0, .null, .int 0, .int 0, .null, .long 0, .long 0])), (q_7, .inl (cy 1, 64, .inl (fun _ => 0)))] H := hP
  have hD : va_D A [(h0, .inr (7, [.int 0, .int 0, .int 0, .int 0, .int 0, .int 0, .null, .int 0, .null, .int 0, .int 0, .int 0, .int 0, .int 0, .null, .int 0, .int 0, .null, .int 0, .int 0, .null, .long 0, .long 0])), (q_7, .inl (cy 1, 64, .inl (fun _ => 0)))] := hD
  refine W.widen (k := 1) (n := 64) (by decide) (by decide) ?_
  refine va_putF (D := D) (ci := 7) (v := .ref q_7) (ty := (.array .int)) (C := RX6) (T := TX6) (N := 23) hx hb hts iw_X6_init_X6 tyX6 tyX6_ok nmX6 hown hK hP hD hS 0 rfl rfl 6 (by decide) (hts _ lk_X6_init_f7) (fun _ h9 => h9) rfl hin rfl (by decide +kernel) rfl rfl (Nat.le_of_ble_eq_true rfl) dX6_init_9 (fun H locs hP hD hS => ?_)
  have hP : va_P D vwCl [(h0, .inr (7, [.int 0, .int 0, .int 0, .int 0, .int 0, .int 0, .ref q_7, .int 0, .null, .int 0, .int 0, .int 0, .int 0, .int 0, .null, .int 0, .int 0, .null, .int 0, .int 0, .null, .long 0, .long 0])), (q_7, .inl (cy 1, 64, .inl (fun _ => 0)))] H := hP
  have hD : va_D A [(h0, .inr (7, [.int 0, .int 0, .int 0, .int 0, .int 0, .int 0, .ref q_7, .int 0, .null, .int 0, .int 0, .int 0, .int 0, .int 0, .null, .int 0, .int 0, .null, .int 0, .int 0, .null, .long 0, .long 0])), (q_7, .inl (cy 1, 64, .inl (fun _ => 0)))] := hD
  refine lv_aload_n hx hb dX6_init_12 rfl (lv_at hl 0 rfl) ?_
  refine lv_bipush (v := 80) hx hb dX6_init_13 (by decide) ?_
  refine va_newa (atype := .int) (a0 := (80, .inl (fun _ => 0))) (N' := 80) (ty := .int) hx hb (hts _ lk_X6_init_aint) rfl hK hP hD hS hA (fun _ => rfl) (by decide) (by decide) (by decide) (Nat.le_of_ble_eq_true rfl) (Nat.le_of_ble_eq_true rfl) dX6_init_15 (fun q_15 cA_15 H hK2 hP hD hS => ?_)
  obtain rfl : cA_15 = cy 1 := kk_same hK2 1 4 rfl rfl (fun _ h => by cases h)
  have hP : va_P D vwCl [(h0, .inr (7, [.int 0, .int 0, .int 0, .int 0, .int 0, .int 0, .ref q_7, .int 0, .null, .int 0, .int 0, .int 0, .int 0, .int 0, .null, .int 0, .int 0, .null, .int 0, .int 0, .null, .long 0, .long 0])), (q_7, .inl (cy 1, 64, .inl (fun _ => 0))), (q_15, .inl (cy 1, 80, .inl (fun _ => 0)))] H := hP
  have hD : va_D A [(h0, .inr (7, [.int 0, .int 0, .int 0, .int 0, .int 0, .int 0, .ref q_7, .int 0, .null, .int 0, .int 0, .int 0, .int 0, .int 0, .null, .int 0, .int 0, .null, .int 0, .int 0, .null, .long 0, .long 0])), (q_7, .inl (cy 1, 64, .inl (fun _ => 0))), (q_15, .inl (cy 1, 80, .inl (fun _ => 0)))] := hD
  refine W.widen (k := 2) (n := 144) (by decide) (by decide) ?_
  refine va_putF (D := D) (ci := 7) (v := .ref q_15) (ty := (.array .int)) (C := RX6) (T := TX6) (N := 23) hx hb hts iw_X6_init_X6 tyX6 tyX6_ok nmX6 hown hK hP hD hS 0 rfl rfl 8 (by decide) (hts _ lk_X6_init_f13) (fun _ h9 => h9) rfl hin rfl (by decide +kernel) rfl rfl (Nat.le_of_ble_eq_true rfl) dX6_init_17 (fun H locs hP hD hS => ?_)
  have hP : va_P D vwCl [(h0, .inr (7, [.int 0, .int 0, .int 0, .int 0, .int 0, .int 0, .ref q_7, .int 0, .ref q_15, .int 0, .int 0, .int 0, .int 0, .int 0, .null, .int 0, .int 0, .null, .int 0, .int 0, .null, .long 0, .long 0])), (q_7, .inl (cy 1, 64, .inl (fun _ => 0))), (q_15, .inl (cy 1, 80, .inl (fun _ => 0)))] H := hP
  have hD : va_D A [(h0, .inr (7, [.int 0, .int 0, .int 0, .int 0, .int 0, .int 0, .ref q_7, .int 0, .ref q_15, .int 0, .int 0, .int 0, .int 0, .int 0, .null, .int 0, .int 0, .null, .int 0, .int 0, .null, .long 0, .long 0])), (q_7, .inl (cy 1, 64, .inl (fun _ => 0))), (q_15, .inl (cy 1, 80, .inl (fun _ => 0)))] := hD
  refine lv_aload_n hx hb dX6_init_20 rfl (lv_at hl 0 rfl) ?_
  refine lv_iconst (v := (-1)) hx hb dX6_init_21 (by decide) ?_
  refine va_put (D := D) (ci := 7) (v := .int (-1)) (ty := .int) (C := RX6) (T := TX6) (N := 23) hx hb hts iw_X6_init_X6 tyX6 tyX6_ok nmX6 hown hK hP hD hS 0 rfl rfl 10 (by decide) (hts _ lk_X6_init_f16) (fun _ h9 => h9) rfl (by decide +kernel) rfl rfl (Nat.le_of_ble_eq_true rfl) dX6_init_22 (fun H locs hP hD hS => ?_)
  have hP : va_P D vwCl [(h0, .inr (7, [.int 0, .int 0, .int 0, .int 0, .int 0, .int 0, .ref q_7, .int 0, .ref q_15, .int 0, .int (-1), .int 0, .int 0, .int 0, .null, .int 0, .int 0, .null, .int 0, .int 0, .null, .long 0, .long 0])), (q_7, .inl (cy 1, 64, .inl (fun _ => 0))), (q_15, .inl (cy 1, 80, .inl (fun _ => 0)))] H := hP
  have hD : va_D A [(h0, .inr (7, [.int 0, .int 0, .int 0, .int 0, .int 0, .int 0, .ref q_7, .int 0, .ref q_15, .int 0, .int (-1), .int 0, .int 0, .int 0, .null, .int 0, .int 0, .null, .int 0, .int 0, .null, .long 0, .long 0])), (q_7, .inl (cy 1, 64, .inl (fun _ => 0))), (q_15, .inl (cy 1, 80, .inl (fun _ => 0)))] := hD
  refine lv_aload_n hx hb dX6_init_25 rfl (lv_at hl 0 rfl) ?_
  refine lv_bipush (v := 70) hx hb dX6_init_26 (by decide) ?_
  refine va_newa (atype := .int) (a0 := (70, .inl (fun _ => 0))) (N' := 70) (ty := .int) hx hb (hts _ lk_X6_init_aint) rfl hK hP hD hS hA (fun _ => rfl) (by decide) (by decide) (by decide) (Nat.le_of_ble_eq_true rfl) (Nat.le_of_ble_eq_true rfl) dX6_init_28 (fun q_28 cA_28 H hK2 hP hD hS => ?_)
  obtain rfl : cA_28 = cy 1 := kk_same hK2 1 4 rfl rfl (fun _ h => by cases h)
  have hP : va_P D vwCl [(h0, .inr (7, [.int 0, .int 0, .int 0, .int 0, .int 0, .int 0, .ref q_7, .int 0, .ref q_15, .int 0, .int (-1), .int 0, .int 0, .int 0, .null, .int 0, .int 0, .null, .int 0, .int 0, .null, .long 0, .long 0])), (q_7, .inl (cy 1, 64, .inl (fun _ => 0))), (q_15, .inl (cy 1, 80, .inl (fun _ => 0))), (q_28, .inl (cy 1, 70, .inl (fun _ => 0)))] H := hP
  have hD : va_D A [(h0, .inr (7, [.int 0, .int 0, .int 0, .int 0, .int 0, .int 0, .ref q_7, .int 0, .ref q_15, .int 0, .int (-1), .int 0, .int 0, .int 0, .null, .int 0, .int 0, .null, .int 0, .int 0, .null, .long 0, .long 0])), (q_7, .inl (cy 1, 64, .inl (fun _ => 0))), (q_15, .inl (cy 1, 80, .inl (fun _ => 0))), (q_28, .inl (cy 1, 70, .inl (fun _ => 0)))] := hD
  refine W.widen (k := 3) (n := 214) (by decide) (by decide) ?_
  refine va_putF (D := D) (ci := 7) (v := .ref q_28) (ty := (.array .int)) (C := RX6) (T := TX6) (N := 23) hx hb hts iw_X6_init_X6 tyX6 tyX6_ok nmX6 hown hK hP hD hS 0 rfl rfl 14 (by decide) (hts _ lk_X6_init_f20) (fun _ h9 => h9) rfl hin rfl (by decide +kernel) rfl rfl (Nat.le_of_ble_eq_true rfl) dX6_init_30 (fun H locs hP hD hS => ?_)
  have hP : va_P D vwCl [(h0, .inr (7, [.int 0, .int 0, .int 0, .int 0, .int 0, .int 0, .ref q_7, .int 0, .ref q_15, .int 0, .int (-1), .int 0, .int 0, .int 0, .ref q_28, .int 0, .int 0, .null, .int 0, .int 0, .null, .long 0, .long 0])), (q_7, .inl (cy 1, 64, .inl (fun _ => 0))), (q_15, .inl (cy 1, 80, .inl (fun _ => 0))), (q_28, .inl (cy 1, 70, .inl (fun _ => 0)))] H := hP
  have hD : va_D A [(h0, .inr (7, [.int 0, .int 0, .int 0, .int 0, .int 0, .int 0, .ref q_7, .int 0, .ref q_15, .int 0, .int (-1), .int 0, .int 0, .int 0, .ref q_28, .int 0, .int 0, .null, .int 0, .int 0, .null, .long 0, .long 0])), (q_7, .inl (cy 1, 64, .inl (fun _ => 0))), (q_15, .inl (cy 1, 80, .inl (fun _ => 0))), (q_28, .inl (cy 1, 70, .inl (fun _ => 0)))] := hD
  refine lv_aload_n hx hb dX6_init_33 rfl (lv_at hl 0 rfl) ?_
  refine lv_iconst (v := (-1)) hx hb dX6_init_34 (by decide) ?_
  refine va_put (D := D) (ci := 7) (v := .int (-1)) (ty := .int) (C := RX6) (T := TX6) (N := 23) hx hb hts iw_X6_init_X6 tyX6 tyX6_ok nmX6 hown hK hP hD hS 0 rfl rfl 15 (by decide) (hts _ lk_X6_init_f23) (fun _ h9 => h9) rfl (by decide +kernel) rfl rfl (Nat.le_of_ble_eq_true rfl) dX6_init_35 (fun H locs hP hD hS => ?_)
  have hP : va_P D vwCl [(h0, .inr (7, [.int 0, .int 0, .int 0, .int 0, .int 0, .int 0, .ref q_7, .int 0, .ref q_15, .int 0, .int (-1), .int 0, .int 0, .int 0, .ref q_28, .int (-1), .int 0, .null, .int 0, .int 0, .null, .long 0, .long 0])), (q_7, .inl (cy 1, 64, .inl (fun _ => 0))), (q_15, .inl (cy 1, 80, .inl (fun _ => 0))), (q_28, .inl (cy 1, 70, .inl (fun _ => 0)))] H := hP
  have hD : va_D A [(h0, .inr (7, [.int 0, .int 0, .int 0, .int 0, .int 0, .int 0, .ref q_7, .int 0, .ref q_15, .int 0, .int (-1), .int 0, .int 0, .int 0, .ref q_28, .int (-1), .int 0, .null, .int 0, .int 0, .null, .long 0, .long 0])), (q_7, .inl (cy 1, 64, .inl (fun _ => 0))), (q_15, .inl (cy 1, 80, .inl (fun _ => 0))), (q_28, .inl (cy 1, 70, .inl (fun _ => 0)))] := hD
  refine lv_aload_n hx hb dX6_init_38 rfl (lv_at hl 0 rfl) ?_
  refine lv_bipush (v := 10) hx hb dX6_init_39 (by decide) ?_
  refine va_newa (atype := .int) (a0 := (10, .inl (fun _ => 0))) (N' := 10) (ty := .int) hx hb (hts _ lk_X6_init_aint) rfl hK hP hD hS hA (fun _ => rfl) (by decide) (by decide) (by decide) (Nat.le_of_ble_eq_true rfl) (Nat.le_of_ble_eq_true rfl) dX6_init_41 (fun q_41 cA_41 H hK2 hP hD hS => ?_)
  obtain rfl : cA_41 = cy 1 := kk_same hK2 1 4 rfl rfl (fun _ h => by cases h)
  have hP : va_P D vwCl [(h0, .inr (7, [.int 0, .int 0, .int 0, .int 0, .int 0, .int 0, .ref q_7, .int 0, .ref q_15, .int 0, .int (-1), .int 0, .int 0, .int 0, .ref q_28, .int (-1), .int 0, .null, .int 0, .int 0, .null, .long 0, .long 0])), (q_7, .inl (cy 1, 64, .inl (fun _ => 0))), (q_15, .inl (cy 1, 80, .inl (fun _ => 0))), (q_28, .inl (cy 1, 70, .inl (fun _ => 0))), (q_41, .inl (cy 1, 10, .inl (fun _ => 0)))] H := hP
  have hD : va_D A [(h0, .inr (7, [.int 0, .int 0, .int 0, .int 0, .int 0, .int 0, .ref q_7, .int 0, .ref q_15, .int 0, .int (-1), .int 0, .int 0, .int 0, .ref q_28, .int (-1), .int 0, .null, .int 0, .int 0, .null, .long 0, .long 0])), (q_7, .inl (cy 1, 64, .inl (fun _ => 0))), (q_15, .inl (cy 1, 80, .inl (fun _ => 0))), (q_28, .inl (cy 1, 70, .inl (fun _ => 0))), (q_41, .inl (cy 1, 10, .inl (fun _ => 0)))] := hD
  refine W.widen (k := 4) (n := 224) (by decide) (by decide) ?_
  refine va_putF (D := D) (ci := 7) (v := .ref q_41) (ty := (.array .int)) (C := RX6) (T := TX6) (N := 23) hx hb hts iw_X6_init_X6 tyX6 tyX6_ok nmX6 hown hK hP hD hS 0 rfl rfl 17 (by decide) (hts _ lk_X6_init_f26) (fun _ h9 => h9) rfl hin rfl (by decide +kernel) rfl rfl (Nat.le_of_ble_eq_true rfl) dX6_init_43 (fun H locs hP hD hS => ?_)
  have hP : va_P D vwCl [(h0, .inr (7, [.int 0, .int 0, .int 0, .int 0, .int 0, .int 0, .ref q_7, .int 0, .ref q_15, .int 0, .int (-1), .int 0, .int 0, .int 0, .ref q_28, .int (-1), .int 0, .ref q_41, .int 0, .int 0, .null, .long 0, .long 0])), (q_7, .inl (cy 1, 64, .inl (fun _ => 0))), (q_15, .inl (cy 1, 80, .inl (fun _ => 0))), (q_28, .inl (cy 1, 70, .inl (fun _ => 0))), (q_41, .inl (cy 1, 10, .inl (fun _ => 0)))] H := hP
  have hD : va_D A [(h0, .inr (7, [.int 0, .int 0, .int 0, .int 0, .int 0, .int 0, .ref q_7, .int 0, .ref q_15, .int 0, .int (-1), .int 0, .int 0, .int 0, .ref q_28, .int (-1), .int 0, .ref q_41, .int 0, .int 0, .null, .long 0, .long 0])), (q_7, .inl (cy 1, 64, .inl (fun _ => 0))), (q_15, .inl (cy 1, 80, .inl (fun _ => 0))), (q_28, .inl (cy 1, 70, .inl (fun _ => 0))), (q_41, .inl (cy 1, 10, .inl (fun _ => 0)))] := hD
  refine lv_aload_n hx hb dX6_init_46 rfl (lv_at hl 0 rfl) ?_
  refine lv_bipush (v := 6) hx hb dX6_init_47 (by decide) ?_
  refine va_newa (atype := .boolean) (a0 := (6, .inl (fun _ => 0))) (N' := 6) (ty := .boolean) hx hb (hts _ lk_X6_init_aboolean) rfl hK hP hD hS hA (fun _ => rfl) (by decide) (by decide) (by decide) (Nat.le_of_ble_eq_true rfl) (Nat.le_of_ble_eq_true rfl) dX6_init_49 (fun q_49 cA_49 H hK2 hP hD hS => ?_)
  obtain rfl : cA_49 = cy 2 := kk_same hK2 2 4 rfl rfl (fun _ h => by cases h)
  have hP : va_P D vwCl [(h0, .inr (7, [.int 0, .int 0, .int 0, .int 0, .int 0, .int 0, .ref q_7, .int 0, .ref q_15, .int 0, .int (-1), .int 0, .int 0, .int 0, .ref q_28, .int (-1), .int 0, .ref q_41, .int 0, .int 0, .null, .long 0, .long 0])), (q_7, .inl (cy 1, 64, .inl (fun _ => 0))), (q_15, .inl (cy 1, 80, .inl (fun _ => 0))), (q_28, .inl (cy 1, 70, .inl (fun _ => 0))), (q_41, .inl (cy 1, 10, .inl (fun _ => 0))), (q_49, .inl (cy 2, 6, .inl (fun _ => 0)))] H := hP
  have hD : va_D A [(h0, .inr (7, [.int 0, .int 0, .int 0, .int 0, .int 0, .int 0, .ref q_7, .int 0, .ref q_15, .int 0, .int (-1), .int 0, .int 0, .int 0, .ref q_28, .int (-1), .int 0, .ref q_41, .int 0, .int 0, .null, .long 0, .long 0])), (q_7, .inl (cy 1, 64, .inl (fun _ => 0))), (q_15, .inl (cy 1, 80, .inl (fun _ => 0))), (q_28, .inl (cy 1, 70, .inl (fun _ => 0))), (q_41, .inl (cy 1, 10, .inl (fun _ => 0))), (q_49, .inl (cy 2, 6, .inl (fun _ => 0)))] := hD
  refine W.widen (k := 5) (n := 230) (by decide) (by decide) ?_
  refine va_putF (D := D) (ci := 7) (v := .ref q_49) (ty := (.array .boolean)) (C := RX6) (T := TX6) (N := 23) hx hb hts iw_X6_init_X6 tyX6 tyX6_ok nmX6 hown hK hP hD hS 0 rfl rfl 20 (by decide) (hts _ lk_X6_init_f29) (fun _ h9 => h9) rfl hin rfl (by decide +kernel) rfl rfl (Nat.le_of_ble_eq_true rfl) dX6_init_51 (fun H locs hP hD hS => ?_)
  have hP : va_P D vwCl [(h0, .inr (7, [.int 0, .int 0, .int 0, .int 0, .int 0, .int 0, .ref q_7, .int 0, .ref q_15, .int 0, .int (-1), .int 0, .int 0, .int 0, .ref q_28, .int (-1), .int 0, .ref q_41, .int 0, .int 0, .ref q_49, .long 0, .long 0])), (q_7, .inl (cy 1, 64, .inl (fun _ => 0))), (q_15, .inl (cy 1, 80, .inl (fun _ => 0))), (q_28, .inl (cy 1, 70, .inl (fun _ => 0))), (q_41, .inl (cy 1, 10, .inl (fun _ => 0))), (q_49, .inl (cy 2, 6, .inl (fun _ => 0)))] H := hP
  have hD : va_D A [(h0, .inr (7, [.int 0, .int 0, .int 0, .int 0, .int 0, .int 0, .ref q_7, .int 0, .ref q_15, .int 0, .int (-1), .int 0, .int 0, .int 0, .ref q_28, .int (-1), .int 0, .ref q_41, .int 0, .int 0, .ref q_49, .long 0, .long 0])), (q_7, .inl (cy 1, 64, .inl (fun _ => 0))), (q_15, .inl (cy 1, 80, .inl (fun _ => 0))), (q_28, .inl (cy 1, 70, .inl (fun _ => 0))), (q_41, .inl (cy 1, 10, .inl (fun _ => 0))), (q_49, .inl (cy 2, 6, .inl (fun _ => 0)))] := hD
  refine lv_aload_n hx hb dX6_init_54 rfl (lv_at hl 0 rfl) ?_
  refine lv_iload_n hx hb dX6_init_55 rfl (lv_at hl 1 rfl) ?_
  refine lv_iconst (v := 2) hx hb dX6_init_56 (by decide) ?_
  refine lv_icmp_eq (tgt := 65) hx hb dX6_init_57 (by decide) (fun c_57 => ?_) (fun c_57 => ?_)
  · refine lv_iload_n hx hb dX6_init_65 rfl (lv_at hl 1 rfl) ?_
    refine lv_topi (fun x_65 ex_65 => ?_)
    obtain rfl : x_65 = 2 := by rw [ex_65]; exact c_57
    refine lv_goto (tgt := 70) hx hb dX6_init_66 (by decide) ?_
    refine va_putF (D := D) (ci := 7) (v := .int 2) (ty := .int) (C := RX6) (T := TX6) (N := 23) hx hb hts iw_X6_init_X6 tyX6 tyX6_ok nmX6 hown hK hP hD hS 0 rfl rfl 1 (by decide) (hts _ lk_X6_init_f33) (fun _ h9 => h9) rfl hin rfl (by decide +kernel) rfl rfl (Nat.le_of_ble_eq_true rfl) dX6_init_70 (fun H locs hP hD hS => ?_)
    have hP : va_P D vwCl [(h0, .inr (7, [.int 0, .int 2, .int 0, .int 0, .int 0, .int 0, .ref q_7, .int 0, .ref q_15, .int 0, .int (-1), .int 0, .int 0, .int 0, .ref q_28, .int (-1), .int 0, .ref q_41, .int 0, .int 0, .ref q_49, .long 0, .long 0])), (q_7, .inl (cy 1, 64, .inl (fun _ => 0))), (q_15, .inl (cy 1, 80, .inl (fun _ => 0))), (q_28, .inl (cy 1, 70, .inl (fun _ => 0))), (q_41, .inl (cy 1, 10, .inl (fun _ => 0))), (q_49, .inl (cy 2, 6, .inl (fun _ => 0)))] H := hP
    have hD : va_D A [(h0, .inr (7, [.int 0, .int 2, .int 0, .int 0, .int 0, .int 0, .ref q_7, .int 0, .ref q_15, .int 0, .int (-1), .int 0, .int 0, .int 0, .ref q_28, .int (-1), .int 0, .ref q_41, .int 0, .int 0, .ref q_49, .long 0, .long 0])), (q_7, .inl (cy 1, 64, .inl (fun _ => 0))), (q_15, .inl (cy 1, 80, .inl (fun _ => 0))), (q_28, .inl (cy 1, 70, .inl (fun _ => 0))), (q_41, .inl (cy 1, 10, .inl (fun _ => 0))), (q_49, .inl (cy 2, 6, .inl (fun _ => 0)))] := hD
    refine lv_aload_n hx hb dX6_init_73 rfl (lv_at hl 0 rfl) ?_
    refine lv_aload_n hx hb dX6_init_74 rfl (lv_at hl 0 rfl) ?_
    refine va_get (D := D) (ci := 7) (v := .int 2) (C := RX6) (T := TX6) (N := 23) hx hb hts iw_X6_init_X6 hown hK hP 0 rfl rfl 1 (by decide) (hts _ lk_X6_init_f33) (fun _ h9 => h9) rfl dX6_init_75 ?_
    refine lv_iconst (v := 3) hx hb dX6_init_78 (by decide) ?_
    refine lv_icmp_ne (tgt := 87) hx hb dX6_init_79 (by decide) (fun c_79 => ?_) (fun c_79 => ?_)
    · refine lv_bipush (v := 8) hx hb dX6_init_87 (by decide) ?_
      refine lv_aload_n hx hb dX6_init_89 rfl (lv_at hl 0 rfl) ?_
      refine va_get (D := D) (ci := 7) (v := .int 2) (C := RX6) (T := TX6) (N := 23) hx hb hts iw_X6_init_X6 hown hK hP 0 rfl rfl 1 (by decide) (hts _ lk_X6_init_f33) (fun _ h9 => h9) rfl dX6_init_90 ?_
      refine lv_imul hx hb dX6_init_93 ?_
      refine va_putF (D := D) (ci := 7) (v := .int (8 * 2)) (ty := .int) (C := RX6) (T := TX6) (N := 23) hx hb hts iw_X6_init_X6 tyX6 tyX6_ok nmX6 hown hK hP hD hS 0 rfl rfl 2 (by decide) (hts _ lk_X6_init_f36) (fun _ h9 => h9) rfl hin rfl (by decide +kernel) rfl rfl (Nat.le_of_ble_eq_true rfl) dX6_init_94 (fun H locs hP hD hS => ?_)
      have hP : va_P D vwCl [(h0, .inr (7, [.int 0, .int 2, .int (8 * 2), .int 0, .int 0, .int 0, .ref q_7, .int 0, .ref q_15, .int 0, .int (-1), .int 0, .int 0, .int 0, .ref q_28, .int (-1), .int 0, .ref q_41, .int 0, .int 0, .ref q_49, .long 0, .long 0])), (q_7, .inl (cy 1, 64, .inl (fun _ => 0))), (q_15, .inl (cy 1, 80, .inl (fun _ => 0))), (q_28, .inl (cy 1, 70, .inl (fun _ => 0))), (q_41, .inl (cy 1, 10, .inl (fun _ => 0))), (q_49, .inl (cy 2, 6, .inl (fun _ => 0)))] H := hP
      have hD : va_D A [(h0, .inr (7, [.int 0, .int 2, .int (8 * 2), .int 0, .int 0, .int 0, .ref q_7, .int 0, .ref q_15, .int 0, .int (-1), .int 0, .int 0, .int 0, .ref q_28, .int (-1), .int 0, .ref q_41, .int 0, .int 0, .ref q_49, .long 0, .long 0])), (q_7, .inl (cy 1, 64, .inl (fun _ => 0))), (q_15, .inl (cy 1, 80, .inl (fun _ => 0))), (q_28, .inl (cy 1, 70, .inl (fun _ => 0))), (q_41, .inl (cy 1, 10, .inl (fun _ => 0))), (q_49, .inl (cy 2, 6, .inl (fun _ => 0)))] := hD
      refine lv_aload_n hx hb dX6_init_97 rfl (lv_at hl 0 rfl) ?_
      refine lv_aload_n hx hb dX6_init_98 rfl (lv_at hl 0 rfl) ?_
      refine va_get (D := D) (ci := 7) (v := .int 2) (C := RX6) (T := TX6) (N := 23) hx hb hts iw_X6_init_X6 hown hK hP 0 rfl rfl 1 (by decide) (hts _ lk_X6_init_f33) (fun _ h9 => h9) rfl dX6_init_99 ?_
      refine lv_iconst (v := 1) hx hb dX6_init_102 (by decide) ?_
      refine lv_icmp_ne (tgt := 111) hx hb dX6_init_103 (by decide) (fun c_103 => ?_) (fun c_103 => ?_)
      · refine lv_aload_n hx hb dX6_init_111 rfl (lv_at hl 0 rfl) ?_
        refine va_get (D := D) (ci := 7) (v := .int 2) (C := RX6) (T := TX6) (N := 23) hx hb hts iw_X6_init_X6 hown hK hP 0 rfl rfl 1 (by decide) (hts _ lk_X6_init_f33) (fun _ h9 => h9) rfl dX6_init_112 ?_
        refine lv_iconst (v := 2) hx hb dX6_init_115 (by decide) ?_
        refine lv_icmp_ne (tgt := 125) hx hb dX6_init_116 (by decide) (fun c_116 => ?_) (fun c_116 => ?_)
        · exact absurd c_116 (by decide)
        · refine lv_sipush (v := 256) hx hb dX6_init_119 (by decide) ?_
          refine lv_goto (tgt := 127) hx hb dX6_init_122 (by decide) ?_
          refine va_putF (D := D) (ci := 7) (v := .int 256) (ty := .int) (C := RX6) (T := TX6) (N := 23) hx hb hts iw_X6_init_X6 tyX6 tyX6_ok nmX6 hown hK hP hD hS 0 rfl rfl 3 (by decide) (hts _ lk_X6_init_f40) (fun _ h9 => h9) rfl hin rfl (by decide +kernel) rfl rfl (Nat.le_of_ble_eq_true rfl) dX6_init_127 (fun H locs hP hD hS => ?_)
          have hP : va_P D vwCl [(h0, .inr (7, [.int 0, .int 2, .int (8 * 2), .int 256, .int 0, .int 0, .ref q_7, .int 0, .ref q_15, .int 0, .int (-1), .int 0, .int 0, .int 0, .ref q_28, .int (-1), .int 0, .ref q_41, .int 0, .int 0, .ref q_49, .long 0, .long 0])), (q_7, .inl (cy 1, 64, .inl (fun _ => 0))), (q_15, .inl (cy 1, 80, .inl (fun _ => 0))), (q_28, .inl (cy 1, 70, .inl (fun _ => 0))), (q_41, .inl (cy 1, 10, .inl (fun _ => 0))), (q_49, .inl (cy 2, 6, .inl (fun _ => 0)))] H := hP
          have hD : va_D A [(h0, .inr (7, [.int 0, .int 2, .int (8 * 2), .int 256, .int 0, .int 0, .ref q_7, .int 0, .ref q_15, .int 0, .int (-1), .int 0, .int 0, .int 0, .ref q_28, .int (-1), .int 0, .ref q_41, .int 0, .int 0, .ref q_49, .long 0, .long 0])), (q_7, .inl (cy 1, 64, .inl (fun _ => 0))), (q_15, .inl (cy 1, 80, .inl (fun _ => 0))), (q_28, .inl (cy 1, 70, .inl (fun _ => 0))), (q_41, .inl (cy 1, 10, .inl (fun _ => 0))), (q_49, .inl (cy 2, 6, .inl (fun _ => 0)))] := hD
          refine lv_aload_n hx hb dX6_init_130 rfl (lv_at hl 0 rfl) ?_
          refine lv_aload_n hx hb dX6_init_131 rfl (lv_at hl 0 rfl) ?_
          refine va_get (D := D) (ci := 7) (v := .int 2) (C := RX6) (T := TX6) (N := 23) hx hb hts iw_X6_init_X6 hown hK hP 0 rfl rfl 1 (by decide) (hts _ lk_X6_init_f33) (fun _ h9 => h9) rfl dX6_init_132 ?_
          refine lv_iconst (v := 3) hx hb dX6_init_135 (by decide) ?_
          refine lv_icmp_ne (tgt := 143) hx hb dX6_init_136 (by decide) (fun c_136 => ?_) (fun c_136 => ?_)
          · refine lv_iconst (v := 1) hx hb dX6_init_143 (by decide) ?_
            refine va_putF (D := D) (ci := 7) (v := .int 1) (ty := .int) (C := RX6) (T := TX6) (N := 23) hx hb hts iw_X6_init_X6 tyX6 tyX6_ok nmX6 hown hK hP hD hS 0 rfl rfl 4 (by decide) (hts _ lk_X6_init_f43) (fun _ h9 => h9) rfl hin rfl (by decide +kernel) rfl rfl (Nat.le_of_ble_eq_true rfl) dX6_init_144 (fun H locs hP hD hS => ?_)
            have hP : va_P D vwCl [(h0, .inr (7, [.int 0, .int 2, .int (8 * 2), .int 256, .int 1, .int 0, .ref q_7, .int 0, .ref q_15, .int 0, .int (-1), .int 0, .int 0, .int 0, .ref q_28, .int (-1), .int 0, .ref q_41, .int 0, .int 0, .ref q_49, .long 0, .long 0])), (q_7, .inl (cy 1, 64, .inl (fun _ => 0))), (q_15, .inl (cy 1, 80, .inl (fun _ => 0))), (q_28, .inl (cy 1, 70, .inl (fun _ => 0))), (q_41, .inl (cy 1, 10, .inl (fun _ => 0))), (q_49, .inl (cy 2, 6, .inl (fun _ => 0)))] H := hP
            have hD : va_D A [(h0, .inr (7, [.int 0, .int 2, .int (8 * 2), .int 256, .int 1, .int 0, .ref q_7, .int 0, .ref q_15, .int 0, .int (-1), .int 0, .int 0, .int 0, .ref q_28, .int (-1), .int 0, .ref q_41, .int 0, .int 0, .ref q_49, .long 0, .long 0])), (q_7, .inl (cy 1, 64, .inl (fun _ => 0))), (q_15, .inl (cy 1, 80, .inl (fun _ => 0))), (q_28, .inl (cy 1, 70, .inl (fun _ => 0))), (q_41, .inl (cy 1, 10, .inl (fun _ => 0))), (q_49, .inl (cy 2, 6, .inl (fun _ => 0)))] := hD
            have hP9 := hP.sub (ws' := [(h0, .inr (7, [.int 0, .int 2, .int (8 * 2), .int 256, .int 1, .int 0, .ref q_7, .int 0, .ref q_15, .int 0, .int (-1), .int 0, .int 0, .int 0, .ref q_28, .int (-1), .int 0, .ref q_41, .int 0, .int 0, .ref q_49, .long 0, .long 0])), (q_7, .inl (cy 1, 64, .inl (fun _ => 0))), (q_15, .inl (cy 1, 80, .inl (fun _ => 0))), (q_28, .inl (cy 1, 70, .inl (fun _ => 0))), (q_41, .inl (cy 1, 10, .inl (fun _ => 0))), (q_49, .inl (cy 2, 6, .inl (fun _ => 0)))]) [0, 1, 2, 3, 4, 5] rfl
            have hD9 := hD.sub (ws' := [(h0, .inr (7, [.int 0, .int 2, .int (8 * 2), .int 256, .int 1, .int 0, .ref q_7, .int 0, .ref q_15, .int 0, .int (-1), .int 0, .int 0, .int 0, .ref q_28, .int (-1), .int 0, .ref q_41, .int 0, .int 0, .ref q_49, .long 0, .long 0])), (q_7, .inl (cy 1, 64, .inl (fun _ => 0))), (q_15, .inl (cy 1, 80, .inl (fun _ => 0))), (q_28, .inl (cy 1, 70, .inl (fun _ => 0))), (q_41, .inl (cy 1, 10, .inl (fun _ => 0))), (q_49, .inl (cy 2, 6, .inl (fun _ => 0)))]) [0, 1, 2, 3, 4, 5] (by decide) rfl
            exact W.vret hx hb hr (fun t ht hW => ⟨⟨(q_7, q_15, q_28, q_41, q_49, 2, 8 * 2, 256, 1), rfl, Or.inr (Or.inl ⟨c_57, rfl, rfl, rfl, rfl⟩), by rw [ht]; exact hP9, hD9⟩, hS.F ht⟩) hS.2.2 dX6_init_147
          · exact absurd c_136 (by decide)
      · exact absurd c_103 (by decide)
    · exact absurd c_79 (by decide)
  · refine lv_iload_n hx hb dX6_init_60 rfl (lv_at hl 1 rfl) ?_
    refine lv_iconst (v := 3) hx hb dX6_init_61 (by decide) ?_
    refine lv_icmp_ne (tgt := 69) hx hb dX6_init_62 (by decide) (fun c_62 => ?_) (fun c_62 => ?_)
    · refine lv_iconst (v := 1) hx hb dX6_init_69 (by decide) ?_
      refine va_putF (D := D) (ci := 7) (v := .int 1) (ty := .int) (C := RX6) (T := TX6) (N := 23) hx hb hts iw_X6_init_X6 tyX6 tyX6_ok nmX6 hown hK hP hD hS 0 rfl rfl 1 (by decide) (hts _ lk_X6_init_f33) (fun _ h9 => h9) rfl hin rfl (by decide +kernel) rfl rfl (Nat.le_of_ble_eq_true rfl) dX6_init_70 (fun H locs hP hD hS => ?_)
      have hP : va_P D vwCl [(h0, .inr (7, [.int 0, .int 1, .int 0, .int 0, .int 0, .int 0, .ref q_7, .int 0, .ref q_15, .int 0, .int (-1), .int 0, .int 0, .int 0, .ref q_28, .int (-1), .int 0, .ref q_41, .int 0, .int 0, .ref q_49, .long 0, .long 0])), (q_7, .inl (cy 1, 64, .inl (fun _ => 0))), (q_15, .inl (cy 1, 80, .inl (fun _ => 0))), (q_28, .inl (cy 1, 70, .inl (fun _ => 0))), (q_41, .inl (cy 1, 10, .inl (fun _ => 0))), (q_49, .inl (cy 2, 6, .inl (fun _ => 0)))] H := hP
      have hD : va_D A [(h0, .inr (7, [.int 0, .int 1, .int 0, .int 0, .int 0, .int 0, .ref q_7, .int 0, .ref q_15, .int 0, .int (-1), .int 0, .int 0, .int 0, .ref q_28, .int (-1), .int 0, .ref q_41, .int 0, .int 0, .ref q_49, .long 0, .long 0])), (q_7, .inl (cy 1, 64, .inl (fun _ => 0))), (q_15, .inl (cy 1, 80, .inl (fun _ => 0))), (q_28, .inl (cy 1, 70, .inl (fun _ => 0))), (q_41, .inl (cy 1, 10, .inl (fun _ => 0))), (q_49, .inl (cy 2, 6, .inl (fun _ => 0)))] := hD
      refine lv_aload_n hx hb dX6_init_73 rfl (lv_at hl 0 rfl) ?_
      refine lv_aload_n hx hb dX6_init_74 rfl (lv_at hl 0 rfl) ?_
      refine va_get (D := D) (ci := 7) (v := .int 1) (C := RX6) (T := TX6) (N := 23) hx hb hts iw_X6_init_X6 hown hK hP 0 rfl rfl 1 (by decide) (hts _ lk_X6_init_f33) (fun _ h9 => h9) rfl dX6_init_75 ?_
      refine lv_iconst (v := 3) hx hb dX6_init_78 (by decide) ?_
      refine lv_icmp_ne (tgt := 87) hx hb dX6_init_79 (by decide) (fun c_79 => ?_) (fun c_79 => ?_)
      · refine lv_bipush (v := 8) hx hb dX6_init_87 (by decide) ?_
        refine lv_aload_n hx hb dX6_init_89 rfl (lv_at hl 0 rfl) ?_
        refine va_get (D := D) (ci := 7) (v := .int 1) (C := RX6) (T := TX6) (N := 23) hx hb hts iw_X6_init_X6 hown hK hP 0 rfl rfl 1 (by decide) (hts _ lk_X6_init_f33) (fun _ h9 => h9) rfl dX6_init_90 ?_
        refine lv_imul hx hb dX6_init_93 ?_
        refine va_putF (D := D) (ci := 7) (v := .int (8 * 1)) (ty := .int) (C := RX6) (T := TX6) (N := 23) hx hb hts iw_X6_init_X6 tyX6 tyX6_ok nmX6 hown hK hP hD hS 0 rfl rfl 2 (by decide) (hts _ lk_X6_init_f36) (fun _ h9 => h9) rfl hin rfl (by decide +kernel) rfl rfl (Nat.le_of_ble_eq_true rfl) dX6_init_94 (fun H locs hP hD hS => ?_)
        have hP : va_P D vwCl [(h0, .inr (7, [.int 0, .int 1, .int (8 * 1), .int 0, .int 0, .int 0, .ref q_7, .int 0, .ref q_15, .int 0, .int (-1), .int 0, .int 0, .int 0, .ref q_28, .int (-1), .int 0, .ref q_41, .int 0, .int 0, .ref q_49, .long 0, .long 0])), (q_7, .inl (cy 1, 64, .inl (fun _ => 0))), (q_15, .inl (cy 1, 80, .inl (fun _ => 0))), (q_28, .inl (cy 1, 70, .inl (fun _ => 0))), (q_41, .inl (cy 1, 10, .inl (fun _ => 0))), (q_49, .inl (cy 2, 6, .inl (fun _ => 0)))] H := hP
        have hD : va_D A [(h0, .inr (7, [.int 0, .int 1, .int (8 * 1), .int 0, .int 0, .int 0, .ref q_7, .int 0, .ref q_15, .int 0, .int (-1), .int 0, .int 0, .int 0, .ref q_28, .int (-1), .int 0, .ref q_41, .int 0, .int 0, .ref q_49, .long 0, .long 0])), (q_7, .inl (cy 1, 64, .inl (fun _ => 0))), (q_15, .inl (cy 1, 80, .inl (fun _ => 0))), (q_28, .inl (cy 1, 70, .inl (fun _ => 0))), (q_41, .inl (cy 1, 10, .inl (fun _ => 0))), (q_49, .inl (cy 2, 6, .inl (fun _ => 0)))] := hD
        refine lv_aload_n hx hb dX6_init_97 rfl (lv_at hl 0 rfl) ?_
        refine lv_aload_n hx hb dX6_init_98 rfl (lv_at hl 0 rfl) ?_
        refine va_get (D := D) (ci := 7) (v := .int 1) (C := RX6) (T := TX6) (N := 23) hx hb hts iw_X6_init_X6 hown hK hP 0 rfl rfl 1 (by decide) (hts _ lk_X6_init_f33) (fun _ h9 => h9) rfl dX6_init_99 ?_
        refine lv_iconst (v := 1) hx hb dX6_init_102 (by decide) ?_
        refine lv_icmp_ne (tgt := 111) hx hb dX6_init_103 (by decide) (fun c_103 => ?_) (fun c_103 => ?_)
        · exact absurd c_103 (by decide)
        · refine lv_bipush (v := 15) hx hb dX6_init_106 (by decide) ?_
          refine lv_goto (tgt := 127) hx hb dX6_init_108 (by decide) ?_
          refine va_putF (D := D) (ci := 7) (v := .int 15) (ty := .int) (C := RX6) (T := TX6) (N := 23) hx hb hts iw_X6_init_X6 tyX6 tyX6_ok nmX6 hown hK hP hD hS 0 rfl rfl 3 (by decide) (hts _ lk_X6_init_f40) (fun _ h9 => h9) rfl hin rfl (by decide +kernel) rfl rfl (Nat.le_of_ble_eq_true rfl) dX6_init_127 (fun H locs hP hD hS => ?_)
          have hP : va_P D vwCl [(h0, .inr (7, [.int 0, .int 1, .int (8 * 1), .int 15, .int 0, .int 0, .ref q_7, .int 0, .ref q_15, .int 0, .int (-1), .int 0, .int 0, .int 0, .ref q_28, .int (-1), .int 0, .ref q_41, .int 0, .int 0, .ref q_49, .long 0, .long 0])), (q_7, .inl (cy 1, 64, .inl (fun _ => 0))), (q_15, .inl (cy 1, 80, .inl (fun _ => 0))), (q_28, .inl (cy 1, 70, .inl (fun _ => 0))), (q_41, .inl (cy 1, 10, .inl (fun _ => 0))), (q_49, .inl (cy 2, 6, .inl (fun _ => 0)))] H := hP
          have hD : va_D A [(h0, .inr (7, [.int 0, .int 1, .int (8 * 1), .int 15, .int 0, .int 0, .ref q_7, .int 0, .ref q_15, .int 0, .int (-1), .int 0, .int 0, .int 0, .ref q_28, .int (-1), .int 0, .ref q_41, .int 0, .int 0, .ref q_49, .long 0, .long 0])), (q_7, .inl (cy 1, 64, .inl (fun _ => 0))), (q_15, .inl (cy 1, 80, .inl (fun _ => 0))), (q_28, .inl (cy 1, 70, .inl (fun _ => 0))), (q_41, .inl (cy 1, 10, .inl (fun _ => 0))), (q_49, .inl (cy 2, 6, .inl (fun _ => 0)))] := hD
          refine lv_aload_n hx hb dX6_init_130 rfl (lv_at hl 0 rfl) ?_
          refine lv_aload_n hx hb dX6_init_131 rfl (lv_at hl 0 rfl) ?_
          refine va_get (D := D) (ci := 7) (v := .int 1) (C := RX6) (T := TX6) (N := 23) hx hb hts iw_X6_init_X6 hown hK hP 0 rfl rfl 1 (by decide) (hts _ lk_X6_init_f33) (fun _ h9 => h9) rfl dX6_init_132 ?_
          refine lv_iconst (v := 3) hx hb dX6_init_135 (by decide) ?_
          refine lv_icmp_ne (tgt := 143) hx hb dX6_init_136 (by decide) (fun c_136 => ?_) (fun c_136 => ?_)
          · refine lv_iconst (v := 1) hx hb dX6_init_143 (by decide) ?_
            refine va_putF (D := D) (ci := 7) (v := .int 1) (ty := .int) (C := RX6) (T := TX6) (N := 23) hx hb hts iw_X6_init_X6 tyX6 tyX6_ok nmX6 hown hK hP hD hS 0 rfl rfl 4 (by decide) (hts _ lk_X6_init_f43) (fun _ h9 => h9) rfl hin rfl (by decide +kernel) rfl rfl (Nat.le_of_ble_eq_true rfl) dX6_init_144 (fun H locs hP hD hS => ?_)
            have hP : va_P D vwCl [(h0, .inr (7, [.int 0, .int 1, .int (8 * 1), .int 15, .int 1, .int 0, .ref q_7, .int 0, .ref q_15, .int 0, .int (-1), .int 0, .int 0, .int 0, .ref q_28, .int (-1), .int 0, .ref q_41, .int 0, .int 0, .ref q_49, .long 0, .long 0])), (q_7, .inl (cy 1, 64, .inl (fun _ => 0))), (q_15, .inl (cy 1, 80, .inl (fun _ => 0))), (q_28, .inl (cy 1, 70, .inl (fun _ => 0))), (q_41, .inl (cy 1, 10, .inl (fun _ => 0))), (q_49, .inl (cy 2, 6, .inl (fun _ => 0)))] H := hP
            have hD : va_D A [(h0, .inr (7, [.int 0, .int 1, .int (8 * 1), .int 15, .int 1, .int 0, .ref q_7, .int 0, .ref q_15, .int 0, .int (-1), .int 0, .int 0, .int 0, .ref q_28, .int (-1), .int 0, .ref q_41, .int 0, .int 0, .ref q_49, .long 0, .long 0])), (q_7, .inl (cy 1, 64, .inl (fun _ => 0))), (q_15, .inl (cy 1, 80, .inl (fun _ => 0))), (q_28, .inl (cy 1, 70, .inl (fun _ => 0))), (q_41, .inl (cy 1, 10, .inl (fun _ => 0))), (q_49, .inl (cy 2, 6, .inl (fun _ => 0)))] := hD
            have hP9 := hP.sub (ws' := [(h0, .inr (7, [.int 0, .int 1, .int (8 * 1), .int 15, .int 1, .int 0, .ref q_7, .int 0, .ref q_15, .int 0, .int (-1), .int 0, .int 0, .int 0, .ref q_28, .int (-1), .int 0, .ref q_41, .int 0, .int 0, .ref q_49, .long 0, .long 0])), (q_7, .inl (cy 1, 64, .inl (fun _ => 0))), (q_15, .inl (cy 1, 80, .inl (fun _ => 0))), (q_28, .inl (cy 1, 70, .inl (fun _ => 0))), (q_41, .inl (cy 1, 10, .inl (fun _ => 0))), (q_49, .inl (cy 2, 6, .inl (fun _ => 0)))]) [0, 1, 2, 3, 4, 5] rfl
            have hD9 := hD.sub (ws' := [(h0, .inr (7, [.int 0, .int 1, .int (8 * 1), .int 15, .int 1, .int 0, .ref q_7, .int 0, .ref q_15, .int 0, .int (-1), .int 0, .int 0, .int 0, .ref q_28, .int (-1), .int 0, .ref q_41, .int 0, .int 0, .ref q_49, .long 0, .long 0])), (q_7, .inl (cy 1, 64, .inl (fun _ => 0))), (q_15, .inl (cy 1, 80, .inl (fun _ => 0))), (q_28, .inl (cy 1, 70, .inl (fun _ => 0))), (q_41, .inl (cy 1, 10, .inl (fun _ => 0))), (q_49, .inl (cy 2, 6, .inl (fun _ => 0)))]) [0, 1, 2, 3, 4, 5] (by decide) rfl
            exact W.vret hx hb hr (fun t ht hW => ⟨⟨(q_7, q_15, q_28, q_41, q_49, 1, 8 * 1, 15, 1), rfl, Or.inl ⟨c_57, c_62, rfl, rfl, rfl, rfl⟩, by rw [ht]; exact hP9, hD9⟩, hS.F ht⟩) hS.2.2 dX6_init_147
          · exact absurd c_136 (by decide)
      · exact absurd c_79 (by decide)
    · refine lv_iload_n hx hb dX6_init_65 rfl (lv_at hl 1 rfl) ?_
      refine lv_topi (fun x_65 ex_65 => ?_)
      obtain rfl : x_65 = 3 := by rw [ex_65]; exact c_62
      refine lv_goto (tgt := 70) hx hb dX6_init_66 (by decide) ?_
      refine va_putF (D := D) (ci := 7) (v := .int 3) (ty := .int) (C := RX6) (T := TX6) (N := 23) hx hb hts iw_X6_init_X6 tyX6 tyX6_ok nmX6 hown hK hP hD hS 0 rfl rfl 1 (by decide) (hts _ lk_X6_init_f33) (fun _ h9 => h9) rfl hin rfl (by decide +kernel) rfl rfl (Nat.le_of_ble_eq_true rfl) dX6_init_70 (fun H locs hP hD hS => ?_)
      have hP : va_P D vwCl [(h0, .inr (7, [.int 0, .int 3, .int 0, .int 0, .int 0, .int 0, .ref q_7, .int 0, .ref q_15, .int 0, .int (-1), .int 0, .int 0, .int 0, .ref q_28, .int (-1), .int 0, .ref q_41, .int 0, .int 0, .ref q_49, .long 0, .long 0])), (q_7, .inl (cy 1, 64, .inl (fun _ => 0))), (q_15, .inl (cy 1, 80, .inl (fun _ => 0))), (q_28, .inl (cy 1, 70, .inl (fun _ => 0))), (q_41, .inl (cy 1, 10, .inl (fun _ => 0))), (q_49, .inl (cy 2, 6, .inl (fun _ => 0)))] H := hP
      have hD : va_D A [(h0, .inr (7, [.int 0, .int 3, .int 0, .int 0, .int 0, .int 0, .ref q_7, .int 0, .ref q_15, .int 0, .int (-1), .int 0, .int 0, .int 0, .ref q_28, .int (-1), .int 0, .ref q_41, .int 0, .int 0, .ref q_49, .long 0, .long 0])), (q_7, .inl (cy 1, 64, .inl (fun _ => 0))), (q_15, .inl (cy 1, 80, .inl (fun _ => 0))), (q_28, .inl (cy 1, 70, .inl (fun _ => 0))), (q_41, .inl (cy 1, 10, .inl (fun _ => 0))), (q_49, .inl (cy 2, 6, .inl (fun _ => 0)))] := hD
      refine lv_aload_n hx hb dX6_init_73 rfl (lv_at hl 0 rfl) ?_
      refine lv_aload_n hx hb dX6_init_74 rfl (lv_at hl 0 rfl) ?_
      refine va_get (D := D) (ci := 7) (v := .int 3) (C := RX6) (T := TX6) (N := 23) hx hb hts iw_X6_init_X6 hown hK hP 0 rfl rfl 1 (by decide) (hts _ lk_X6_init_f33) (fun _ h9 => h9) rfl dX6_init_75 ?_
      refine lv_iconst (v := 3) hx hb dX6_init_78 (by decide) ?_
      refine lv_icmp_ne (tgt := 87) hx hb dX6_init_79 (by decide) (fun c_79 => ?_) (fun c_79 => ?_)
      · exact absurd c_79 (by decide)
      · refine lv_bipush (v := 32) hx hb dX6_init_82 (by decide) ?_
        refine lv_goto (tgt := 94) hx hb dX6_init_84 (by decide) ?_
        refine va_putF (D := D) (ci := 7) (v := .int 32) (ty := .int) (C := RX6) (T := TX6) (N := 23) hx hb hts iw_X6_init_X6 tyX6 tyX6_ok nmX6 hown hK hP hD hS 0 rfl rfl 2 (by decide) (hts _ lk_X6_init_f36) (fun _ h9 => h9) rfl hin rfl (by decide +kernel) rfl rfl (Nat.le_of_ble_eq_true rfl) dX6_init_94 (fun H locs hP hD hS => ?_)
        have hP : va_P D vwCl [(h0, .inr (7, [.int 0, .int 3, .int 32, .int 0, .int 0, .int 0, .ref q_7, .int 0, .ref q_15, .int 0, .int (-1), .int 0, .int 0, .int 0, .ref q_28, .int (-1), .int 0, .ref q_41, .int 0, .int 0, .ref q_49, .long 0, .long 0])), (q_7, .inl (cy 1, 64, .inl (fun _ => 0))), (q_15, .inl (cy 1, 80, .inl (fun _ => 0))), (q_28, .inl (cy 1, 70, .inl (fun _ => 0))), (q_41, .inl (cy 1, 10, .inl (fun _ => 0))), (q_49, .inl (cy 2, 6, .inl (fun _ => 0)))] H := hP
        have hD : va_D A [(h0, .inr (7, [.int 0, .int 3, .int 32, .int 0, .int 0, .int 0, .ref q_7, .int 0, .ref q_15, .int 0, .int (-1), .int 0, .int 0, .int 0, .ref q_28, .int (-1), .int 0, .ref q_41, .int 0, .int 0, .ref q_49, .long 0, .long 0])), (q_7, .inl (cy 1, 64, .inl (fun _ => 0))), (q_15, .inl (cy 1, 80, .inl (fun _ => 0))), (q_28, .inl (cy 1, 70, .inl (fun _ => 0))), (q_41, .inl (cy 1, 10, .inl (fun _ => 0))), (q_49, .inl (cy 2, 6, .inl (fun _ => 0)))] := hD
        refine lv_aload_n hx hb dX6_init_97 rfl (lv_at hl 0 rfl) ?_
        refine lv_aload_n hx hb dX6_init_98 rfl (lv_at hl 0 rfl) ?_
        refine va_get (D := D) (ci := 7) (v := .int 3) (C := RX6) (T := TX6) (N := 23) hx hb hts iw_X6_init_X6 hown hK hP 0 rfl rfl 1 (by decide) (hts _ lk_X6_init_f33) (fun _ h9 => h9) rfl dX6_init_99 ?_
        refine lv_iconst (v := 1) hx hb dX6_init_102 (by decide) ?_
        refine lv_icmp_ne (tgt := 111) hx hb dX6_init_103 (by decide) (fun c_103 => ?_) (fun c_103 => ?_)
        · refine lv_aload_n hx hb dX6_init_111 rfl (lv_at hl 0 rfl) ?_
          refine va_get (D := D) (ci := 7) (v := .int 3) (C := RX6) (T := TX6) (N := 23) hx hb hts iw_X6_init_X6 hown hK hP 0 rfl rfl 1 (by decide) (hts _ lk_X6_init_f33) (fun _ h9 => h9) rfl dX6_init_112 ?_
          refine lv_iconst (v := 2) hx hb dX6_init_115 (by decide) ?_
          refine lv_icmp_ne (tgt := 125) hx hb dX6_init_116 (by decide) (fun c_116 => ?_) (fun c_116 => ?_)
          · refine lv_ldc (v := 65536) hx hb hown (hts _ lk_X6_init_k39) dX6_init_125 ?_
            refine va_putF (D := D) (ci := 7) (v := .int 65536) (ty := .int) (C := RX6) (T := TX6) (N := 23) hx hb hts iw_X6_init_X6 tyX6 tyX6_ok nmX6 hown hK hP hD hS 0 rfl rfl 3 (by decide) (hts _ lk_X6_init_f40) (fun _ h9 => h9) rfl hin rfl (by decide +kernel) rfl rfl (Nat.le_of_ble_eq_true rfl) dX6_init_127 (fun H locs hP hD hS => ?_)
            have hP : va_P D vwCl [(h0, .inr (7, [.int 0, .int 3, .int 32, .int 65536, .int 0, .int 0, .ref q_7, .int 0, .ref q_15, .int 0, .int (-1), .int 0, .int 0, .int 0, .ref q_28, .int (-1), .int 0, .ref q_41, .int 0, .int 0, .ref q_49, .long 0, .long 0])), (q_7, .inl (cy 1, 64, .inl (fun _ => 0))), (q_15, .inl (cy 1, 80, .inl (fun _ => 0))), (q_28, .inl (cy 1, 70, .inl (fun _ => 0))), (q_41, .inl (cy 1, 10, .inl (fun _ => 0))), (q_49, .inl (cy 2, 6, .inl (fun _ => 0)))] H := hP
            have hD : va_D A [(h0, .inr (7, [.int 0, .int 3, .int 32, .int 65536, .int 0, .int 0, .ref q_7, .int 0, .ref q_15, .int 0, .int (-1), .int 0, .int 0, .int 0, .ref q_28, .int (-1), .int 0, .ref q_41, .int 0, .int 0, .ref q_49, .long 0, .long 0])), (q_7, .inl (cy 1, 64, .inl (fun _ => 0))), (q_15, .inl (cy 1, 80, .inl (fun _ => 0))), (q_28, .inl (cy 1, 70, .inl (fun _ => 0))), (q_41, .inl (cy 1, 10, .inl (fun _ => 0))), (q_49, .inl (cy 2, 6, .inl (fun _ => 0)))] := hD
            refine lv_aload_n hx hb dX6_init_130 rfl (lv_at hl 0 rfl) ?_
            refine lv_aload_n hx hb dX6_init_131 rfl (lv_at hl 0 rfl) ?_
            refine va_get (D := D) (ci := 7) (v := .int 3) (C := RX6) (T := TX6) (N := 23) hx hb hts iw_X6_init_X6 hown hK hP 0 rfl rfl 1 (by decide) (hts _ lk_X6_init_f33) (fun _ h9 => h9) rfl dX6_init_132 ?_
            refine lv_iconst (v := 3) hx hb dX6_init_135 (by decide) ?_
            refine lv_icmp_ne (tgt := 143) hx hb dX6_init_136 (by decide) (fun c_136 => ?_) (fun c_136 => ?_)
            · exact absurd c_136 (by decide)
            · refine lv_iconst (v := 2) hx hb dX6_init_139 (by decide) ?_
              refine lv_goto (tgt := 144) hx hb dX6_init_140 (by decide) ?_
              refine va_putF (D := D) (ci := 7) (v := .int 2) (ty := .int) (C := RX6) (T := TX6) (N := 23) hx hb hts iw_X6_init_X6 tyX6 tyX6_ok nmX6 hown hK hP hD hS 0 rfl rfl 4 (by decide) (hts _ lk_X6_init_f43) (fun _ h9 => h9) rfl hin rfl (by decide +kernel) rfl rfl (Nat.le_of_ble_eq_true rfl) dX6_init_144 (fun H locs hP hD hS => ?_)
              have hP : va_P D vwCl [(h0, .inr (7, [.int 0, .int 3, .int 32, .int 65536, .int 2, .int 0, .ref q_7, .int 0, .ref q_15, .int 0, .int (-1), .int 0, .int 0, .int 0, .ref q_28, .int (-1), .int 0, .ref q_41, .int 0, .int 0, .ref q_49, .long 0, .long 0])), (q_7, .inl (cy 1, 64, .inl (fun _ => 0))), (q_15, .inl (cy 1, 80, .inl (fun _ => 0))), (q_28, .inl (cy 1, 70, .inl (fun _ => 0))), (q_41, .inl (cy 1, 10, .inl (fun _ => 0))), (q_49, .inl (cy 2, 6, .inl (fun _ => 0)))] H := hP
              have hD : va_D A [(h0, .inr (7, [.int 0, .int 3, .int 32, .int 65536, .int 2, .int 0, .ref q_7, .int 0, .ref q_15, .int 0, .int (-1), .int 0, .int 0, .int 0, .ref q_28, .int (-1), .int 0, .ref q_41, .int 0, .int 0, .ref q_49, .long 0, .long 0])), (q_7, .inl (cy 1, 64, .inl (fun _ => 0))), (q_15, .inl (cy 1, 80, .inl (fun _ => 0))), (q_28, .inl (cy 1, 70, .inl (fun _ => 0))), (q_41, .inl (cy 1, 10, .inl (fun _ => 0))), (q_49, .inl (cy 2, 6, .inl (fun _ => 0)))] := hD
              have hP9 := hP.sub (ws' := [(h0, .inr (7, [.int 0, .int 3, .int 32, .int 65536, .int 2, .int 0, .ref q_7, .int 0, .ref q_15, .int 0, .int (-1), .int 0, .int 0, .int 0, .ref q_28, .int (-1), .int 0, .ref q_41, .int 0, .int 0, .ref q_49, .long 0, .long 0])), (q_7, .inl (cy 1, 64, .inl (fun _ => 0))), (q_15, .inl (cy 1, 80, .inl (fun _ => 0))), (q_28, .inl (cy 1, 70, .inl (fun _ => 0))), (q_41, .inl (cy 1, 10, .inl (fun _ => 0))), (q_49, .inl (cy 2, 6, .inl (fun _ => 0)))]) [0, 1, 2, 3, 4, 5] rfl
              have hD9 := hD.sub (ws' := [(h0, .inr (7, [.int 0, .int 3, .int 32, .int 65536, .int 2, .int 0, .ref q_7, .int 0, .ref q_15, .int 0, .int (-1), .int 0, .int 0, .int 0, .ref q_28, .int (-1), .int 0, .ref q_41, .int 0, .int 0, .ref q_49, .long 0, .long 0])), (q_7, .inl (cy 1, 64, .inl (fun _ => 0))), (q_15, .inl (cy 1, 80, .inl (fun _ => 0))), (q_28, .inl (cy 1, 70, .inl (fun _ => 0))), (q_41, .inl (cy 1, 10, .inl (fun _ => 0))), (q_49, .inl (cy 2, 6, .inl (fun _ => 0)))]) [0, 1, 2, 3, 4, 5] (by decide) rfl
              exact W.vret hx hb hr (fun t ht hW => ⟨⟨(q_7, q_15, q_28, q_41, q_49, 3, 32, 65536, 2), rfl, Or.inr (Or.inr ⟨c_62, rfl, rfl, rfl, rfl⟩), by rw [ht]; exact hP9, hD9⟩, hS.F ht⟩) hS.2.2 dX6_init_147
          · exact absurd c_116 (by decide)
        · exact absurd c_103 (by decide)

theorem lk_X5_init_m1 : (.methodLink RX5 1 objectInit : Cond) ∈ wsX5_init := by decide +kernel
theorem lk_X5_init_oi : (.instanceMethod objectInit : Cond) ∈ wsX5_init := by decide +kernel
theorem lk_X5_init_oc : (.code objectInit ⟨#[0xb1]⟩ 1 none : Cond) ∈ wsX5_init := by decide +kernel
theorem iw_X5_init_X4 : ∀ w ∈ wsX40, w ∈ wsX5_init := by decide +kernel
theorem lk_X5_init_n13 : (.classLink RX5 13 RX4 : Cond) ∈ wsX5_init := by decide +kernel
theorem lk_X5_init_niX4 : (.instantiable RX4 7 : Cond) ∈ wsX5_init := by decide +kernel
theorem lk_X5_init_iniX4 : (.initialized RX4 : Cond) ∈ wsX5_init := by decide +kernel
theorem lk_X5_init_m15 : (.methodLink RX5 15 yX4_init : Cond) ∈ wsX5_init := by decide +kernel
theorem lk_X5_init_imyX4_init : (.instanceMethod yX4_init : Cond) ∈ wsX5_init := by decide +kernel
theorem iw_X5_init_X5 : ∀ w ∈ wsX50, w ∈ wsX5_init := by decide +kernel
theorem lk_X5_init_f18 : (.fieldLink RX5 18 "DataGuards" "sender" "LDataGuards$Sender;" : Cond) ∈ wsX5_init := by decide +kernel
theorem iw_X5_init_X3 : ∀ w ∈ wsX30, w ∈ wsX5_init := by decide +kernel
theorem lk_X5_init_n24 : (.classLink RX5 24 RX3 : Cond) ∈ wsX5_init := by decide +kernel
theorem lk_X5_init_niX3 : (.instantiable RX3 4 : Cond) ∈ wsX5_init := by decide +kernel
theorem lk_X5_init_iniX3 : (.initialized RX3 : Cond) ∈ wsX5_init := by decide +kernel
theorem lk_X5_init_m26 : (.methodLink RX5 26 yX3_init : Cond) ∈ wsX5_init := by decide +kernel
theorem lk_X5_init_imyX3_init : (.instanceMethod yX3_init : Cond) ∈ wsX5_init := by decide +kernel
theorem lk_X5_init_f27 : (.fieldLink RX5 27 "DataGuards" "receiver" "LDataGuards$Receiver;" : Cond) ∈ wsX5_init := by decide +kernel
theorem iw_X5_init_X0 : ∀ w ∈ wsX00, w ∈ wsX5_init := by decide +kernel
theorem lk_X5_init_n31 : (.classLink RX5 31 RX0 : Cond) ∈ wsX5_init := by decide +kernel
theorem lk_X5_init_niX0 : (.instantiable RX0 5 : Cond) ∈ wsX5_init := by decide +kernel
theorem lk_X5_init_iniX0 : (.initialized RX0 : Cond) ∈ wsX5_init := by decide +kernel
theorem lk_X5_init_imyX0_init : (.instanceMethod yX0_init : Cond) ∈ wsX5_init := by decide +kernel
theorem lk_X5_init_f34 : (.fieldLink RX5 34 "DataGuards" "history" "LDataGuards$History;" : Cond) ∈ wsX5_init := by decide +kernel
set_option maxHeartbeats 4000000 in
set_option maxRecDepth 100000 in
/-- new DataGuards(profile) -/
theorem c_X5_init (l : Launch) (D : va_G) (cy : Nat → ClassId) (sz : Nat) (h0 : Nat) (i : Int32)  : Met l yX5_init wsX5_init ({ frames := 3, cells := 11, slots := 248, locals := 66 } : Room) (pre1 D cy [.ref h0, .int i] [(h0, .inr (6, [.null, .null, .null, .long 0, .long 0]))] sz) (va_Qv (fun (u : (Nat) × (Nat) × (Nat) × (Nat) × (Nat) × (Nat) × (Nat) × (Nat) × (Nat) × (Nat) × (Nat) × (Int32) × (Int32) × (Int32) × (Int32) × (Int32) × (Int32)) => (nmb i u.2.2.2.2.2.2.2.2.2.2.2.1 u.2.2.2.2.2.2.2.2.2.2.2.2.1 u.2.2.2.2.2.2.2.2.2.2.2.2.2.1 u.2.2.2.2.2.2.2.2.2.2.2.2.2.2.1 u.2.2.2.2.2.2.2.2.2.2.2.2.2.2.2.1 u.2.2.2.2.2.2.2.2.2.2.2.2.2.2.2.2)) (fun u t => va_P D vwCl [(h0, .inr (6, [.ref u.1, .ref u.2.1, .ref u.2.2.1, .long 0, .long 0])), (u.1, .inr (5, [.ref u.2.2.2.1, .ref u.2.2.2.2.1, .ref u.2.2.2.2.2.2.1, .int 0, .int 0, .int 0, .int 0])), (u.2.2.2.1, .inr (3, [.int u.2.2.2.2.2.2.2.2.2.2.2.1, .int u.2.2.2.2.2.2.2.2.2.2.2.2.1, .int u.2.2.2.2.2.2.2.2.2.2.2.2.2.1, .int u.2.2.2.2.2.2.2.2.2.2.2.2.2.2.1, .int u.2.2.2.2.2.2.2.2.2.2.2.2.2.2.2.1, .int u.2.2.2.2.2.2.2.2.2.2.2.2.2.2.2.2])), (u.2.2.2.2.1, .inr (2, [.ref u.2.2.2.2.2.1, .int 0])), (u.2.2.2.2.2.1, .inl (cy 0, 70, .inl (fun _ => 0))), (u.2.2.2.2.2.2.1, .inr (2, [.ref u.2.2.2.2.2.2.2.1, .int 0])), (u.2.2.2.2.2.2.2.1, .inl (cy 0, 70, .inl (fun _ => 0))), (u.2.1, .inr (4, [.ref u.2.2.2.1, .ref u.2.2.2.2.2.2.2.2.1, .int 0, .int (-1)])), (u.2.2.2.2.2.2.2.2.1, .inr (2, [.ref u.2.2.2.2.2.2.2.2.2.1, .int 0])), (u.2.2.2.2.2.2.2.2.2.1, .inl (cy 0, 70, .inl (fun _ => 0))), (u.2.2.1, .inr (1, [.ref u.2.2.2.2.2.2.2.2.2.2.1, .int 0, .int 0, .int 0, .int 0])), (u.2.2.2.2.2.2.2.2.2.2.1, .inl (cy 1, 10, .inl (fun _ => 0)))] t.heap ∧ va_D (va_A [(h0, .inr (6, [.null, .null, .null, .long 0, .long 0]))] sz) [(h0, .inr (6, [.ref u.1, .ref u.2.1, .ref u.2.2.1, .long 0, .long 0])), (u.1, .inr (5, [.ref u.2.2.2.1, .ref u.2.2.2.2.1, .ref u.2.2.2.2.2.2.1, .int 0, .int 0, .int 0, .int 0])), (u.2.2.2.1, .inr (3, [.int u.2.2.2.2.2.2.2.2.2.2.2.1, .int u.2.2.2.2.2.2.2.2.2.2.2.2.1, .int u.2.2.2.2.2.2.2.2.2.2.2.2.2.1, .int u.2.2.2.2.2.2.2.2.2.2.2.2.2.2.1, .int u.2.2.2.2.2.2.2.2.2.2.2.2.2.2.2.1, .int u.2.2.2.2.2.2.2.2.2.2.2.2.2.2.2.2])), (u.2.2.2.2.1, .inr (2, [.ref u.2.2.2.2.2.1, .int 0])), (u.2.2.2.2.2.1, .inl (cy 0, 70, .inl (fun _ => 0))), (u.2.2.2.2.2.2.1, .inr (2, [.ref u.2.2.2.2.2.2.2.1, .int 0])), (u.2.2.2.2.2.2.2.1, .inl (cy 0, 70, .inl (fun _ => 0))), (u.2.1, .inr (4, [.ref u.2.2.2.1, .ref u.2.2.2.2.2.2.2.2.1, .int 0, .int (-1)])), (u.2.2.2.2.2.2.2.2.1, .inr (2, [.ref u.2.2.2.2.2.2.2.2.2.1, .int 0])), (u.2.2.2.2.2.2.2.2.2.1, .inl (cy 0, 70, .inl (fun _ => 0))), (u.2.2.1, .inr (1, [.ref u.2.2.2.2.2.2.2.2.2.2.1, .int 0, .int 0, .int 0, .int 0])), (u.2.2.2.2.2.2.2.2.2.2.1, .inl (cy 1, 10, .inl (fun _ => 0)))]) (va_A [(h0, .inr (6, [.null, .null, .null, .long 0, .long 0]))] sz)) 11 248 (va_A [(h0, .inr (6, [.null, .null, .null, .long 0, .long 0]))] sz) := by
  refine Met.ofW (cc := cX5_init) (maxL := 3) (ret := none) (by decide) rfl ?_
  intro p e s m args below meth c s₁ B hml hv
  obtain ⟨rfl, hsz, hP, hkk, hD0⟩ := hv
  have hx := B.exec
  have hb := B.bytes
  have hr := B.returns
  have hts := atoms_spec (ws := wsX5_init) B.pre
  have hown : s.vm.findClass RX5 = some m.cls := findClass_of_methodNamed B.named
  have hlocks := B.notSynchronized
  have hin : meth.name = _ := (name_of_methodNamed B.named B.method).1
  have hK := hkk.1
  subst hsz
  have hD := hD0.self (sz := s.heap.size)
  generalize hAe : va_A [(h0, .inr (6, [.null, .null, .null, .long 0, .long 0]))] s.heap.size = A at hD ⊢
  have hA : ∀ q : Nat, s.heap.size ≤ q → A q := fun q h => by rw [← hAe]; exact Or.inr h
  have hS : va_S A s.heap s.heap [] := va_S.rf
  have hP : va_P D vwCl [(h0, .inr (6, [.null, .null, .null, .long 0, .long 0]))] s.heap := hP
  have hl := lv_entry ([.ref h0, .int i]) (n := 3) (Nat.le_of_ble_eq_true rfl)
  rw [lg_entry_eq]
  generalize (lg_sl ([.ref h0, .int i]) ++ List.replicate (3 - (lg_sl ([.ref h0, .int i])).length) Slot.unset).toArray = ls at hl ⊢
  have hl : lv_has ls 3 [(0, .ref h0), (1, .int i)] := hl
  refine lv_aload_n hx hb dX5_init_0 rfl (lv_at hl 0 rfl) ?_
  refine W.objInit hx hb hown (hts _ lk_X5_init_m1) (hts _ lk_X5_init_oi) (hts _ lk_X5_init_oc) rfl (by rw [hml]; exact hl.1) rfl dX5_init_1 (Nat.le_of_ble_eq_true rfl) (Nat.le_of_ble_eq_true rfl) ?_
  refine W.eq (g2 := F0 m 4 ls []) rfl ?_
  refine lv_iload_n hx hb dX5_init_4 rfl (lv_at hl 1 rfl) ?_
  have hPc := hP.sub (ws' := []) [] rfl
  have hDc := hD.sub (ws' := []) [] (by decide) rfl
  have hFc := va_free (wc := []) hD hS hA [] rfl
  refine va_callr (va_runS (As := [.int i]) (rest := []) ⟨hx, hb, hml, hown, hts⟩ (c_X2_numbered l D cy s.heap.size i ) (va_cwS 1 hts gX5_init_X2_numbered rfl rfl rfl (by decide +kernel) ⟨Nat.le_of_ble_eq_true rfl, Nat.le_of_ble_eq_true rfl⟩) (pv_S hkk hPc hDc rfl) rfl rfl hl.1 rfl (lv_room (Nat.le_of_ble_eq_true rfl)) dX5_init_5 ⟨Nat.le_of_ble_eq_true rfl, Nat.le_of_ble_eq_true rfl⟩) hS (fun q _ h => hFc q h) hFc (fun u ra_5 t H1 locs ht hvm hw hB hz1 hk1 hS => ?_)
  obtain ⟨v1_5, v2_5, v3_5, v4_5, v5_5, v6_5⟩ := u
  obtain ⟨hP1, hD1⟩ := hB
  rw [ht] at hP1
  try dsimp only at hw hP1 hD1
  obtain ⟨hP, hD⟩ := va_join (wr := [(h0, .inr (6, [.null, .null, .null, .long 0, .long 0]))]) (w1 := [(ra_5, .inr (3, [.int v1_5, .int v2_5, .int v3_5, .int v4_5, .int v5_5, .int v6_5]))]) hP hD [] [0] rfl rfl (by decide) (by decide) hk1 hFc hP1 hD1
  clear hPc hDc hFc hP1 hD1 hz1 hk1
  generalize H1 = H at hP hS ⊢
  have hP : va_P D vwCl [(h0, .inr (6, [.null, .null, .null, .long 0, .long 0])), (ra_5, .inr (3, [.int v1_5, .int v2_5, .int v3_5, .int v4_5, .int v5_5, .int v6_5]))] H := hP
  have hD : va_D A [(h0, .inr (6, [.null, .null, .null, .long 0, .long 0])), (ra_5, .inr (3, [.int v1_5, .int v2_5, .int v3_5, .int v4_5, .int v5_5, .int v6_5]))] := hD
  refine W.widen (k := 1) (n := 6) (by decide) (by decide) ?_
  have hw_5 := hw
  refine lv_astore_n (lv' := [(2, .ref ra_5), (0, .ref h0), (1, .int i)]) hx hb dX5_init_8 rfl hl (by decide) rfl (fun ls hl => ?_)
  refine lv_aload_n hx hb dX5_init_9 rfl (lv_at hl 1 rfl) ?_
  refine va_new (ci := 5) (fs := [.null, .null, .null, .int 0, .int 0, .int 0, .int 0]) (C := RX4) (T := TX4) (N := 7) hx hb hts iw_X5_init_X4 tyX4 tyX4_ok hown (hts _ lk_X5_init_n13) (hts _ lk_X5_init_niX4) (hts _ lk_X5_init_iniX4) hK hP hD hS hA rfl (fun j hj => by rcases (show j = 0 ∨ j = 1 ∨ j = 2 ∨ j = 3 ∨ j = 4 ∨ j = 5 ∨ j = 6 by omega) with rfl | rfl | rfl | rfl | rfl | rfl | rfl <;> rfl) (Nat.le_of_ble_eq_true rfl) (Nat.le_of_ble_eq_true rfl) dX5_init_10 (fun q_10 H hP hD hS => ?_)
  have hP : va_P D vwCl [(h0, .inr (6, [.null, .null, .null, .long 0, .long 0])), (ra_5, .inr (3, [.int v1_5, .int v2_5, .int v3_5, .int v4_5, .int v5_5, .int v6_5])), (q_10, .inr (5, [.null, .null, .null, .int 0, .int 0, .int 0, .int 0]))] H := hP
  have hD : va_D A [(h0, .inr (6, [.null, .null, .null, .long 0, .long 0])), (ra_5, .inr (3, [.int v1_5, .int v2_5, .int v3_5, .int v4_5, .int v5_5, .int v6_5])), (q_10, .inr (5, [.null, .null, .null, .int 0, .int 0, .int 0, .int 0]))] := hD
  refine W.widen (k := 2) (n := 13) (by decide) (by decide) ?_
  refine lv_dup hx hb dX5_init_13 rfl ?_
  refine lv_aload_n hx hb dX5_init_14 rfl (lv_at hl 0 rfl) ?_
  have hPc := hP.sub (ws' := [(q_10, .inr (5, [.null, .null, .null, .int 0, .int 0, .int 0, .int 0]))]) [2] rfl
  have hDc := hD.sub (ws' := [(q_10, .inr (5, [.null, .null, .null, .int 0, .int 0, .int 0, .int 0]))]) [2] (by decide) rfl
  have hFc := va_free (wc := [(q_10, .inr (5, [.null, .null, .null, .int 0, .int 0, .int 0, .int 0]))]) hD hS hA [2] rfl
  refine va_callv (va_runI (As := [.ref ra_5]) (rest := [.ref q_10, .ref h0]) ⟨hx, hb, hml, hown, hts⟩ (c_X4_init l D cy H.size q_10 ra_5 ) (cwI 1 hts gX5_init_X4_init rfl rfl rfl (hts _ lk_X5_init_iniX4) (hts _ lk_X5_init_m15) (hts _ lk_X5_init_imyX4_init) rfl (by decide +kernel) ⟨Nat.le_of_ble_eq_true rfl, Nat.le_of_ble_eq_true rfl⟩) (pv_S hkk hPc hDc rfl) rfl rfl hl.1 rfl (lv_room (Nat.le_of_ble_eq_true rfl)) dX5_init_15 ⟨Nat.le_of_ble_eq_true rfl, Nat.le_of_ble_eq_true rfl⟩) hS (fun q _ h => hFc q h) hFc (fun u t H1 locs ht hvm hw hB hz1 hk1 hS => ?_)
  obtain ⟨d0_15, d1_15, r0_15, r1_15⟩ := u
  obtain ⟨hP1, hD1⟩ := hB
  rw [ht] at hP1
  try dsimp only at hw hP1 hD1
  obtain ⟨hP, hD⟩ := va_join (wr := [(h0, .inr (6, [.null, .null, .null, .long 0, .long 0])), (ra_5, .inr (3, [.int v1_5, .int v2_5, .int v3_5, .int v4_5, .int v5_5, .int v6_5]))]) (w1 := [(q_10, .inr (5, [.ref ra_5, .ref d0_15, .ref r0_15, .int 0, .int 0, .int 0, .int 0])), (d0_15, .inr (2, [.ref d1_15, .int 0])), (d1_15, .inl (cy 0, 70, .inl (fun _ => 0))), (r0_15, .inr (2, [.ref r1_15, .int 0])), (r1_15, .inl (cy 0, 70, .inl (fun _ => 0)))]) hP hD [2] [0, 1] rfl rfl (by decide) (by decide) hk1 hFc hP1 hD1
  clear hPc hDc hFc hP1 hD1 hz1 hk1
  generalize H1 = H at hP hS ⊢
  have hP : va_P D vwCl [(h0, .inr (6, [.null, .null, .null, .long 0, .long 0])), (ra_5, .inr (3, [.int v1_5, .int v2_5, .int v3_5, .int v4_5, .int v5_5, .int v6_5])), (q_10, .inr (5, [.ref ra_5, .ref d0_15, .ref r0_15, .int 0, .int 0, .int 0, .int 0])), (d0_15, .inr (2, [.ref d1_15, .int 0])), (d1_15, .inl (cy 0, 70, .inl (fun _ => 0))), (r0_15, .inr (2, [.ref r1_15, .int 0])), (r1_15, .inl (cy 0, 70, .inl (fun _ => 0)))] H := hP
  have hD : va_D A [(h0, .inr (6, [.null, .null, .null, .long 0, .long 0])), (ra_5, .inr (3, [.int v1_5, .int v2_5, .int v3_5, .int v4_5, .int v5_5, .int v6_5])), (q_10, .inr (5, [.ref ra_5, .ref d0_15, .ref r0_15, .int 0, .int 0, .int 0, .int 0])), (d0_15, .inr (2, [.ref d1_15, .int 0])), (d1_15, .inl (cy 0, 70, .inl (fun _ => 0))), (r0_15, .inr (2, [.ref r1_15, .int 0])), (r1_15, .inl (cy 0, 70, .inl (fun _ => 0)))] := hD
  refine W.widen (k := 6) (n := 157) (by decide) (by decide) ?_
  have hw_15 := hw
  refine va_putF (D := D) (ci := 6) (v := .ref q_10) (ty := (.object "DataGuards$Sender")) (C := RX5) (T := TX5) (N := 5) hx hb hts iw_X5_init_X5 tyX5 tyX5_ok nmX5 hown hK hP hD hS 0 rfl rfl 0 (by decide) (hts _ lk_X5_init_f18) (fun _ h9 => h9) rfl hin rfl (by decide +kernel) rfl rfl (Nat.le_of_ble_eq_true rfl) dX5_init_18 (fun H locs hP hD hS => ?_)
  have hP : va_P D vwCl [(h0, .inr (6, [.ref q_10, .null, .null, .long 0, .long 0])), (ra_5, .inr (3, [.int v1_5, .int v2_5, .int v3_5, .int v4_5, .int v5_5, .int v6_5])), (q_10, .inr (5, [.ref ra_5, .ref d0_15, .ref r0_15, .int 0, .int 0, .int 0, .int 0])), (d0_15, .inr (2, [.ref d1_15, .int 0])), (d1_15, .inl (cy 0, 70, .inl (fun _ => 0))), (r0_15, .inr (2, [.ref r1_15, .int 0])), (r1_15, .inl (cy 0, 70, .inl (fun _ => 0)))] H := hP
  have hD : va_D A [(h0, .inr (6, [.ref q_10, .null, .null, .long 0, .long 0])), (ra_5, .inr (3, [.int v1_5, .int v2_5, .int v3_5, .int v4_5, .int v5_5, .int v6_5])), (q_10, .inr (5, [.ref ra_5, .ref d0_15, .ref r0_15, .int 0, .int 0, .int 0, .int 0])), (d0_15, .inr (2, [.ref d1_15, .int 0])), (d1_15, .inl (cy 0, 70, .inl (fun _ => 0))), (r0_15, .inr (2, [.ref r1_15, .int 0])), (r1_15, .inl (cy 0, 70, .inl (fun _ => 0)))] := hD
  refine lv_aload_n hx hb dX5_init_21 rfl (lv_at hl 1 rfl) ?_
  refine va_new (ci := 4) (fs := [.null, .null, .int 0, .int 0]) (C := RX3) (T := TX3) (N := 4) hx hb hts iw_X5_init_X3 tyX3 tyX3_ok hown (hts _ lk_X5_init_n24) (hts _ lk_X5_init_niX3) (hts _ lk_X5_init_iniX3) hK hP hD hS hA rfl (fun j hj => by rcases (show j = 0 ∨ j = 1 ∨ j = 2 ∨ j = 3 by omega) with rfl | rfl | rfl | rfl <;> rfl) (Nat.le_of_ble_eq_true rfl) (Nat.le_of_ble_eq_true rfl) dX5_init_22 (fun q_22 H hP hD hS => ?_)
  have hP : va_P D vwCl [(h0, .inr (6, [.ref q_10, .null, .null, .long 0, .long 0])), (ra_5, .inr (3, [.int v1_5, .int v2_5, .int v3_5, .int v4_5, .int v5_5, .int v6_5])), (q_10, .inr (5, [.ref ra_5, .ref d0_15, .ref r0_15, .int 0, .int 0, .int 0, .int 0])), (d0_15, .inr (2, [.ref d1_15, .int 0])), (d1_15, .inl (cy 0, 70, .inl (fun _ => 0))), (r0_15, .inr (2, [.ref r1_15, .int 0])), (r1_15, .inl (cy 0, 70, .inl (fun _ => 0))), (q_22, .inr (4, [.null, .null, .int 0, .int 0]))] H := hP
  have hD : va_D A [(h0, .inr (6, [.ref q_10, .null, .null, .long 0, .long 0])), (ra_5, .inr (3, [.int v1_5, .int v2_5, .int v3_5, .int v4_5, .int v5_5, .int v6_5])), (q_10, .inr (5, [.ref ra_5, .ref d0_15, .ref r0_15, .int 0, .int 0, .int 0, .int 0])), (d0_15, .inr (2, [.ref d1_15, .int 0])), (d1_15, .inl (cy 0, 70, .inl (fun _ => 0))), (r0_15, .inr (2, [.ref r1_15, .int 0])), (r1_15, .inl (cy 0, 70, .inl (fun _ => 0))), (q_22, .inr (4, [.null, .null, .int 0, .int 0]))] := hD
  refine W.widen (k := 7) (n := 161) (by decide) (by decide) ?_
  refine lv_dup hx hb dX5_init_25 rfl ?_
  refine lv_aload_n hx hb dX5_init_26 rfl (lv_at hl 0 rfl) ?_
  have hPc := hP.sub (ws' := [(q_22, .inr (4, [.null, .null, .int 0, .int 0]))]) [7] rfl
  have hDc := hD.sub (ws' := [(q_22, .inr (4, [.null, .null, .int 0, .int 0]))]) [7] (by decide) rfl
  have hFc := va_free (wc := [(q_22, .inr (4, [.null, .null, .int 0, .int 0]))]) hD hS hA [7] rfl
  refine va_callv (va_runI (As := [.ref ra_5]) (rest := [.ref q_22, .ref h0]) ⟨hx, hb, hml, hown, hts⟩ (c_X3_init l D cy H.size q_22 ra_5 ) (cwI 1 hts gX5_init_X3_init rfl rfl rfl (hts _ lk_X5_init_iniX3) (hts _ lk_X5_init_m26) (hts _ lk_X5_init_imyX3_init) rfl (by decide +kernel) ⟨Nat.le_of_ble_eq_true rfl, Nat.le_of_ble_eq_true rfl⟩) (pv_S hkk hPc hDc rfl) rfl rfl hl.1 rfl (lv_room (Nat.le_of_ble_eq_true rfl)) dX5_init_27 ⟨Nat.le_of_ble_eq_true rfl, Nat.le_of_ble_eq_true rfl⟩) hS (fun q _ h => hFc q h) hFc (fun u t H1 locs ht hvm hw hB hz1 hk1 hS => ?_)
  obtain ⟨r0_27, r1_27⟩ := u
  obtain ⟨hP1, hD1⟩ := hB
  rw [ht] at hP1
  try dsimp only at hw hP1 hD1
  obtain ⟨hP, hD⟩ := va_join (wr := [(h0, .inr (6, [.ref q_10, .null, .null, .long 0, .long 0])), (ra_5, .inr (3, [.int v1_5, .int v2_5, .int v3_5, .int v4_5, .int v5_5, .int v6_5])), (q_10, .inr (5, [.ref ra_5, .ref d0_15, .ref r0_15, .int 0, .int 0, .int 0, .int 0])), (d0_15, .inr (2, [.ref d1_15, .int 0])), (d1_15, .inl (cy 0, 70, .inl (fun _ => 0))), (r0_15, .inr (2, [.ref r1_15, .int 0])), (r1_15, .inl (cy 0, 70, .inl (fun _ => 0)))]) (w1 := [(q_22, .inr (4, [.ref ra_5, .ref r0_27, .int 0, .int (-1)])), (r0_27, .inr (2, [.ref r1_27, .int 0])), (r1_27, .inl (cy 0, 70, .inl (fun _ => 0)))]) hP hD [7] [0, 1, 2, 3, 4, 5, 6] rfl rfl (by decide) (by decide) hk1 hFc hP1 hD1
  clear hPc hDc hFc hP1 hD1 hz1 hk1
  generalize H1 = H at hP hS ⊢
  have hP : va_P D vwCl [(h0, .inr (6, [.ref q_10, .null, .null, .long 0, .long 0])), (ra_5, .inr (3, [.int v1_5, .int v2_5, .int v3_5, .int v4_5, .int v5_5, .int v6_5])), (q_10, .inr (5, [.ref ra_5, .ref d0_15, .ref r0_15, .int 0, .int 0, .int 0, .int 0])), (d0_15, .inr (2, [.ref d1_15, .int 0])), (d1_15, .inl (cy 0, 70, .inl (fun _ => 0))), (r0_15, .inr (2, [.ref r1_15, .int 0])), (r1_15, .inl (cy 0, 70, .inl (fun _ => 0))), (q_22, .inr (4, [.ref ra_5, .ref r0_27, .int 0, .int (-1)])), (r0_27, .inr (2, [.ref r1_27, .int 0])), (r1_27, .inl (cy 0, 70, .inl (fun _ => 0)))] H := hP
  have hD : va_D A [(h0, .inr (6, [.ref q_10, .null, .null, .long 0, .long 0])), (ra_5, .inr (3, [.int v1_5, .int v2_5, .int v3_5, .int v4_5, .int v5_5, .int v6_5])), (q_10, .inr (5, [.ref ra_5, .ref d0_15, .ref r0_15, .int 0, .int 0, .int 0, .int 0])), (d0_15, .inr (2, [.ref d1_15, .int 0])), (d1_15, .inl (cy 0, 70, .inl (fun _ => 0))), (r0_15, .inr (2, [.ref r1_15, .int 0])), (r1_15, .inl (cy 0, 70, .inl (fun _ => 0))), (q_22, .inr (4, [.ref ra_5, .ref r0_27, .int 0, .int (-1)])), (r0_27, .inr (2, [.ref r1_27, .int 0])), (r1_27, .inl (cy 0, 70, .inl (fun _ => 0)))] := hD
  refine W.widen (k := 9) (n := 233) (by decide) (by decide) ?_
  have hw_27 := hw
  refine va_putF (D := D) (ci := 6) (v := .ref q_22) (ty := (.object "DataGuards$Receiver")) (C := RX5) (T := TX5) (N := 5) hx hb hts iw_X5_init_X5 tyX5 tyX5_ok nmX5 hown hK hP hD hS 0 rfl rfl 1 (by decide) (hts _ lk_X5_init_f27) (fun _ h9 => h9) rfl hin rfl (by decide +kernel) rfl rfl (Nat.le_of_ble_eq_true rfl) dX5_init_30 (fun H locs hP hD hS => ?_)
  have hP : va_P D vwCl [(h0, .inr (6, [.ref q_10, .ref q_22, .null, .long 0, .long 0])), (ra_5, .inr (3, [.int v1_5, .int v2_5, .int v3_5, .int v4_5, .int v5_5, .int v6_5])), (q_10, .inr (5, [.ref ra_5, .ref d0_15, .ref r0_15, .int 0, .int 0, .int 0, .int 0])), (d0_15, .inr (2, [.ref d1_15, .int 0])), (d1_15, .inl (cy 0, 70, .inl (fun _ => 0))), (r0_15, .inr (2, [.ref r1_15, .int 0])), (r1_15, .inl (cy 0, 70, .inl (fun _ => 0))), (q_22, .inr (4, [.ref ra_5, .ref r0_27, .int 0, .int (-1)])), (r0_27, .inr (2, [.ref r1_27, .int 0])), (r1_27, .inl (cy 0, 70, .inl (fun _ => 0)))] H := hP
  have hD : va_D A [(h0, .inr (6, [.ref q_10, .ref q_22, .null, .long 0, .long 0])), (ra_5, .inr (3, [.int v1_5, .int v2_5, .int v3_5, .int v4_5, .int v5_5, .int v6_5])), (q_10, .inr (5, [.ref ra_5, .ref d0_15, .ref r0_15, .int 0, .int 0, .int 0, .int 0])), (d0_15, .inr (2, [.ref d1_15, .int 0])), (d1_15, .inl (cy 0, 70, .inl (fun _ => 0))), (r0_15, .inr (2, [.ref r1_15, .int 0])), (r1_15, .inl (cy 0, 70, .inl (fun _ => 0))), (q_22, .inr (4, [.ref ra_5, .ref r0_27, .int 0, .int (-1)])), (r0_27, .inr (2, [.ref r1_27, .int 0])), (r1_27, .inl (cy 0, 70, .inl (fun _ => 0)))] := hD
  refine lv_aload_n hx hb dX5_init_33 rfl (lv_at hl 1 rfl) ?_
  refine va_new (ci := 1) (fs := [.null, .int 0, .int 0, .int 0, .int 0]) (C := RX0) (T := TX0) (N := 5) hx hb hts iw_X5_init_X0 tyX0 tyX0_ok hown (hts _ lk_X5_init_n31) (hts _ lk_X5_init_niX0) (hts _ lk_X5_init_iniX0) hK hP hD hS hA rfl (fun j hj => by rcases (show j = 0 ∨ j = 1 ∨ j = 2 ∨ j = 3 ∨ j = 4 by omega) with rfl | rfl | rfl | rfl | rfl <;> rfl) (Nat.le_of_ble_eq_true rfl) (Nat.le_of_ble_eq_true rfl) dX5_init_34 (fun q_34 H hP hD hS => ?_)
  have hP : va_P D vwCl [(h0, .inr (6, [.ref q_10, .ref q_22, .null, .long 0, .long 0])), (ra_5, .inr (3, [.int v1_5, .int v2_5, .int v3_5, .int v4_5, .int v5_5, .int v6_5])), (q_10, .inr (5, [.ref ra_5, .ref d0_15, .ref r0_15, .int 0, .int 0, .int 0, .int 0])), (d0_15, .inr (2, [.ref d1_15, .int 0])), (d1_15, .inl (cy 0, 70, .inl (fun _ => 0))), (r0_15, .inr (2, [.ref r1_15, .int 0])), (r1_15, .inl (cy 0, 70, .inl (fun _ => 0))), (q_22, .inr (4, [.ref ra_5, .ref r0_27, .int 0, .int (-1)])), (r0_27, .inr (2, [.ref r1_27, .int 0])), (r1_27, .inl (cy 0, 70, .inl (fun _ => 0))), (q_34, .inr (1, [.null, .int 0, .int 0, .int 0, .int 0]))] H := hP
  have hD : va_D A [(h0, .inr (6, [.ref q_10, .ref q_22, .null, .long 0, .long 0])), (ra_5, .inr (3, [.int v1_5, .int v2_5, .int v3_5, .int v4_5, .int v5_5, .int v6_5])), (q_10, .inr (5, [.ref ra_5, .ref d0_15, .ref r0_15, .int 0, .int 0, .int 0, .int 0])), (d0_15, .inr (2, [.ref d1_15, .int 0])), (d1_15, .inl (cy 0, 70, .inl (fun _ => 0))), (r0_15, .inr (2, [.ref r1_15, .int 0])), (r1_15, .inl (cy 0, 70, .inl (fun _ => 0))), (q_22, .inr (4, [.ref ra_5, .ref r0_27, .int 0, .int (-1)])), (r0_27, .inr (2, [.ref r1_27, .int 0])), (r1_27, .inl (cy 0, 70, .inl (fun _ => 0))), (q_34, .inr (1, [.null, .int 0, .int 0, .int 0, .int 0]))] := hD
  refine W.widen (k := 10) (n := 238) (by decide) (by decide) ?_
  refine lv_dup hx hb dX5_init_37 rfl ?_
  have hPc := hP.sub (ws' := [(q_34, .inr (1, [.null, .int 0, .int 0, .int 0, .int 0]))]) [10] rfl
  have hDc := hD.sub (ws' := [(q_34, .inr (1, [.null, .int 0, .int 0, .int 0, .int 0]))]) [10] (by decide) rfl
  have hFc := va_free (wc := [(q_34, .inr (1, [.null, .int 0, .int 0, .int 0, .int 0]))]) hD hS hA [10] rfl
  refine va_callv (va_runIN (As := []) (rest := [.ref q_34, .ref h0]) ⟨hx, hb, hml, hown, hts⟩ (c_X0_init l D cy H.size q_34 ) ⟨va_cnB 0 hts gX5_init_X0_init_n33 rfl rfl rfl (nw_get 11 rfl hkk.2) (hts _ lk_X5_init_iniX0) (by decide +kernel) ⟨Nat.le_of_ble_eq_true rfl, Nat.le_of_ble_eq_true rfl⟩, rfl, (hts _ lk_X5_init_imyX0_init)⟩ (pv_S hkk hPc hDc rfl) rfl rfl hl.1 rfl (lv_room (Nat.le_of_ble_eq_true rfl)) dX5_init_38 ⟨Nat.le_of_ble_eq_true rfl, Nat.le_of_ble_eq_true rfl⟩) hS (fun q _ h => hFc q h) hFc (fun u t H1 locs ht hvm hw hB hz1 hk1 hS => ?_)
  obtain ⟨h1_38, rfl⟩ : ∃ z, z = u := ⟨_, rfl⟩
  obtain ⟨hP1, hD1⟩ := hB
  rw [ht] at hP1
  try dsimp only at hw hP1 hD1
  obtain ⟨hP, hD⟩ := va_join (wr := [(h0, .inr (6, [.ref q_10, .ref q_22, .null, .long 0, .long 0])), (ra_5, .inr (3, [.int v1_5, .int v2_5, .int v3_5, .int v4_5, .int v5_5, .int v6_5])), (q_10, .inr (5, [.ref ra_5, .ref d0_15, .ref r0_15, .int 0, .int 0, .int 0, .int 0])), (d0_15, .inr (2, [.ref d1_15, .int 0])), (d1_15, .inl (cy 0, 70, .inl (fun _ => 0))), (r0_15, .inr (2, [.ref r1_15, .int 0])), (r1_15, .inl (cy 0, 70, .inl (fun _ => 0))), (q_22, .inr (4, [.ref ra_5, .ref r0_27, .int 0, .int (-1)])), (r0_27, .inr (2, [.ref r1_27, .int 0])), (r1_27, .inl (cy 0, 70, .inl (fun _ => 0)))]) (w1 := [(q_34, .inr (1, [.ref h1_38, .int 0, .int 0, .int 0, .int 0])), (h1_38, .inl (cy 1, 10, .inl (fun _ => 0)))]) hP hD [10] [0, 1, 2, 3, 4, 5, 6, 7, 8, 9] rfl rfl (by decide) (by decide) hk1 hFc hP1 hD1
  clear hPc hDc hFc hP1 hD1 hz1 hk1
  generalize H1 = H at hP hS ⊢
  have hP : va_P D vwCl [(h0, .inr (6, [.ref q_10, .ref q_22, .null, .long 0, .long 0])), (ra_5, .inr (3, [.int v1_5, .int v2_5, .int v3_5, .int v4_5, .int v5_5, .int v6_5])), (q_10, .inr (5, [.ref ra_5, .ref d0_15, .ref r0_15, .int 0, .int 0, .int 0, .int 0])), (d0_15, .inr (2, [.ref d1_15, .int 0])), (d1_15, .inl (cy 0, 70, .inl (fun _ => 0))), (r0_15, .inr (2, [.ref r1_15, .int 0])), (r1_15, .inl (cy 0, 70, .inl (fun _ => 0))), (q_22, .inr (4, [.ref ra_5, .ref r0_27, .int 0, .int (-1)])), (r0_27, .inr (2, [.ref r1_27, .int 0])), (r1_27, .inl (cy 0, 70, .inl (fun _ => 0))), (q_34, .inr (1, [.ref h1_38, .int 0, .int 0, .int 0, .int 0])), (h1_38, .inl (cy 1, 10, .inl (fun _ => 0)))] H := hP
  have hD : va_D A [(h0, .inr (6, [.ref q_10, .ref q_22, .null, .long 0, .long 0])), (ra_5, .inr (3, [.int v1_5, .int v2_5, .int v3_5, .int v4_5, .int v5_5, .int v6_5])), (q_10, .inr (5, [.ref ra_5, .ref d0_15, .ref r0_15, .int 0, .int 0, .int 0, .int 0])), (d0_15, .inr (2, [.ref d1_15, .int 0])), (d1_15, .inl (cy 0, 70, .inl (fun _ => 0))), (r0_15, .inr (2, [.ref r1_15, .int 0])), (r1_15, .inl (cy 0, 70, .inl (fun _ => 0))), (q_22, .inr (4, [.ref ra_5, .ref r0_27, .int 0, .int (-1)])), (r0_27, .inr (2, [.ref r1_27, .int 0])), (r1_27, .inl (cy 0, 70, .inl (fun _ => 0))), (q_34, .inr (1, [.ref h1_38, .int 0, .int 0, .int 0, .int 0])), (h1_38, .inl (cy 1, 10, .inl (fun _ => 0)))] := hD
  refine W.widen (k := 11) (n := 248) (by decide) (by decide) ?_
  have hw_38 := hw
  refine va_putF (D := D) (ci := 6) (v := .ref q_34) (ty := (.object "DataGuards$History")) (C := RX5) (T := TX5) (N := 5) hx hb hts iw_X5_init_X5 tyX5 tyX5_ok nmX5 hown hK hP hD hS 0 rfl rfl 2 (by decide) (hts _ lk_X5_init_f34) (fun _ h9 => h9) rfl hin rfl (by decide +kernel) rfl rfl (Nat.le_of_ble_eq_true rfl) dX5_init_41 (fun H locs hP hD hS => ?_)
  have hP : va_P D vwCl [(h0, .inr (6, [.ref q_10, .ref q_22, .ref q_34, .long 0, .long 0])), (ra_5, .inr (3, [.int v1_5, .int v2_5, .int v3_5, .int v4_5, .int v5_5, .int v6_5])), (q_10, .inr (5, [.ref ra_5, .ref d0_15, .ref r0_15, .int 0, .int 0, .int 0, .int 0])), (d0_15, .inr (2, [.ref d1_15, .int 0])), (d1_15, .inl (cy 0, 70, .inl (fun _ => 0))), (r0_15, .inr (2, [.ref r1_15, .int 0])), (r1_15, .inl (cy 0, 70, .inl (fun _ => 0))), (q_22, .inr (4, [.ref ra_5, .ref r0_27, .int 0, .int (-1)])), (r0_27, .inr (2, [.ref r1_27, .int 0])), (r1_27, .inl (cy 0, 70, .inl (fun _ => 0))), (q_34, .inr (1, [.ref h1_38, .int 0, .int 0, .int 0, .int 0])), (h1_38, .inl (cy 1, 10, .inl (fun _ => 0)))] H := hP
  have hD : va_D A [(h0, .inr (6, [.ref q_10, .ref q_22, .ref q_34, .long 0, .long 0])), (ra_5, .inr (3, [.int v1_5, .int v2_5, .int v3_5, .int v4_5, .int v5_5, .int v6_5])), (q_10, .inr (5, [.ref ra_5, .ref d0_15, .ref r0_15, .int 0, .int 0, .int 0, .int 0])), (d0_15, .inr (2, [.ref d1_15, .int 0])), (d1_15, .inl (cy 0, 70, .inl (fun _ => 0))), (r0_15, .inr (2, [.ref r1_15, .int 0])), (r1_15, .inl (cy 0, 70, .inl (fun _ => 0))), (q_22, .inr (4, [.ref ra_5, .ref r0_27, .int 0, .int (-1)])), (r0_27, .inr (2, [.ref r1_27, .int 0])), (r1_27, .inl (cy 0, 70, .inl (fun _ => 0))), (q_34, .inr (1, [.ref h1_38, .int 0, .int 0, .int 0, .int 0])), (h1_38, .inl (cy 1, 10, .inl (fun _ => 0)))] := hD
  have hP9 := hP.sub (ws' := [(h0, .inr (6, [.ref q_10, .ref q_22, .ref q_34, .long 0, .long 0])), (q_10, .inr (5, [.ref ra_5, .ref d0_15, .ref r0_15, .int 0, .int 0, .int 0, .int 0])), (ra_5, .inr (3, [.int v1_5, .int v2_5, .int v3_5, .int v4_5, .int v5_5, .int v6_5])), (d0_15, .inr (2, [.ref d1_15, .int 0])), (d1_15, .inl (cy 0, 70, .inl (fun _ => 0))), (r0_15, .inr (2, [.ref r1_15, .int 0])), (r1_15, .inl (cy 0, 70, .inl (fun _ => 0))), (q_22, .inr (4, [.ref ra_5, .ref r0_27, .int 0, .int (-1)])), (r0_27, .inr (2, [.ref r1_27, .int 0])), (r1_27, .inl (cy 0, 70, .inl (fun _ => 0))), (q_34, .inr (1, [.ref h1_38, .int 0, .int 0, .int 0, .int 0])), (h1_38, .inl (cy 1, 10, .inl (fun _ => 0)))]) [0, 2, 1, 3, 4, 5, 6, 7, 8, 9, 10, 11] rfl
  have hD9 := hD.sub (ws' := [(h0, .inr (6, [.ref q_10, .ref q_22, .ref q_34, .long 0, .long 0])), (q_10, .inr (5, [.ref ra_5, .ref d0_15, .ref r0_15, .int 0, .int 0, .int 0, .int 0])), (ra_5, .inr (3, [.int v1_5, .int v2_5, .int v3_5, .int v4_5, .int v5_5, .int v6_5])), (d0_15, .inr (2, [.ref d1_15, .int 0])), (d1_15, .inl (cy 0, 70, .inl (fun _ => 0))), (r0_15, .inr (2, [.ref r1_15, .int 0])), (r1_15, .inl (cy 0, 70, .inl (fun _ => 0))), (q_22, .inr (4, [.ref ra_5, .ref r0_27, .int 0, .int (-1)])), (r0_27, .inr (2, [.ref r1_27, .int 0])), (r1_27, .inl (cy 0, 70, .inl (fun _ => 0))), (q_34, .inr (1, [.ref h1_38, .int 0, .int 0, .int 0, .int 0])), (h1_38, .inl (cy 1, 10, .inl (fun _ => 0)))]) [0, 2, 1, 3, 4, 5, 6, 7, 8, 9, 10, 11] (by decide) rfl
  exact W.vret hx hb hr (fun t ht hW => ⟨⟨(q_10, q_22, q_34, ra_5, d0_15, d1_15, r0_15, r1_15, r0_27, r1_27, h1_38, v1_5, v2_5, v3_5, v4_5, v5_5, v6_5), rfl, hw_5, by rw [ht]; exact hP9, hD9⟩, hS.F ht⟩) hS.2.2 dX5_init_44
