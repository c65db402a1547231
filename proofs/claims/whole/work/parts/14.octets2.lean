theorem lk_X1_init_m3 : (.methodLink RX1 3 objectInit : Cond) ∈ wsX1_init := by decide +kernel
theorem lk_X1_init_oi : (.instanceMethod objectInit : Cond) ∈ wsX1_init := by decide +kernel
theorem lk_X1_init_oc : (.code objectInit ⟨#[0xb1]⟩ 1 none : Cond) ∈ wsX1_init := by decide +kernel
theorem lk_X1_init_abyte : (.arrayClass .byte : Cond) ∈ wsX1_init := by decide +kernel
theorem iw_X1_init_X1 : ∀ w ∈ wsX10, w ∈ wsX1_init := by decide +kernel
theorem lk_X1_init_f9 : (.fieldLink RX1 9 "DataGuards$Octets" "places" "[B" : Cond) ∈ wsX1_init := by decide +kernel
set_option maxHeartbeats 4000000 in
set_option maxRecDepth 100000 in
/-- new Octets() -/
theorem c_X1_init (l : Launch) (D : va_G) (cy : Nat → ClassId) (sz : Nat) (h0 : Nat)  : Met l yX1_init wsX1_init ({ frames := 1, cells := 1, slots := 70, locals := 20 } : Room) (pre1 D cy [.ref h0] [(h0, .inr (2, [.null, .int 0]))] sz) (va_Qv (fun (u : (Nat)) => True) (fun u t => va_P D vwCl [(h0, .inr (2, [.ref u, .int 0])), (u, .inl (cy 0, 70, .inl (fun _ => 0)))] t.heap ∧ va_D (va_A [(h0, .inr (2, [.null, .int 0]))] sz) [(h0, .inr (2, [.ref u, .int 0])), (u, .inl (cy 0, 70, .inl (fun _ => 0)))]) (va_A [(h0, .inr (2, [.null, .int 0]))] sz)) 1 70 (va_A [(h0, .inr (2, [.null, .int 0]))] sz) := by
  refine Met.ofW (cc := cX1_init) (maxL := 1) (ret := none) (by decide) rfl ?_
  intro p e s m args below meth c s₁ B hml hv
  obtain ⟨rfl, hsz, hP, hkk, hD0⟩ := hv
  have hx := B.exec
  have hb := B.bytes
  have hr := B.returns
  have hts := atoms_spec (ws := wsX1_init) B.pre
  have hown : s.vm.findClass RX1 = some m.cls := findClass_of_methodNamed B.named
  have hlocks := B.notSynchronized
  have hin : meth.name = _ := (name_of_methodNamed B.named B.method).1
  have hK := hkk.1
  subst hsz
  have hD := hD0.self (sz := s.heap.size)
  generalize hAe : va_A [(h0, .inr (2, [.null, .int 0]))] s.heap.size = A at hD ⊢
  have hA : ∀ q : Nat, s.heap.size ≤ q → A q := fun q h => by rw [← hAe]; exact Or.inr h
  have hS : va_S A s.heap s.heap [] := va_S.rf
  have hP : va_P D vwCl [(h0, .inr (2, [.null, .int 0]))] s.heap := hP
  have hl := lv_entry ([.ref h0]) (n := 1) (Nat.le_of_ble_eq_true rfl)
  rw [lg_entry_eq]
  generalize (lg_sl ([.ref h0]) ++ List.replicate (1 - (lg_sl ([.ref h0])).length) Slot.unset).toArray = ls at hl ⊢
  have hl : lv_has ls 1 [(0, .ref h0)] := hl
  refine lv_aload_n hx hb dX1_init_0 rfl (lv_at hl 0 rfl) ?_
  refine W.objInit hx hb hown (hts _ lk_X1_init_m3) (hts _ lk_X1_init_oi) (hts _ lk_X1_init_oc) rfl (by rw [hml]; exact hl.1) rfl dX1_init_1 (Nat.le_of_ble_eq_true rfl) (Nat.le_of_ble_eq_true rfl) ?_
  refine W.eq (g2 := F0 m 4 ls []) rfl ?_
  refine lv_aload_n hx hb dX1_init_4 rfl (lv_at hl 0 rfl) ?_
  refine lv_bipush (v := 70) hx hb dX1_init_5 (by decide) ?_
  refine va_newa (atype := .byte) (a0 := (70, .inl (fun _ => 0))) (N' := 70) (ty := .byte) hx hb (hts _ lk_X1_init_abyte) rfl hK hP hD hS hA (fun _ => rfl) (by decide) (by decide) (by decide) (Nat.le_of_ble_eq_true rfl) (Nat.le_of_ble_eq_true rfl) dX1_init_7 (fun q_7 cA_7 H hK2 hP hD hS => ?_)
  obtain rfl : cA_7 = cy 0 := kk_same hK2 0 4 rfl rfl (fun _ h => by cases h)
  have hP : va_P D vwCl [(h0, .inr (2, [.null, .int 0])), (q_7, .inl (cy 0, 70, .inl (fun _ => 0)))] H := hP
  have hD : va_D A [(h0, .inr (2, [.null, .int 0])), (q_7, .inl (cy 0, 70, .inl (fun _ => 0)))] := hD
  refine W.widen (k := 1) (n := 70) (by decide) (by decide) ?_
  refine va_putF (D := D) (ci := 2) (v := .ref q_7) (ty := (.array .byte)) (C := RX1) (T := TX1) (N := 2) hx hb hts iw_X1_init_X1 tyX1 tyX1_ok nmX1 hown hK hP hD hS 0 rfl rfl 0 (by decide) (hts _ lk_X1_init_f9) (fun _ h9 => h9) rfl hin rfl (by decide +kernel) rfl rfl (Nat.le_of_ble_eq_true rfl) dX1_init_9 (fun H locs hP hD hS => ?_)
  have hP : va_P D vwCl [(h0, .inr (2, [.ref q_7, .int 0])), (q_7, .inl (cy 0, 70, .inl (fun _ => 0)))] H := hP
  have hD : va_D A [(h0, .inr (2, [.ref q_7, .int 0])), (q_7, .inl (cy 0, 70, .inl (fun _ => 0)))] := hD
  have hP9 := hP.sub (ws' := [(h0, .inr (2, [.ref q_7, .int 0])), (q_7, .inl (cy 0, 70, .inl (fun _ => 0)))]) [0, 1] rfl
  have hD9 := hD.sub (ws' := [(h0, .inr (2, [.ref q_7, .int 0])), (q_7, .inl (cy 0, 70, .inl (fun _ => 0)))]) [0, 1] (by decide) rfl
  exact W.vret hx hb hr (fun t ht hW => ⟨⟨q_7, rfl, trivial, by rw [ht]; exact hP9, hD9⟩, hS.F ht⟩) hS.2.2 dX1_init_12

theorem iw_X1_addAll_X1 : ∀ w ∈ wsX10, w ∈ wsX1_addAll := by decide +kernel
theorem lk_X1_addAll_f15 : (.fieldLink RX1 15 "DataGuards$Octets" "length" "I" : Cond) ∈ wsX1_addAll := by decide +kernel
set_option maxHeartbeats 4000000 in
set_option maxRecDepth 100000 in
/-- Octets.addAll(others) -/
theorem c_X1_addAll (l : Launch) (D : va_G) (cy : Nat → ClassId) (sz : Nat) (h0 : Nat) (h1 : Nat) (f : Nat → Int32) (n : Nat) (g0 : Nat) (g1 : Nat) (g : Nat → Int32) (w : Nat) (hn : n + w ≤ 70) : Met l yX1_addAll wsX1_addAll ({ frames := 2, cells := 0, slots := 0, locals := 42 } : Room) (pre1 D cy [.ref h0, .ref g0] [(h0, .inr (2, [.ref h1, .int (nI n)])), (h1, .inl (cy 0, 70, .inl f)), (g0, .inr (2, [.ref g1, .int (nI w)])), (g1, .inl (cy 0, 70, .inl g))] sz) (va_Qv (fun (u : (Nat → Int32)) => (∀ j, j < n → u j = f j) ∧ (∀ j, j < w → u (n + j) = (oc_get g w (nI j)).toInt8.toInt32)) (fun u t => va_P D vwCl [(h0, .inr (2, [.ref h1, .int (nI (n + w))])), (h1, .inl (cy 0, 70, .inl u)), (g0, .inr (2, [.ref g1, .int (nI w)])), (g1, .inl (cy 0, 70, .inl g))] t.heap ∧ va_D (va_A [(h0, .inr (2, [.ref h1, .int (nI n)])), (h1, .inl (cy 0, 70, .inl f)), (g0, .inr (2, [.ref g1, .int (nI w)])), (g1, .inl (cy 0, 70, .inl g))] sz) [(h0, .inr (2, [.ref h1, .int (nI (n + w))])), (h1, .inl (cy 0, 70, .inl u)), (g0, .inr (2, [.ref g1, .int (nI w)])), (g1, .inl (cy 0, 70, .inl g))]) (va_A [(h0, .inr (2, [.ref h1, .int (nI n)])), (h1, .inl (cy 0, 70, .inl f)), (g0, .inr (2, [.ref g1, .int (nI w)])), (g1, .inl (cy 0, 70, .inl g))] sz)) 0 0 (va_A [(h0, .inr (2, [.ref h1, .int (nI n)])), (h1, .inl (cy 0, 70, .inl f)), (g0, .inr (2, [.ref g1, .int (nI w)])), (g1, .inl (cy 0, 70, .inl g))] sz) := by
  refine Met.ofW (cc := cX1_addAll) (maxL := 4) (ret := none) (by decide) rfl ?_
  intro p e s m args below meth c s₁ B hml hv
  obtain ⟨rfl, hsz, hP, hkk, hD0⟩ := hv
  have hx := B.exec
  have hb := B.bytes
  have hr := B.returns
  have hts := atoms_spec (ws := wsX1_addAll) B.pre
  have hown : s.vm.findClass RX1 = some m.cls := findClass_of_methodNamed B.named
  have hlocks := B.notSynchronized
  have hin : meth.name = _ := (name_of_methodNamed B.named B.method).1
  have hK := hkk.1
  subst hsz
  have hD := hD0.self (sz := s.heap.size)
  generalize hAe : va_A [(h0, .inr (2, [.ref h1, .int (nI n)])), (h1, .inl (cy 0, 70, .inl f)), (g0, .inr (2, [.ref g1, .int (nI w)])), (g1, .inl (cy 0, 70, .inl g))] s.heap.size = A at hD ⊢
  have hA : ∀ q : Nat, s.heap.size ≤ q → A q := fun q h => by rw [← hAe]; exact Or.inr h
  have hS : va_S A s.heap s.heap [] := va_S.rf
  have hP : va_P D vwCl [(h0, .inr (2, [.ref h1, .int (nI n)])), (h1, .inl (cy 0, 70, .inl f)), (g0, .inr (2, [.ref g1, .int (nI w)])), (g1, .inl (cy 0, 70, .inl g))] s.heap := hP
  have hl := lv_entry ([.ref h0, .ref g0]) (n := 4) (Nat.le_of_ble_eq_true rfl)
  rw [lg_entry_eq]
  generalize (lg_sl ([.ref h0, .ref g0]) ++ List.replicate (4 - (lg_sl ([.ref h0, .ref g0])).length) Slot.unset).toArray = ls at hl ⊢
  have hl : lv_has ls 4 [(0, .ref h0), (1, .ref g0)] := hl
  refine lv_aload_n hx hb dX1_addAll_0 rfl (lv_at hl 1 rfl) ?_
  refine va_get (D := D) (ci := 2) (v := .int (nI w)) (C := RX1) (T := TX1) (N := 2) hx hb hts iw_X1_addAll_X1 hown hK hP 2 rfl rfl 1 (by decide) (hts _ lk_X1_addAll_f15) (fun _ h9 => h9) rfl dX1_addAll_1 ?_
  refine lv_istore_n (lv' := [(2, .int (nI w)), (0, .ref h0), (1, .ref g0)]) hx hb dX1_addAll_4 rfl hl (by decide) rfl (fun ls hl => ?_)
  refine lv_iconst (v := 0) hx hb dX1_addAll_5 (by decide) ?_
  refine lv_topi (fun x_5 ex_5 => ?_)
  obtain rfl : x_5 = nI 0 := by rw [ex_5]; exact nI_0.symm
  refine lv_istore_n (lv' := [(3, .int (nI 0)), (2, .int (nI w)), (0, .ref h0), (1, .ref g0)]) hx hb dX1_addAll_6 rfl hl (by decide) rfl (fun ls hl => ?_)
  have cut_7 : ∀ (N : Nat) (k : Nat) (f1 : Nat → Int32) (H : Heap) (locs : List Loc), w - k < N → k ≤ w → (∀ j, j < n → f1 j = f j) → (∀ j, j < k → f1 (n + j) = (oc_get g w (nI j)).toInt8.toInt32) → va_P D vwCl [(h0, .inr (2, [.ref h1, .int (nI (n + k))])), (h1, .inl (cy 0, 70, .inl f1)), (g0, .inr (2, [.ref g1, .int (nI w)])), (g1, .inl (cy 0, 70, .inl g))] H → va_D A [(h0, .inr (2, [.ref h1, .int (nI (n + k))])), (h1, .inl (cy 0, 70, .inl f1)), (g0, .inr (2, [.ref g1, .int (nI w)])), (g1, .inl (cy 0, 70, .inl g))] → va_S A s.heap H locs → ∀ (ls : Array Slot), lv_has ls 4 [(0, .ref h0), (1, .ref g0), (2, .int (nI w)), (3, .int (nI k))] → W p l e (headSpec wsX1_addAll ({ frames := 2, cells := 0, slots := 0, locals := 42 } : Room)).room s m [.ref h0, .ref g0].toArray below meth c H locs 0 0 (MQ below (va_Qv (fun (u : (Nat → Int32)) => (∀ j, j < n → u j = f j) ∧ (∀ j, j < w → u (n + j) = (oc_get g w (nI j)).toInt8.toInt32)) (fun u t => va_P D vwCl [(h0, .inr (2, [.ref h1, .int (nI (n + w))])), (h1, .inl (cy 0, 70, .inl u)), (g0, .inr (2, [.ref g1, .int (nI w)])), (g1, .inl (cy 0, 70, .inl g))] t.heap ∧ va_D A [(h0, .inr (2, [.ref h1, .int (nI (n + w))])), (h1, .inl (cy 0, 70, .inl u)), (g0, .inr (2, [.ref g1, .int (nI w)])), (g1, .inl (cy 0, 70, .inl g))]) A) [.ref h0, .ref g0].toArray s 0 0 A) (F0 m 7 ls []) := by
    intro N
    induction N with
    | zero => intro k f1 H locs hN; exact absurd hN (Nat.not_lt_zero _)
    | succ N ih =>
      intro k f1 H locs hN hk ha hb2 hP hD hS ls hl
      refine lv_iload_n hx hb dX1_addAll_7 rfl (lv_at hl 3 rfl) ?_
      refine lv_iload_n hx hb dX1_addAll_8 rfl (lv_at hl 2 rfl) ?_
      refine lv_icmp_ge (tgt := 28) hx hb dX1_addAll_9 (by decide) (fun c_9 => ?_) (fun c_9 => ?_)
      · obtain rfl : w = k := Nat.le_antisymm ((oc_ltN (by omega) (by omega)).mp c_9) hk
        have hP9 := hP.sub (ws' := [(h0, .inr (2, [.ref h1, .int (nI (n + w))])), (h1, .inl (cy 0, 70, .inl f1)), (g0, .inr (2, [.ref g1, .int (nI w)])), (g1, .inl (cy 0, 70, .inl g))]) [0, 1, 2, 3] rfl
        have hD9 := hD.sub (ws' := [(h0, .inr (2, [.ref h1, .int (nI (n + w))])), (h1, .inl (cy 0, 70, .inl f1)), (g0, .inr (2, [.ref g1, .int (nI w)])), (g1, .inl (cy 0, 70, .inl g))]) [0, 1, 2, 3] (by decide) rfl
        exact W.vret hx hb hr (fun t ht hW => ⟨⟨f1, rfl, ⟨ha, hb2⟩, by rw [ht]; exact hP9, hD9⟩, hS.F ht⟩) hS.2.2 dX1_addAll_28
      · have hkm : k < w := Nat.not_le.mp fun q => c_9 ((oc_ltN (by omega) (by omega)).mpr q)
        refine lv_aload_n hx hb dX1_addAll_12 rfl (lv_at hl 0 rfl) ?_
        refine lv_aload_n hx hb dX1_addAll_13 rfl (lv_at hl 1 rfl) ?_
        refine lv_iload_n hx hb dX1_addAll_14 rfl (lv_at hl 3 rfl) ?_
        have hPc := hP.sub (ws' := [(g0, .inr (2, [.ref g1, .int (nI w)])), (g1, .inl (cy 0, 70, .inl g))]) [2, 3] rfl
        have hDc := hD.sub (ws' := [(g0, .inr (2, [.ref g1, .int (nI w)])), (g1, .inl (cy 0, 70, .inl g))]) [2, 3] (by decide) rfl
        have hFc := va_free (wc := [(g0, .inr (2, [.ref g1, .int (nI w)])), (g1, .inl (cy 0, 70, .inl g))]) hD hS hA [2, 3] rfl
        refine va_calli (va_runV (As := [.int (nI k)]) (rest := [.ref h0]) ⟨hx, hb, hml, hown, hts⟩ (c_X1_get l D cy H.size g0 g1 g w (nI k) (by omega)) (cwV 1 hts gX1_addAll_X1_get rfl rfl rfl (by decide +kernel) ⟨Nat.le_of_ble_eq_true rfl, Nat.le_of_ble_eq_true rfl⟩) (pv_V (ci := 2) (q := (RX1, TX1, 2)) hkk hPc hDc rfl rfl rfl) rfl rfl hl.1 rfl (lv_room (Nat.le_of_ble_eq_true rfl)) dX1_addAll_15 ⟨Nat.le_of_ble_eq_true rfl, Nat.le_of_ble_eq_true rfl⟩) hS (fun q _ h => hFc q h) hFc (fun r_15 u t H1 locs ht hvm hw hB hz1 hk1 hS => ?_)
        obtain ⟨hP1, hD1⟩ := hB
        rw [ht] at hP1
        try dsimp only at hw hP1 hD1
        obtain ⟨hP, hD⟩ := va_join (wr := [(h0, .inr (2, [.ref h1, .int (nI (n + k))])), (h1, .inl (cy 0, 70, .inl f1))]) (w1 := [(g0, .inr (2, [.ref g1, .int (nI w)])), (g1, .inl (cy 0, 70, .inl g))]) hP hD [2, 3] [0, 1] rfl rfl (by decide) (by decide) hk1 hFc hP1 hD1
        clear hPc hDc hFc hP1 hD1 hz1 hk1
        generalize H1 = H at hP hS ⊢
        have hP : va_P D vwCl [(h0, .inr (2, [.ref h1, .int (nI (n + k))])), (h1, .inl (cy 0, 70, .inl f1)), (g0, .inr (2, [.ref g1, .int (nI w)])), (g1, .inl (cy 0, 70, .inl g))] H := hP
        have hD : va_D A [(h0, .inr (2, [.ref h1, .int (nI (n + k))])), (h1, .inl (cy 0, 70, .inl f1)), (g0, .inr (2, [.ref g1, .int (nI w)])), (g1, .inl (cy 0, 70, .inl g))] := hD
        obtain rfl := hw
        have hPc := hP.sub (ws' := [(h0, .inr (2, [.ref h1, .int (nI (n + k))])), (h1, .inl (cy 0, 70, .inl f1))]) [0, 1] rfl
        have hDc := hD.sub (ws' := [(h0, .inr (2, [.ref h1, .int (nI (n + k))])), (h1, .inl (cy 0, 70, .inl f1))]) [0, 1] (by decide) rfl
        have hFc := va_free (wc := [(h0, .inr (2, [.ref h1, .int (nI (n + k))])), (h1, .inl (cy 0, 70, .inl f1))]) hD hS hA [0, 1] rfl
        refine va_calli (va_runV (As := [.int (oc_get g w (nI k))]) (rest := []) ⟨hx, hb, hml, hown, hts⟩ (c_X1_add l D cy H.size h0 h1 f1 (n + k) (oc_get g w (nI k)) (by omega)) (cwV 1 hts gX1_addAll_X1_add rfl rfl rfl (by decide +kernel) ⟨Nat.le_of_ble_eq_true rfl, Nat.le_of_ble_eq_true rfl⟩) (pv_V (ci := 2) (q := (RX1, TX1, 2)) hkk hPc hDc rfl rfl rfl) rfl rfl hl.1 rfl (lv_room (Nat.le_of_ble_eq_true rfl)) dX1_addAll_18 ⟨Nat.le_of_ble_eq_true rfl, Nat.le_of_ble_eq_true rfl⟩) hS (fun q _ h => hFc q h) hFc (fun r_18 u t H1 locs ht hvm hw hB hz1 hk1 hS => ?_)
        obtain ⟨f2_18, n2_18⟩ := u
        obtain ⟨hP1, hD1⟩ := hB
        rw [ht] at hP1
        try dsimp only at hw hP1 hD1
        obtain ⟨hP, hD⟩ := va_join (wr := [(g0, .inr (2, [.ref g1, .int (nI w)])), (g1, .inl (cy 0, 70, .inl g))]) (w1 := [(h0, .inr (2, [.ref h1, .int (nI n2_18)])), (h1, .inl (cy 0, 70, .inl f2_18))]) hP hD [0, 1] [2, 3] rfl rfl (by decide) (by decide) hk1 hFc hP1 hD1
        clear hPc hDc hFc hP1 hD1 hz1 hk1
        generalize H1 = H at hP hS ⊢
        have hP : va_P D vwCl [(g0, .inr (2, [.ref g1, .int (nI w)])), (g1, .inl (cy 0, 70, .inl g)), (h0, .inr (2, [.ref h1, .int (nI n2_18)])), (h1, .inl (cy 0, 70, .inl f2_18))] H := hP
        have hD : va_D A [(g0, .inr (2, [.ref g1, .int (nI w)])), (g1, .inl (cy 0, 70, .inl g)), (h0, .inr (2, [.ref h1, .int (nI n2_18)])), (h1, .inl (cy 0, 70, .inl f2_18))] := hD
        have hw_18 := hw
        obtain ⟨rfl, rfl, rfl⟩ := oc_add_lt hw_18 (by omega)
        refine lv_pop hx hb dX1_addAll_21 rfl ?_
        refine lv_iinc (v := nI (k + 1)) (lv' := [(3, .int (nI (k + 1))), (0, .ref h0), (1, .ref g0), (2, .int (nI w))]) hx hb dX1_addAll_22 hl (k := 3) rfl (nI_1 k) (by decide) rfl (fun ls hl => ?_)
        refine lv_goto (tgt := 7) hx hb dX1_addAll_25 (by decide) ?_
        exact ih (k + 1) (upd f1 (n + k) (oc_get g w (nI k)).toInt8.toInt32) _ _ (by omega) (by omega) (fun j hj => (pk_un (by omega)).trans (ha j hj)) (oc_aa_step (f := f) hb2) (hP.sub (ws' := [(h0, .inr (2, [.ref h1, .int (nI (n + (k + 1)))])), (h1, .inl (cy 0, 70, .inl (upd f1 (n + k) (oc_get g w (nI k)).toInt8.toInt32))), (g0, .inr (2, [.ref g1, .int (nI w)])), (g1, .inl (cy 0, 70, .inl g))]) [2, 3, 0, 1] rfl) (hD.sub (ws' := [(h0, .inr (2, [.ref h1, .int (nI (n + (k + 1)))])), (h1, .inl (cy 0, 70, .inl (upd f1 (n + k) (oc_get g w (nI k)).toInt8.toInt32))), (g0, .inr (2, [.ref g1, .int (nI w)])), (g1, .inl (cy 0, 70, .inl g))]) [2, 3, 0, 1] (by decide) rfl) hS _ (lv_sub hl [1, 2, 3, 0] rfl)
  exact cut_7 _ 0 f _ _ (Nat.lt_succ_self _) (Nat.zero_le _) (fun _ _ => rfl) (fun j hj => absurd hj (Nat.not_lt_zero j)) hP hD hS _ (lv_sub hl [2, 3, 1, 0] rfl)


set_option maxHeartbeats 4000000 in
set_option maxRecDepth 100000 in
/-- Octets.addNumber(number, octets) -/
theorem c_X1_addNumber (l : Launch) (D : va_G) (cy : Nat → ClassId) (sz : Nat) (h0 : Nat) (h1 : Nat) (f : Nat → Int32) (n : Nat) (x : Int32) (w : Nat) (hm : w ≤ 8) (hn : n + w ≤ 70) : Met l yX1_addNumber wsX1_addNumber ({ frames := 1, cells := 0, slots := 0, locals := 21 } : Room) (pre1 D cy [.ref h0, .int x, .int (nI w)] [(h0, .inr (2, [.ref h1, .int (nI n)])), (h1, .inl (cy 0, 70, .inl f))] sz) (va_Qv (fun (u : (Nat → Int32)) => (∀ j, j < n → u j = f j) ∧ (∀ j, j < w → u (n + j) = (oc_dig x (w - 1 - j)).toInt8.toInt32)) (fun u t => va_P D vwCl [(h0, .inr (2, [.ref h1, .int (nI (n + w))])), (h1, .inl (cy 0, 70, .inl u))] t.heap ∧ va_D (va_A [(h0, .inr (2, [.ref h1, .int (nI n)])), (h1, .inl (cy 0, 70, .inl f))] sz) [(h0, .inr (2, [.ref h1, .int (nI (n + w))])), (h1, .inl (cy 0, 70, .inl u))]) (va_A [(h0, .inr (2, [.ref h1, .int (nI n)])), (h1, .inl (cy 0, 70, .inl f))] sz)) 0 0 (va_A [(h0, .inr (2, [.ref h1, .int (nI n)])), (h1, .inl (cy 0, 70, .inl f))] sz) := by
  refine Met.ofW (cc := cX1_addNumber) (maxL := 4) (ret := none) (by decide) rfl ?_
  intro p e s m args below meth c s₁ B hml hv
  obtain ⟨rfl, hsz, hP, hkk, hD0⟩ := hv
  have hx := B.exec
  have hb := B.bytes
  have hr := B.returns
  have hts := atoms_spec (ws := wsX1_addNumber) B.pre
  have hown : s.vm.findClass RX1 = some m.cls := findClass_of_methodNamed B.named
  have hlocks := B.notSynchronized
  have hin : meth.name = _ := (name_of_methodNamed B.named B.method).1
  have hK := hkk.1
  subst hsz
  have hD := hD0.self (sz := s.heap.size)
  generalize hAe : va_A [(h0, .inr (2, [.ref h1, .int (nI n)])), (h1, .inl (cy 0, 70, .inl f))] s.heap.size = A at hD ⊢
  have hA : ∀ q : Nat, s.heap.size ≤ q → A q := fun q h => by rw [← hAe]; exact Or.inr h
  have hS : va_S A s.heap s.heap [] := va_S.rf
  have hP : va_P D vwCl [(h0, .inr (2, [.ref h1, .int (nI n)])), (h1, .inl (cy 0, 70, .inl f))] s.heap := hP
  have hl := lv_entry ([.ref h0, .int x, .int (nI w)]) (n := 4) (Nat.le_of_ble_eq_true rfl)
  rw [lg_entry_eq]
  generalize (lg_sl ([.ref h0, .int x, .int (nI w)]) ++ List.replicate (4 - (lg_sl ([.ref h0, .int x, .int (nI w)])).length) Slot.unset).toArray = ls at hl ⊢
  have hl : lv_has ls 4 [(0, .ref h0), (1, .int x), (2, .int (nI w))] := hl
  refine lv_iload_n hx hb dX1_addNumber_0 rfl (lv_at hl 2 rfl) ?_
  refine lv_iconst (v := 1) hx hb dX1_addNumber_1 (by decide) ?_
  refine lv_isub hx hb dX1_addNumber_2 ?_
  refine lv_istore_n (lv' := [(3, .int ((nI w) - 1)), (0, .ref h0), (1, .int x), (2, .int (nI w))]) hx hb dX1_addNumber_3 rfl hl (by decide) rfl (fun ls hl => ?_)
  have cut_4 : ∀ (N : Nat) (q : Nat) (k : Nat) (f1 : Nat → Int32) (H : Heap) (locs : List Loc), q < N → q + k = w → (∀ j, j < n → f1 j = f j) → (∀ j, j < k → f1 (n + j) = (oc_dig x (w - 1 - j)).toInt8.toInt32) → va_P D vwCl [(h0, .inr (2, [.ref h1, .int (nI (n + k))])), (h1, .inl (cy 0, 70, .inl f1))] H → va_D A [(h0, .inr (2, [.ref h1, .int (nI (n + k))])), (h1, .inl (cy 0, 70, .inl f1))] → va_S A s.heap H locs → ∀ (ls : Array Slot), lv_has ls 4 [(0, .ref h0), (1, .int x), (3, .int (nI q - 1))] → W p l e (headSpec wsX1_addNumber ({ frames := 1, cells := 0, slots := 0, locals := 21 } : Room)).room s m [.ref h0, .int x, .int (nI w)].toArray below meth c H locs 0 0 (MQ below (va_Qv (fun (u : (Nat → Int32)) => (∀ j, j < n → u j = f j) ∧ (∀ j, j < w → u (n + j) = (oc_dig x (w - 1 - j)).toInt8.toInt32)) (fun u t => va_P D vwCl [(h0, .inr (2, [.ref h1, .int (nI (n + w))])), (h1, .inl (cy 0, 70, .inl u))] t.heap ∧ va_D A [(h0, .inr (2, [.ref h1, .int (nI (n + w))])), (h1, .inl (cy 0, 70, .inl u))]) A) [.ref h0, .int x, .int (nI w)].toArray s 0 0 A) (F0 m 4 ls []) := by
    intro N
    induction N with
    | zero => intro q k f1 H locs hN; exact absurd hN (Nat.not_lt_zero _)
    | succ N ih =>
      intro q k f1 H locs hN hq ha hb2 hP hD hS ls hl
      refine lv_iload_n hx hb dX1_addNumber_4 rfl (lv_at hl 2 rfl) ?_
      refine lv_if_lt (tgt := 25) hx hb dX1_addNumber_5 (by decide) (fun c_5 => ?_) (fun c_5 => ?_)
      · have hq0 := oc_pred_neg (by omega) c_5
        obtain rfl : w = k := by omega
        have hP9 := hP.sub (ws' := [(h0, .inr (2, [.ref h1, .int (nI (n + w))])), (h1, .inl (cy 0, 70, .inl f1))]) [0, 1] rfl
        have hD9 := hD.sub (ws' := [(h0, .inr (2, [.ref h1, .int (nI (n + w))])), (h1, .inl (cy 0, 70, .inl f1))]) [0, 1] (by decide) rfl
        exact W.vret hx hb hr (fun t ht hW => ⟨⟨f1, rfl, ⟨ha, hb2⟩, by rw [ht]; exact hP9, hD9⟩, hS.F ht⟩) hS.2.2 dX1_addNumber_25
      · obtain ⟨z, rfl⟩ := oc_pred_ok c_5
        refine lv_aload_n hx hb dX1_addNumber_8 rfl (lv_at hl 0 rfl) ?_
        refine lv_iload_n hx hb dX1_addNumber_9 rfl (lv_at hl 1 rfl) ?_
        refine lv_bipush (v := 8) hx hb dX1_addNumber_10 (by decide) ?_
        refine lv_iload_n hx hb dX1_addNumber_12 rfl (lv_at hl 2 rfl) ?_
        refine lv_imul hx hb dX1_addNumber_13 ?_
        refine lv_topi (fun x_13 ex_13 => ?_)
        obtain rfl : x_13 = nI (8 * z) := by rw [ex_13]; exact oc_8 z
        refine lv_iushr (v := (x.toUInt32 >>> ((nI (8 * z)).toUInt32 &&& Int32.toUInt32 31)).toInt32) hx hb dX1_addNumber_14 rfl ?_
        refine lv_topi (fun x_14 ex_14 => ?_)
        obtain rfl : x_14 = oc_dig x z := by rw [ex_14]; rfl
        have hPc := hP.sub (ws' := [(h0, .inr (2, [.ref h1, .int (nI (n + k))])), (h1, .inl (cy 0, 70, .inl f1))]) [0, 1] rfl
        have hDc := hD.sub (ws' := [(h0, .inr (2, [.ref h1, .int (nI (n + k))])), (h1, .inl (cy 0, 70, .inl f1))]) [0, 1] (by decide) rfl
        have hFc := va_free (wc := [(h0, .inr (2, [.ref h1, .int (nI (n + k))])), (h1, .inl (cy 0, 70, .inl f1))]) hD hS hA [0, 1] rfl
        refine va_calli (va_runV (As := [.int (oc_dig x z)]) (rest := []) ⟨hx, hb, hml, hown, hts⟩ (c_X1_add l D cy H.size h0 h1 f1 (n + k) (oc_dig x z) (by omega)) (cwV 1 hts gX1_addNumber_X1_add rfl rfl rfl (by decide +kernel) ⟨Nat.le_of_ble_eq_true rfl, Nat.le_of_ble_eq_true rfl⟩) (pv_V (ci := 2) (q := (RX1, TX1, 2)) hkk hPc hDc rfl rfl rfl) rfl rfl hl.1 rfl (lv_room (Nat.le_of_ble_eq_true rfl)) dX1_addNumber_15 ⟨Nat.le_of_ble_eq_true rfl, Nat.le_of_ble_eq_true rfl⟩) hS (fun q _ h => hFc q h) hFc (fun r_15 u t H1 locs ht hvm hw hB hz1 hk1 hS => ?_)
        obtain ⟨f2_15, n2_15⟩ := u
        obtain ⟨hP1, hD1⟩ := hB
        rw [ht] at hP1
        try dsimp only at hw hP1 hD1
        obtain ⟨hP, hD⟩ := va_join (wr := []) (w1 := [(h0, .inr (2, [.ref h1, .int (nI n2_15)])), (h1, .inl (cy 0, 70, .inl f2_15))]) hP hD [0, 1] [] rfl rfl (by decide) (by decide) hk1 hFc hP1 hD1
        clear hPc hDc hFc hP1 hD1 hz1 hk1
        generalize H1 = H at hP hS ⊢
        have hP : va_P D vwCl [(h0, .inr (2, [.ref h1, .int (nI n2_15)])), (h1, .inl (cy 0, 70, .inl f2_15))] H := hP
        have hD : va_D A [(h0, .inr (2, [.ref h1, .int (nI n2_15)])), (h1, .inl (cy 0, 70, .inl f2_15))] := hD
        have hw_15 := hw
        obtain ⟨rfl, rfl, rfl⟩ := oc_add_lt hw_15 (by omega)
        refine lv_pop hx hb dX1_addNumber_18 rfl ?_
        refine lv_iinc (v := nI z - 1) (lv' := [(3, .int (nI z - 1)), (0, .ref h0), (1, .int x)]) hx hb dX1_addNumber_19 hl (k := 2) rfl (oc_pp z) (by decide) rfl (fun ls hl => ?_)
        refine lv_goto (tgt := 4) hx hb dX1_addNumber_22 (by decide) ?_
        exact ih z (k + 1) (upd f1 (n + k) (oc_dig x z).toInt8.toInt32) _ _ (by omega) (by omega) (fun j hj => (pk_un (by omega)).trans (ha j hj)) (oc_an_step (by omega) hb2) hP hD hS _ (lv_sub hl [1, 2, 0] rfl)
  exact cut_4 _ w 0 f _ _ (Nat.lt_succ_self _) (by omega) (fun _ _ => rfl) (fun j hj => absurd hj (Nat.not_lt_zero j)) hP hD hS _ (lv_sub hl [1, 2, 0] rfl)


set_option maxHeartbeats 4000000 in
set_option maxRecDepth 100000 in
/-- Octets.numberAt(place, octets) -/
theorem c_X1_numberAt (l : Launch) (D : va_G) (cy : Nat → ClassId) (sz : Nat) (h0 : Nat) (h1 : Nat) (f : Nat → Int32) (n : Nat) (i : Int32) (w : Nat) (hn : n ≤ 70) (hm : w ≤ 8) : Met l yX1_numberAt wsX1_numberAt ({ frames := 2, cells := 0, slots := 0, locals := 42 } : Room) (pre1 D cy [.ref h0, .int i, .int (nI w)] [(h0, .inr (2, [.ref h1, .int (nI n)])), (h1, .inl (cy 0, 70, .inl f))] sz) (va_Qi (fun (r : Int32) (u : Unit) => r = oc_num f n i w) (fun u t => va_P D vwCl [(h0, .inr (2, [.ref h1, .int (nI n)])), (h1, .inl (cy 0, 70, .inl f))] t.heap ∧ va_D (va_A [(h0, .inr (2, [.ref h1, .int (nI n)])), (h1, .inl (cy 0, 70, .inl f))] sz) [(h0, .inr (2, [.ref h1, .int (nI n)])), (h1, .inl (cy 0, 70, .inl f))]) (va_A [(h0, .inr (2, [.ref h1, .int (nI n)])), (h1, .inl (cy 0, 70, .inl f))] sz)) 0 0 (va_A [(h0, .inr (2, [.ref h1, .int (nI n)])), (h1, .inl (cy 0, 70, .inl f))] sz) := by
  refine Met.ofW (cc := cX1_numberAt) (maxL := 5) (ret := (some .int)) (by decide) rfl ?_
  intro p e s m args below meth c s₁ B hml hv
  obtain ⟨rfl, hsz, hP, hkk, hD0⟩ := hv
  have hx := B.exec
  have hb := B.bytes
  have hr := B.returns
  have hts := atoms_spec (ws := wsX1_numberAt) B.pre
  have hown : s.vm.findClass RX1 = some m.cls := findClass_of_methodNamed B.named
  have hlocks := B.notSynchronized
  have hin : meth.name = _ := (name_of_methodNamed B.named B.method).1
  have hK := hkk.1
  subst hsz
  have hD := hD0.self (sz := s.heap.size)
  generalize hAe : va_A [(h0, .inr (2, [.ref h1, .int (nI n)])), (h1, .inl (cy 0, 70, .inl f))] s.heap.size = A at hD ⊢
  have hA : ∀ q : Nat, s.heap.size ≤ q → A q := fun q h => by rw [← hAe]; exact Or.inr h
  have hS : va_S A s.heap s.heap [] := va_S.rf
  have hP : va_P D vwCl [(h0, .inr (2, [.ref h1, .int (nI n)])), (h1, .inl (cy 0, 70, .inl f))] s.heap := hP
  have hl := lv_entry ([.ref h0, .int i, .int (nI w)]) (n := 5) (Nat.le_of_ble_eq_true rfl)
  rw [lg_entry_eq]
  generalize (lg_sl ([.ref h0, .int i, .int (nI w)]) ++ List.replicate (5 - (lg_sl ([.ref h0, .int i, .int (nI w)])).length) Slot.unset).toArray = ls at hl ⊢
  have hl : lv_has ls 5 [(0, .ref h0), (1, .int i), (2, .int (nI w))] := hl
  refine lv_iconst (v := 0) hx hb dX1_numberAt_0 (by decide) ?_
  refine lv_topi (fun x_0 ex_0 => ?_)
  obtain rfl : x_0 = oc_num f n i 0 := by rw [ex_0]; rfl
  refine lv_istore_n (lv' := [(3, .int (oc_num f n i 0)), (0, .ref h0), (1, .int i), (2, .int (nI w))]) hx hb dX1_numberAt_1 rfl hl (by decide) rfl (fun ls hl => ?_)
  refine lv_iconst (v := 0) hx hb dX1_numberAt_2 (by decide) ?_
  refine lv_topi (fun x_2 ex_2 => ?_)
  obtain rfl : x_2 = nI 0 := by rw [ex_2]; exact nI_0.symm
  refine lv_istore (lv' := [(4, .int (nI 0)), (3, .int (oc_num f n i 0)), (0, .ref h0), (1, .int i), (2, .int (nI w))]) hx hb dX1_numberAt_3 hl (by decide) rfl (fun ls hl => ?_)
  have cut_5 : ∀ (N : Nat) (k : Nat) (H : Heap) (locs : List Loc), w - k < N → k ≤ w → va_P D vwCl [(h0, .inr (2, [.ref h1, .int (nI n)])), (h1, .inl (cy 0, 70, .inl f))] H → va_D A [(h0, .inr (2, [.ref h1, .int (nI n)])), (h1, .inl (cy 0, 70, .inl f))] → va_S A s.heap H locs → ∀ (ls : Array Slot), lv_has ls 5 [(0, .ref h0), (1, .int i), (2, .int (nI w)), (3, .int (oc_num f n i k)), (4, .int (nI k))] → W p l e (headSpec wsX1_numberAt ({ frames := 2, cells := 0, slots := 0, locals := 42 } : Room)).room s m [.ref h0, .int i, .int (nI w)].toArray below meth c H locs 0 0 (MQ below (va_Qi (fun (r : Int32) (u : Unit) => r = oc_num f n i w) (fun u t => va_P D vwCl [(h0, .inr (2, [.ref h1, .int (nI n)])), (h1, .inl (cy 0, 70, .inl f))] t.heap ∧ va_D A [(h0, .inr (2, [.ref h1, .int (nI n)])), (h1, .inl (cy 0, 70, .inl f))]) A) [.ref h0, .int i, .int (nI w)].toArray s 0 0 A) (F0 m 5 ls []) := by
    intro N
    induction N with
    | zero => intro k H locs hN; exact absurd hN (Nat.not_lt_zero _)
    | succ N ih =>
      intro k H locs hN hk hP hD hS ls hl
      refine lv_iload hx hb dX1_numberAt_5 (lv_at hl 4 rfl) ?_
      refine lv_iload_n hx hb dX1_numberAt_7 rfl (lv_at hl 2 rfl) ?_
      refine lv_icmp_ge (tgt := 31) hx hb dX1_numberAt_8 (by decide) (fun c_8 => ?_) (fun c_8 => ?_)
      · obtain rfl : w = k := Nat.le_antisymm ((oc_ltN (by omega) (by omega)).mp c_8) hk
        refine lv_iload_n hx hb dX1_numberAt_31 rfl (lv_at hl 3 rfl) ?_
        have hP9 := hP.sub (ws' := [(h0, .inr (2, [.ref h1, .int (nI n)])), (h1, .inl (cy 0, 70, .inl f))]) [0, 1] rfl
        have hD9 := hD.sub (ws' := [(h0, .inr (2, [.ref h1, .int (nI n)])), (h1, .inl (cy 0, 70, .inl f))]) [0, 1] (by decide) rfl
        exact W.iret (v := oc_num f n i w) hx hb hr (fun t ht hW => ⟨⟨oc_num f n i w, (), rfl, rfl, by rw [ht]; exact hP9, hD9⟩, hS.F ht⟩) hS.2.2 dX1_numberAt_32
      · have hkm : k < w := Nat.not_le.mp fun q => c_8 ((oc_ltN (by omega) (by omega)).mpr q)
        refine lv_iload_n hx hb dX1_numberAt_11 rfl (lv_at hl 3 rfl) ?_
        refine lv_bipush (v := 8) hx hb dX1_numberAt_12 (by decide) ?_
        refine lv_ishl hx hb dX1_numberAt_14 ?_
        refine lv_aload_n hx hb dX1_numberAt_15 rfl (lv_at hl 0 rfl) ?_
        refine lv_iload_n hx hb dX1_numberAt_16 rfl (lv_at hl 1 rfl) ?_
        refine lv_iload hx hb dX1_numberAt_17 (lv_at hl 4 rfl) ?_
        refine lv_iadd hx hb dX1_numberAt_19 ?_
        have hPc := hP.sub (ws' := [(h0, .inr (2, [.ref h1, .int (nI n)])), (h1, .inl (cy 0, 70, .inl f))]) [0, 1] rfl
        have hDc := hD.sub (ws' := [(h0, .inr (2, [.ref h1, .int (nI n)])), (h1, .inl (cy 0, 70, .inl f))]) [0, 1] (by decide) rfl
        have hFc := va_free (wc := [(h0, .inr (2, [.ref h1, .int (nI n)])), (h1, .inl (cy 0, 70, .inl f))]) hD hS hA [0, 1] rfl
        refine va_calli (va_runV (As := [.int (i + (nI k))]) (rest := [.int ((oc_num f n i k) <<< (8 &&& 31))]) ⟨hx, hb, hml, hown, hts⟩ (c_X1_get l D cy H.size h0 h1 f n (i + (nI k)) (by first | assumption | omega)) (cwV 1 hts gX1_numberAt_X1_get rfl rfl rfl (by decide +kernel) ⟨Nat.le_of_ble_eq_true rfl, Nat.le_of_ble_eq_true rfl⟩) (pv_V (ci := 2) (q := (RX1, TX1, 2)) hkk hPc hDc rfl rfl rfl) rfl rfl hl.1 rfl (lv_room (Nat.le_of_ble_eq_true rfl)) dX1_numberAt_20 ⟨Nat.le_of_ble_eq_true rfl, Nat.le_of_ble_eq_true rfl⟩) hS (fun q _ h => hFc q h) hFc (fun r_20 u t H1 locs ht hvm hw hB hz1 hk1 hS => ?_)
        obtain ⟨hP1, hD1⟩ := hB
        rw [ht] at hP1
        try dsimp only at hw hP1 hD1
        obtain ⟨hP, hD⟩ := va_join (wr := []) (w1 := [(h0, .inr (2, [.ref h1, .int (nI n)])), (h1, .inl (cy 0, 70, .inl f))]) hP hD [0, 1] [] rfl rfl (by decide) (by decide) hk1 hFc hP1 hD1
        clear hPc hDc hFc hP1 hD1 hz1 hk1
        generalize H1 = H at hP hS ⊢
        have hP : va_P D vwCl [(h0, .inr (2, [.ref h1, .int (nI n)])), (h1, .inl (cy 0, 70, .inl f))] H := hP
        have hD : va_D A [(h0, .inr (2, [.ref h1, .int (nI n)])), (h1, .inl (cy 0, 70, .inl f))] := hD
        obtain rfl := hw
        refine lv_ior hx hb dX1_numberAt_23 ?_
        refine lv_topi (fun x_23 ex_23 => ?_)
        obtain rfl : x_23 = oc_num f n i (k + 1) := by rw [ex_23]; rfl
        refine lv_istore_n (lv' := [(3, .int (oc_num f n i (k + 1))), (0, .ref h0), (1, .int i), (2, .int (nI w)), (4, .int (nI k))]) hx hb dX1_numberAt_24 rfl hl (by decide) rfl (fun ls hl => ?_)
        refine lv_iinc (v := nI (k + 1)) (lv' := [(4, .int (nI (k + 1))), (3, .int (oc_num f n i (k + 1))), (0, .ref h0), (1, .int i), (2, .int (nI w))]) hx hb dX1_numberAt_25 hl (k := 4) rfl (nI_1 k) (by decide) rfl (fun ls hl => ?_)
        refine lv_goto (tgt := 5) hx hb dX1_numberAt_28 (by decide) ?_
        exact ih (k + 1) _ _ (by omega) (by omega) hP hD hS _ (lv_sub hl [2, 3, 4, 1, 0] rfl)
  exact cut_5 _ 0 _ _ (Nat.lt_succ_self _) (Nat.zero_le _) hP hD hS _ (lv_sub hl [2, 3, 4, 1, 0] rfl)
