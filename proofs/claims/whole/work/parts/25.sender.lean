theorem iw_X2_numbered_X2 : ∀ w ∈ wsX20, w ∈ wsX2_numbered := by decide +kernel
theorem lk_X2_numbered_n10 : (.classLink RX2 10 RX2 : Cond) ∈ wsX2_numbered := by decide +kernel
theorem lk_X2_numbered_niX2 : (.instantiable RX2 6 : Cond) ∈ wsX2_numbered := by decide +kernel
theorem lk_X2_numbered_iniX2 : (.initialized RX2 : Cond) ∈ wsX2_numbered := by decide +kernel
theorem lk_X2_numbered_k30 : (.constant RX2 30 (65535) : Cond) ∈ wsX2_numbered := by decide +kernel
theorem lk_X2_numbered_m31 : (.methodLink RX2 31 yX2_init : Cond) ∈ wsX2_numbered := by decide +kernel
theorem lk_X2_numbered_imyX2_init : (.instanceMethod yX2_init : Cond) ∈ wsX2_numbered := by decide +kernel
theorem lk_X2_numbered_k34 : (.constant RX2 34 (-189989101) : Cond) ∈ wsX2_numbered := by decide +kernel
theorem lk_X2_numbered_k35 : (.constant RX2 35 (65536) : Cond) ∈ wsX2_numbered := by decide +kernel
set_option maxHeartbeats 4000000 in
set_option maxRecDepth 100000 in
theorem c_X2_numbered (l : Launch) (D : va_G) (cy : Nat → ClassId) (sz : Nat) (i : Int32)  : Met l yX2_numbered wsX2_numbered ({ frames := 2, cells := 1, slots := 6, locals := 46 } : Room) (pre1 D cy [.int i] [] sz) (va_Qr (fun (u : (Int32) × (Int32) × (Int32) × (Int32) × (Int32) × (Int32)) => (nmb i u.1 u.2.1 u.2.2.1 u.2.2.2.1 u.2.2.2.2.1 u.2.2.2.2.2)) (fun u ra t => va_P D vwCl [(ra, .inr (3, [.int u.1, .int u.2.1, .int u.2.2.1, .int u.2.2.2.1, .int u.2.2.2.2.1, .int u.2.2.2.2.2]))] t.heap ∧ va_D (va_A [] sz) [(ra, .inr (3, [.int u.1, .int u.2.1, .int u.2.2.1, .int u.2.2.2.1, .int u.2.2.2.2.1, .int u.2.2.2.2.2]))]) (va_A [] sz)) 1 6 (va_A [] sz) := by
  refine Met.ofW (cc := cX2_numbered) (maxL := 1) (ret := (some (.object "DataGuards$Profile"))) (by decide) rfl ?_
  intro p e s m args below meth c s₁ B hml hv
  obtain ⟨rfl, hsz, hP, hkk, hD0⟩ := hv
  have hx := B.exec
  have hb := B.bytes
  have hr := B.returns
  have hts := atoms_spec (ws := wsX2_numbered) B.pre
  have hown : s.vm.findClass RX2 = some m.cls := findClass_of_methodNamed B.named
  have hlocks := B.notSynchronized
  have hin : meth.name = _ := (name_of_methodNamed B.named B.method).1
  have hK := hkk.1
  subst hsz
  have hD := hD0.self (sz := s.heap.size)
  generalize hAe : va_A [] s.heap.size = A at hD ⊢
  have hA : ∀ q : Nat, s.heap.size ≤ q → A q := fun q h => by rw [← hAe]; exact Or.inr h
  have hS : va_S A s.heap s.heap [] := va_S.rf
  have hP : va_P D vwCl [] s.heap := hP
  have hl := lv_entry ([.int i]) (n := 1) (Nat.le_of_ble_eq_true rfl)
  rw [lg_entry_eq]
  generalize (lg_sl ([.int i]) ++ List.replicate (1 - (lg_sl ([.int i])).length) Slot.unset).toArray = ls at hl ⊢
  have hl : lv_has ls 1 [(0, .int i)] := hl
  refine lv_iload_n hx hb dX2_numbered_0 rfl (lv_at hl 0 rfl) ?_
  have hsw_1 : ∀ z : Int32, z = i → z = i := fun _ h => h
  by_cases sw_1_0 : i = 2
  · refine lv_lookup (tgt := 28) (off := 27) hx hb dX2_numbered_1 (by decide) (by rw [sw_1_0]; decide) (by decide) ?_
    refine va_new (ci := 3) (fs := [.int 0, .int 0, .int 0, .int 0, .int 0, .int 0]) (C := RX2) (T := TX2) (N := 6) hx hb hts iw_X2_numbered_X2 tyX2 tyX2_ok hown (hts _ lk_X2_numbered_n10) (hts _ lk_X2_numbered_niX2) (hts _ lk_X2_numbered_iniX2) hK hP hD hS hA rfl (fun j hj => by rcases (show j = 0 ∨ j = 1 ∨ j = 2 ∨ j = 3 ∨ j = 4 ∨ j = 5 by omega) with rfl | rfl | rfl | rfl | rfl | rfl <;> rfl) (Nat.le_of_ble_eq_true rfl) (Nat.le_of_ble_eq_true rfl) dX2_numbered_28 (fun q_28 H hP hD hS => ?_)
    have hP : va_P D vwCl [(q_28, .inr (3, [.int 0, .int 0, .int 0, .int 0, .int 0, .int 0]))] H := hP
    have hD : va_D A [(q_28, .inr (3, [.int 0, .int 0, .int 0, .int 0, .int 0, .int 0]))] := hD
    refine W.widen (k := 1) (n := 6) (by decide) (by decide) ?_
    refine lv_dup hx hb dX2_numbered_31 rfl ?_
    refine lv_bipush (v := 16) hx hb dX2_numbered_32 (by decide) ?_
    refine lv_sipush (v := 4129) hx hb dX2_numbered_34 (by decide) ?_
    refine lv_ldc (v := 65535) hx hb hown (hts _ lk_X2_numbered_k30) dX2_numbered_37 ?_
    refine lv_iconst (v := 0) hx hb dX2_numbered_39 (by decide) ?_
    refine lv_sipush (v := 256) hx hb dX2_numbered_40 (by decide) ?_
    refine lv_iconst (v := 1) hx hb dX2_numbered_43 (by decide) ?_
    have hPc := hP.sub (ws' := [(q_28, .inr (3, [.int 0, .int 0, .int 0, .int 0, .int 0, .int 0]))]) [0] rfl
    have hDc := hD.sub (ws' := [(q_28, .inr (3, [.int 0, .int 0, .int 0, .int 0, .int 0, .int 0]))]) [0] (by decide) rfl
    have hFc := va_free (wc := [(q_28, .inr (3, [.int 0, .int 0, .int 0, .int 0, .int 0, .int 0]))]) hD hS hA [0] rfl
    refine va_callv (va_runI (As := [.int 16, .int 4129, .int 65535, .int 0, .int 256, .int 1]) (rest := [.ref q_28]) ⟨hx, hb, hml, hown, hts⟩ (c_X2_init l D cy H.size q_28 16 4129 65535 0 256 1 ) (cwI 6 hts gX2_numbered_X2_init rfl rfl rfl (hts _ lk_X2_numbered_iniX2) (hts _ lk_X2_numbered_m31) (hts _ lk_X2_numbered_imyX2_init) rfl (by decide +kernel) ⟨Nat.le_of_ble_eq_true rfl, Nat.le_of_ble_eq_true rfl⟩) (pv_S hkk hPc hDc rfl) rfl rfl hl.1 rfl (lv_room (Nat.le_of_ble_eq_true rfl)) dX2_numbered_44 ⟨Nat.le_of_ble_eq_true rfl, Nat.le_of_ble_eq_true rfl⟩) hS (fun q _ h => hFc q h) hFc (fun u t H1 locs ht hvm hw hB hz1 hk1 hS => ?_)
    obtain ⟨hP1, hD1⟩ := hB
    rw [ht] at hP1
    try dsimp only at hw hP1 hD1
    obtain ⟨hP, hD⟩ := va_join (wr := []) (w1 := [(q_28, .inr (3, [.int 16, .int 4129, .int 65535, .int 0, .int 256, .int 1]))]) hP hD [0] [] rfl rfl (by decide) (by decide) hk1 hFc hP1 hD1
    clear hPc hDc hFc hP1 hD1 hz1 hk1
    generalize H1 = H at hP hS ⊢
    have hP : va_P D vwCl [(q_28, .inr (3, [.int 16, .int 4129, .int 65535, .int 0, .int 256, .int 1]))] H := hP
    have hD : va_D A [(q_28, .inr (3, [.int 16, .int 4129, .int 65535, .int 0, .int 256, .int 1]))] := hD
    have hw_44 := hw
    have hP9 := hP.sub (ws' := [(q_28, .inr (3, [.int 16, .int 4129, .int 65535, .int 0, .int 256, .int 1]))]) [0] rfl
    have hD9 := hD.sub (ws' := [(q_28, .inr (3, [.int 16, .int 4129, .int 65535, .int 0, .int 256, .int 1]))]) [0] (by decide) rfl
    exact W.aret (v := .ref q_28) hx hb hr (Or.inl ⟨_, rfl⟩) (Or.inr ⟨_, rfl⟩) (fun t ht hW => ⟨⟨(16, 4129, 65535, 0, 256, 1), q_28, rfl, Or.inr (Or.inl ⟨sw_1_0, rfl, rfl, rfl, rfl, rfl, rfl⟩), by rw [ht]; exact hP9, hD9⟩, hS.F ht⟩) hS.2.2 dX2_numbered_47
  by_cases sw_1_1 : i = 3
  · refine lv_lookup (tgt := 48) (off := 47) hx hb dX2_numbered_1 (by decide) (by rw [sw_1_1]; decide) (by decide) ?_
    refine va_new (ci := 3) (fs := [.int 0, .int 0, .int 0, .int 0, .int 0, .int 0]) (C := RX2) (T := TX2) (N := 6) hx hb hts iw_X2_numbered_X2 tyX2 tyX2_ok hown (hts _ lk_X2_numbered_n10) (hts _ lk_X2_numbered_niX2) (hts _ lk_X2_numbered_iniX2) hK hP hD hS hA rfl (fun j hj => by rcases (show j = 0 ∨ j = 1 ∨ j = 2 ∨ j = 3 ∨ j = 4 ∨ j = 5 by omega) with rfl | rfl | rfl | rfl | rfl | rfl <;> rfl) (Nat.le_of_ble_eq_true rfl) (Nat.le_of_ble_eq_true rfl) dX2_numbered_48 (fun q_48 H hP hD hS => ?_)
    have hP : va_P D vwCl [(q_48, .inr (3, [.int 0, .int 0, .int 0, .int 0, .int 0, .int 0]))] H := hP
    have hD : va_D A [(q_48, .inr (3, [.int 0, .int 0, .int 0, .int 0, .int 0, .int 0]))] := hD
    refine W.widen (k := 1) (n := 6) (by decide) (by decide) ?_
    refine lv_dup hx hb dX2_numbered_51 rfl ?_
    refine lv_bipush (v := 32) hx hb dX2_numbered_52 (by decide) ?_
    refine lv_ldc (v := (-189989101)) hx hb hown (hts _ lk_X2_numbered_k34) dX2_numbered_54 ?_
    refine lv_iconst (v := (-1)) hx hb dX2_numbered_56 (by decide) ?_
    refine lv_iconst (v := (-1)) hx hb dX2_numbered_57 (by decide) ?_
    refine lv_ldc (v := 65536) hx hb hown (hts _ lk_X2_numbered_k35) dX2_numbered_58 ?_
    refine lv_iconst (v := 2) hx hb dX2_numbered_60 (by decide) ?_
    have hPc := hP.sub (ws' := [(q_48, .inr (3, [.int 0, .int 0, .int 0, .int 0, .int 0, .int 0]))]) [0] rfl
    have hDc := hD.sub (ws' := [(q_48, .inr (3, [.int 0, .int 0, .int 0, .int 0, .int 0, .int 0]))]) [0] (by decide) rfl
    have hFc := va_free (wc := [(q_48, .inr (3, [.int 0, .int 0, .int 0, .int 0, .int 0, .int 0]))]) hD hS hA [0] rfl
    refine va_callv (va_runI (As := [.int 32, .int (-189989101), .int (-1), .int (-1), .int 65536, .int 2]) (rest := [.ref q_48]) ⟨hx, hb, hml, hown, hts⟩ (c_X2_init l D cy H.size q_48 32 (-189989101) (-1) (-1) 65536 2 ) (cwI 6 hts gX2_numbered_X2_init rfl rfl rfl (hts _ lk_X2_numbered_iniX2) (hts _ lk_X2_numbered_m31) (hts _ lk_X2_numbered_imyX2_init) rfl (by decide +kernel) ⟨Nat.le_of_ble_eq_true rfl, Nat.le_of_ble_eq_true rfl⟩) (pv_S hkk hPc hDc rfl) rfl rfl hl.1 rfl (lv_room (Nat.le_of_ble_eq_true rfl)) dX2_numbered_61 ⟨Nat.le_of_ble_eq_true rfl, Nat.le_of_ble_eq_true rfl⟩) hS (fun q _ h => hFc q h) hFc (fun u t H1 locs ht hvm hw hB hz1 hk1 hS => ?_)
    obtain ⟨hP1, hD1⟩ := hB
    rw [ht] at hP1
    try dsimp only at hw hP1 hD1
    obtain ⟨hP, hD⟩ := va_join (wr := []) (w1 := [(q_48, .inr (3, [.int 32, .int (-189989101), .int (-1), .int (-1), .int 65536, .int 2]))]) hP hD [0] [] rfl rfl (by decide) (by decide) hk1 hFc hP1 hD1
    clear hPc hDc hFc hP1 hD1 hz1 hk1
    generalize H1 = H at hP hS ⊢
    have hP : va_P D vwCl [(q_48, .inr (3, [.int 32, .int (-189989101), .int (-1), .int (-1), .int 65536, .int 2]))] H := hP
    have hD : va_D A [(q_48, .inr (3, [.int 32, .int (-189989101), .int (-1), .int (-1), .int 65536, .int 2]))] := hD
    have hw_61 := hw
    have hP9 := hP.sub (ws' := [(q_48, .inr (3, [.int 32, .int (-189989101), .int (-1), .int (-1), .int 65536, .int 2]))]) [0] rfl
    have hD9 := hD.sub (ws' := [(q_48, .inr (3, [.int 32, .int (-189989101), .int (-1), .int (-1), .int 65536, .int 2]))]) [0] (by decide) rfl
    exact W.aret (v := .ref q_48) hx hb hr (Or.inl ⟨_, rfl⟩) (Or.inr ⟨_, rfl⟩) (fun t ht hW => ⟨⟨(32, -189989101, -1, -1, 65536, 2), q_48, rfl, Or.inr (Or.inr ⟨sw_1_1, rfl, rfl, rfl, rfl, rfl, rfl⟩), by rw [ht]; exact hP9, hD9⟩, hS.F ht⟩) hS.2.2 dX2_numbered_64
  refine lv_lookup (tgt := 65) (off := 64) hx hb dX2_numbered_1 (by decide) (by show Op.lookupswitch.offset [(2, 27), (3, 47)] 64 _ = _; rw [lv_osw sw_1_0 (k := 2) (a := 2) (by decide), lv_osw sw_1_1 (k := 3) (a := 3) (by decide)]; rfl) (by decide) ?_
  refine va_new (ci := 3) (fs := [.int 0, .int 0, .int 0, .int 0, .int 0, .int 0]) (C := RX2) (T := TX2) (N := 6) hx hb hts iw_X2_numbered_X2 tyX2 tyX2_ok hown (hts _ lk_X2_numbered_n10) (hts _ lk_X2_numbered_niX2) (hts _ lk_X2_numbered_iniX2) hK hP hD hS hA rfl (fun j hj => by rcases (show j = 0 ∨ j = 1 ∨ j = 2 ∨ j = 3 ∨ j = 4 ∨ j = 5 by omega) with rfl | rfl | rfl | rfl | rfl | rfl <;> rfl) (Nat.le_of_ble_eq_true rfl) (Nat.le_of_ble_eq_true rfl) dX2_numbered_65 (fun q_65 H hP hD hS => ?_)
  have hP : va_P D vwCl [(q_65, .inr (3, [.int 0, .int 0, .int 0, .int 0, .int 0, .int 0]))] H := hP
  have hD : va_D A [(q_65, .inr (3, [.int 0, .int 0, .int 0, .int 0, .int 0, .int 0]))] := hD
  refine W.widen (k := 1) (n := 6) (by decide) (by decide) ?_
  refine lv_dup hx hb dX2_numbered_68 rfl ?_
  refine lv_bipush (v := 8) hx hb dX2_numbered_69 (by decide) ?_
  refine lv_bipush (v := 29) hx hb dX2_numbered_71 (by decide) ?_
  refine lv_sipush (v := 255) hx hb dX2_numbered_73 (by decide) ?_
  refine lv_sipush (v := 255) hx hb dX2_numbered_76 (by decide) ?_
  refine lv_bipush (v := 15) hx hb dX2_numbered_79 (by decide) ?_
  refine lv_iconst (v := 1) hx hb dX2_numbered_81 (by decide) ?_
  have hPc := hP.sub (ws' := [(q_65, .inr (3, [.int 0, .int 0, .int 0, .int 0, .int 0, .int 0]))]) [0] rfl
  have hDc := hD.sub (ws' := [(q_65, .inr (3, [.int 0, .int 0, .int 0, .int 0, .int 0, .int 0]))]) [0] (by decide) rfl
  have hFc := va_free (wc := [(q_65, .inr (3, [.int 0, .int 0, .int 0, .int 0, .int 0, .int 0]))]) hD hS hA [0] rfl
  refine va_callv (va_runI (As := [.int 8, .int 29, .int 255, .int 255, .int 15, .int 1]) (rest := [.ref q_65]) ⟨hx, hb, hml, hown, hts⟩ (c_X2_init l D cy H.size q_65 8 29 255 255 15 1 ) (cwI 6 hts gX2_numbered_X2_init rfl rfl rfl (hts _ lk_X2_numbered_iniX2) (hts _ lk_X2_numbered_m31) (hts _ lk_X2_numbered_imyX2_init) rfl (by decide +kernel) ⟨Nat.le_of_ble_eq_true rfl, Nat.le_of_ble_eq_true rfl⟩) (pv_S hkk hPc hDc rfl) rfl rfl hl.1 rfl (lv_room (Nat.le_of_ble_eq_true rfl)) dX2_numbered_82 ⟨Nat.le_of_ble_eq_true rfl, Nat.le_of_ble_eq_true rfl⟩) hS (fun q _ h => hFc q h) hFc (fun u t H1 locs ht hvm hw hB hz1 hk1 hS => ?_)
  obtain ⟨hP1, hD1⟩ := hB
  rw [ht] at hP1
  try dsimp only at hw hP1 hD1
  obtain ⟨hP, hD⟩ := va_join (wr := []) (w1 := [(q_65, .inr (3, [.int 8, .int 29, .int 255, .int 255, .int 15, .int 1]))]) hP hD [0] [] rfl rfl (by decide) (by decide) hk1 hFc hP1 hD1
  clear hPc hDc hFc hP1 hD1 hz1 hk1
  generalize H1 = H at hP hS ⊢
  have hP : va_P D vwCl [(q_65, .inr (3, [.int 8, .int 29, .int 255, .int 255, .int 15, .int 1]))] H := hP
  have hD : va_D A [(q_65, .inr (3, [.int 8, .int 29, .int 255, .int 255, .int 15, .int 1]))] := hD
  have hw_82 := hw
  have hP9 := hP.sub (ws' := [(q_65, .inr (3, [.int 8, .int 29, .int 255, .int 255, .int 15, .int 1]))]) [0] rfl
  have hD9 := hD.sub (ws' := [(q_65, .inr (3, [.int 8, .int 29, .int 255, .int 255, .int 15, .int 1]))]) [0] (by decide) rfl
  exact W.aret (v := .ref q_65) hx hb hr (Or.inl ⟨_, rfl⟩) (Or.inr ⟨_, rfl⟩) (fun t ht hW => ⟨⟨(8, 29, 255, 255, 15, 1), q_65, rfl, Or.inl ⟨sw_1_0, sw_1_1, rfl, rfl, rfl, rfl, rfl, rfl⟩, by rw [ht]; exact hP9, hD9⟩, hS.F ht⟩) hS.2.2 dX2_numbered_85

theorem iw_X4_collect_X4 : ∀ w ∈ wsX40, w ∈ wsX4_collect := by decide +kernel
theorem lk_X4_collect_f12 : (.fieldLink RX4 12 "DataGuards$Sender" "data" "LDataGuards$Octets;" : Cond) ∈ wsX4_collect := by decide +kernel
theorem iw_X4_collect_X1 : ∀ w ∈ wsX10, w ∈ wsX4_collect := by decide +kernel
set_option maxHeartbeats 4000000 in
set_option maxRecDepth 100000 in
theorem c_X4_collect (l : Launch) (D : va_G) (cy : Nat → ClassId) (sz : Nat) (h0 : Nat) (p0 : Nat) (d0 : Nat) (d1 : Nat) (r0 : Nat) (r1 : Nat) (ct : Int32) (fp : Int32) (fk : Int32) (sk : Int32) (pB : Nat) (pS : Nat) (pG : Nat) (pE : Nat) (pC : Nat) (pO : Nat) (f : Nat → Int32) (n : Nat) (rf : Nat → Int32) (rn : Nat) (x : Int32) (hn : n ≤ 64) : Met l yX4_collect wsX4_collect ({ frames := 1, cells := 0, slots := 0, locals := 21 } : Room) (pre1 D cy [.ref h0, .int x] [(h0, .inr (5, [.ref p0, .ref d0, .ref r0, .int ct, .int fp, .int fk, .int sk])), (p0, .inr (3, [.int (nI pB), .int (nI pS), .int (nI pG), .int (nI pE), .int (nI pC), .int (nI pO)])), (d0, .inr (2, [.ref d1, .int (nI n)])), (d1, .inl (cy 0, 70, .inl f)), (r0, .inr (2, [.ref r1, .int (nI rn)])), (r1, .inl (cy 0, 70, .inl rf))] sz) (va_Qv (fun (u : (Nat → Int32) × (Nat)) => (sc_col f n x u.1 u.2)) (fun u t => va_P D vwCl [(h0, .inr (5, [.ref p0, .ref d0, .ref r0, .int ct, .int fp, .int fk, .int sk])), (p0, .inr (3, [.int (nI pB), .int (nI pS), .int (nI pG), .int (nI pE), .int (nI pC), .int (nI pO)])), (d0, .inr (2, [.ref d1, .int (nI u.2)])), (d1, .inl (cy 0, 70, .inl u.1)), (r0, .inr (2, [.ref r1, .int (nI rn)])), (r1, .inl (cy 0, 70, .inl rf))] t.heap ∧ va_D (va_A [(h0, .inr (5, [.ref p0, .ref d0, .ref r0, .int ct, .int fp, .int fk, .int sk])), (p0, .inr (3, [.int (nI pB), .int (nI pS), .int (nI pG), .int (nI pE), .int (nI pC), .int (nI pO)])), (d0, .inr (2, [.ref d1, .int (nI n)])), (d1, .inl (cy 0, 70, .inl f)), (r0, .inr (2, [.ref r1, .int (nI rn)])), (r1, .inl (cy 0, 70, .inl rf))] sz) [(h0, .inr (5, [.ref p0, .ref d0, .ref r0, .int ct, .int fp, .int fk, .int sk])), (p0, .inr (3, [.int (nI pB), .int (nI pS), .int (nI pG), .int (nI pE), .int (nI pC), .int (nI pO)])), (d0, .inr (2, [.ref d1, .int (nI u.2)])), (d1, .inl (cy 0, 70, .inl u.1)), (r0, .inr (2, [.ref r1, .int (nI rn)])), (r1, .inl (cy 0, 70, .inl rf))]) (va_A [(h0, .inr (5, [.ref p0, .ref d0, .ref r0, .int ct, .int fp, .int fk, .int sk])), (p0, .inr (3, [.int (nI pB), .int (nI pS), .int (nI pG), .int (nI pE), .int (nI pC), .int (nI pO)])), (d0, .inr (2, [.ref d1, .int (nI n)])), (d1, .inl (cy 0, 70, .inl f)), (r0, .inr (2, [.ref r1, .int (nI rn)])), (r1, .inl (cy 0, 70, .inl rf))] sz)) 0 0 (va_A [(h0, .inr (5, [.ref p0, .ref d0, .ref r0, .int ct, .int fp, .int fk, .int sk])), (p0, .inr (3, [.int (nI pB), .int (nI pS), .int (nI pG), .int (nI pE), .int (nI pC), .int (nI pO)])), (d0, .inr (2, [.ref d1, .int (nI n)])), (d1, .inl (cy 0, 70, .inl f)), (r0, .inr (2, [.ref r1, .int (nI rn)])), (r1, .inl (cy 0, 70, .inl rf))] sz) := by
  refine Met.ofW (cc := cX4_collect) (maxL := 2) (ret := none) (by decide) rfl ?_
  intro p e s m args below meth c s₁ B hml hv
  obtain ⟨rfl, hsz, hP, hkk, hD0⟩ := hv
  have hx := B.exec
  have hb := B.bytes
  have hr := B.returns
  have hts := atoms_spec (ws := wsX4_collect) B.pre
  have hown : s.vm.findClass RX4 = some m.cls := findClass_of_methodNamed B.named
  have hlocks := B.notSynchronized
  have hin : meth.name = _ := (name_of_methodNamed B.named B.method).1
  have hK := hkk.1
  subst hsz
  have hD := hD0.self (sz := s.heap.size)
  generalize hAe : va_A [(h0, .inr (5, [.ref p0, .ref d0, .ref r0, .int ct, .int fp, .int fk, .int sk])), (p0, .inr (3, [.int (nI pB), .int (nI pS), .int (nI pG), .int (nI pE), .int (nI pC), .int (nI pO)])), (d0, .inr (2, [.ref d1, .int (nI n)])), (d1, .inl (cy 0, 70, .inl f)), (r0, .inr (2, [.ref r1, .int (nI rn)])), (r1, .inl (cy 0, 70, .inl rf))] s.heap.size = A at hD ⊢
  have hA : ∀ q : Nat, s.heap.size ≤ q → A q := fun q h => by rw [← hAe]; exact Or.inr h
  have hS : va_S A s.heap s.heap [] := va_S.rf
  have hP : va_P D vwCl [(h0, .inr (5, [.ref p0, .ref d0, .ref r0, .int ct, .int fp, .int fk, .int sk])), (p0, .inr (3, [.int (nI pB), .int (nI pS), .int (nI pG), .int (nI pE), .int (nI pC), .int (nI pO)])), (d0, .inr (2, [.ref d1, .int (nI n)])), (d1, .inl (cy 0, 70, .inl f)), (r0, .inr (2, [.ref r1, .int (nI rn)])), (r1, .inl (cy 0, 70, .inl rf))] s.heap := hP
  have hl := lv_entry ([.ref h0, .int x]) (n := 2) (Nat.le_of_ble_eq_true rfl)
  rw [lg_entry_eq]
  generalize (lg_sl ([.ref h0, .int x]) ++ List.replicate (2 - (lg_sl ([.ref h0, .int x])).length) Slot.unset).toArray = ls at hl ⊢
  have hl : lv_has ls 2 [(0, .ref h0), (1, .int x)] := hl
  refine lv_aload_n hx hb dX4_collect_0 rfl (lv_at hl 0 rfl) ?_
  refine va_get (D := D) (ci := 5) (v := .ref d0) (C := RX4) (T := TX4) (N := 7) hx hb hts iw_X4_collect_X4 hown hK hP 0 rfl rfl 1 (by decide) (hts _ lk_X4_collect_f12) (fun _ h9 => h9) rfl dX4_collect_1 ?_
  refine va_getN (D := D) (ci := 2) (v := .int (nI n)) (C := RX1) (T := TX1) (N := 2) hx hb hts iw_X4_collect_X1 hown hK hP 2 rfl rfl 1 (by decide) (nw_use 3 rfl rfl hkk.2) (fun _ h9 => h9) rfl dX4_collect_4 ?_
  refine lv_bipush (v := 64) hx hb dX4_collect_7 (by decide) ?_
  refine lv_icmp_ge (tgt := 21) hx hb dX4_collect_9 (by decide) (fun c_9 => ?_) (fun c_9 => ?_)
  · have hn6 : ¬ n < 64 := by rw [i32_64] at c_9; exact fun q => absurd c_9 (nI_ge q (by decide))
    have hP9 := hP.sub (ws' := [(h0, .inr (5, [.ref p0, .ref d0, .ref r0, .int ct, .int fp, .int fk, .int sk])), (p0, .inr (3, [.int (nI pB), .int (nI pS), .int (nI pG), .int (nI pE), .int (nI pC), .int (nI pO)])), (d0, .inr (2, [.ref d1, .int (nI n)])), (d1, .inl (cy 0, 70, .inl f)), (r0, .inr (2, [.ref r1, .int (nI rn)])), (r1, .inl (cy 0, 70, .inl rf))]) [0, 1, 2, 3, 4, 5] rfl
    have hD9 := hD.sub (ws' := [(h0, .inr (5, [.ref p0, .ref d0, .ref r0, .int ct, .int fp, .int fk, .int sk])), (p0, .inr (3, [.int (nI pB), .int (nI pS), .int (nI pG), .int (nI pE), .int (nI pC), .int (nI pO)])), (d0, .inr (2, [.ref d1, .int (nI n)])), (d1, .inl (cy 0, 70, .inl f)), (r0, .inr (2, [.ref r1, .int (nI rn)])), (r1, .inl (cy 0, 70, .inl rf))]) [0, 1, 2, 3, 4, 5] (by decide) rfl
    exact W.vret hx hb hr (fun t ht hW => ⟨⟨(f, n), rfl, Or.inr ⟨hn6, rfl, rfl⟩, by rw [ht]; exact hP9, hD9⟩, hS.F ht⟩) hS.2.2 dX4_collect_21
  · have hn6 : n < 64 := by rw [i32_64] at c_9; exact Nat.not_le.mp fun q => c_9 (nI_le q (by omega))
    refine lv_aload_n hx hb dX4_collect_12 rfl (lv_at hl 0 rfl) ?_
    refine va_get (D := D) (ci := 5) (v := .ref d0) (C := RX4) (T := TX4) (N := 7) hx hb hts iw_X4_collect_X4 hown hK hP 0 rfl rfl 1 (by decide) (hts _ lk_X4_collect_f12) (fun _ h9 => h9) rfl dX4_collect_13 ?_
    refine lv_iload_n hx hb dX4_collect_16 rfl (lv_at hl 1 rfl) ?_
    have hPc := hP.sub (ws' := [(d0, .inr (2, [.ref d1, .int (nI n)])), (d1, .inl (cy 0, 70, .inl f))]) [2, 3] rfl
    have hDc := hD.sub (ws' := [(d0, .inr (2, [.ref d1, .int (nI n)])), (d1, .inl (cy 0, 70, .inl f))]) [2, 3] (by decide) rfl
    have hFc := va_free (wc := [(d0, .inr (2, [.ref d1, .int (nI n)])), (d1, .inl (cy 0, 70, .inl f))]) hD hS hA [2, 3] rfl
    refine va_calli (va_runV (As := [.int x]) (rest := []) ⟨hx, hb, hml, hown, hts⟩ (c_X1_add l D cy s.heap.size d0 d1 f n x (by omega)) (cwV 1 hts gX4_collect_X1_add rfl rfl rfl (by decide +kernel) ⟨Nat.le_of_ble_eq_true rfl, Nat.le_of_ble_eq_true rfl⟩) (pv_V (ci := 2) (q := (RX1, TX1, 2)) hkk hPc hDc rfl rfl rfl) rfl rfl hl.1 rfl (lv_room (Nat.le_of_ble_eq_true rfl)) dX4_collect_17 ⟨Nat.le_of_ble_eq_true rfl, Nat.le_of_ble_eq_true rfl⟩) hS (fun q _ h => hFc q h) hFc (fun r_17 u t H1 locs ht hvm hw hB hz1 hk1 hS => ?_)
    obtain ⟨f2_17, n2_17⟩ := u
    obtain ⟨hP1, hD1⟩ := hB
    rw [ht] at hP1
    try dsimp only at hw hP1 hD1
    obtain ⟨hP, hD⟩ := va_join (wr := [(h0, .inr (5, [.ref p0, .ref d0, .ref r0, .int ct, .int fp, .int fk, .int sk])), (p0, .inr (3, [.int (nI pB), .int (nI pS), .int (nI pG), .int (nI pE), .int (nI pC), .int (nI pO)])), (r0, .inr (2, [.ref r1, .int (nI rn)])), (r1, .inl (cy 0, 70, .inl rf))]) (w1 := [(d0, .inr (2, [.ref d1, .int (nI n2_17)])), (d1, .inl (cy 0, 70, .inl f2_17))]) hP hD [2, 3] [0, 1, 4, 5] rfl rfl (by decide) (by decide) hk1 hFc hP1 hD1
    clear hPc hDc hFc hP1 hD1 hz1 hk1
    generalize H1 = H at hP hS ⊢
    have hP : va_P D vwCl [(h0, .inr (5, [.ref p0, .ref d0, .ref r0, .int ct, .int fp, .int fk, .int sk])), (p0, .inr (3, [.int (nI pB), .int (nI pS), .int (nI pG), .int (nI pE), .int (nI pC), .int (nI pO)])), (r0, .inr (2, [.ref r1, .int (nI rn)])), (r1, .inl (cy 0, 70, .inl rf)), (d0, .inr (2, [.ref d1, .int (nI n2_17)])), (d1, .inl (cy 0, 70, .inl f2_17))] H := hP
    have hD : va_D A [(h0, .inr (5, [.ref p0, .ref d0, .ref r0, .int ct, .int fp, .int fk, .int sk])), (p0, .inr (3, [.int (nI pB), .int (nI pS), .int (nI pG), .int (nI pE), .int (nI pC), .int (nI pO)])), (r0, .inr (2, [.ref r1, .int (nI rn)])), (r1, .inl (cy 0, 70, .inl rf)), (d0, .inr (2, [.ref d1, .int (nI n2_17)])), (d1, .inl (cy 0, 70, .inl f2_17))] := hD
    have hw_17 := hw
    obtain ⟨rfl, rfl, rfl⟩ := oc_add_lt hw_17 (by omega)
    refine lv_pop hx hb dX4_collect_20 rfl ?_
    have hP9 := hP.sub (ws' := [(h0, .inr (5, [.ref p0, .ref d0, .ref r0, .int ct, .int fp, .int fk, .int sk])), (p0, .inr (3, [.int (nI pB), .int (nI pS), .int (nI pG), .int (nI pE), .int (nI pC), .int (nI pO)])), (d0, .inr (2, [.ref d1, .int (nI (n + 1))])), (d1, .inl (cy 0, 70, .inl (upd f n x.toInt8.toInt32))), (r0, .inr (2, [.ref r1, .int (nI rn)])), (r1, .inl (cy 0, 70, .inl rf))]) [0, 1, 4, 5, 2, 3] rfl
    have hD9 := hD.sub (ws' := [(h0, .inr (5, [.ref p0, .ref d0, .ref r0, .int ct, .int fp, .int fk, .int sk])), (p0, .inr (3, [.int (nI pB), .int (nI pS), .int (nI pG), .int (nI pE), .int (nI pC), .int (nI pO)])), (d0, .inr (2, [.ref d1, .int (nI (n + 1))])), (d1, .inl (cy 0, 70, .inl (upd f n x.toInt8.toInt32))), (r0, .inr (2, [.ref r1, .int (nI rn)])), (r1, .inl (cy 0, 70, .inl rf))]) [0, 1, 4, 5, 2, 3] (by decide) rfl
    exact W.vret hx hb hr (fun t ht hW => ⟨⟨(upd f n x.toInt8.toInt32, n + 1), rfl, Or.inl ⟨hn6, rfl, rfl⟩, by rw [ht]; exact hP9, hD9⟩, hS.F ht⟩) hS.2.2 dX4_collect_21

theorem iw_X4_plantFlip_X4 : ∀ w ∈ wsX40, w ∈ wsX4_plantFlip := by decide +kernel
theorem lk_X4_plantFlip_f33 : (.fieldLink RX4 33 "DataGuards$Sender" "flipPlace" "I" : Cond) ∈ wsX4_plantFlip := by decide +kernel
theorem lk_X4_plantFlip_f36 : (.fieldLink RX4 36 "DataGuards$Sender" "flipMask" "I" : Cond) ∈ wsX4_plantFlip := by decide +kernel
set_option maxHeartbeats 4000000 in
set_option maxRecDepth 100000 in
theorem c_X4_plantFlip (l : Launch) (D : va_G) (cy : Nat → ClassId) (sz : Nat) (h0 : Nat) (p0 : Nat) (d0 : Nat) (d1 : Nat) (r0 : Nat) (r1 : Nat) (ct : Int32) (fp : Int32) (fk : Int32) (sk : Int32) (pB : Nat) (pS : Nat) (pG : Nat) (pE : Nat) (pC : Nat) (pO : Nat) (f : Nat → Int32) (n : Nat) (rf : Nat → Int32) (rn : Nat) (x : Int32) (y : Int32)  : Met l yX4_plantFlip wsX4_plantFlip ({ frames := 0, cells := 0, slots := 0, locals := 0 } : Room) (pre1 D cy [.ref h0, .int x, .int y] [(h0, .inr (5, [.ref p0, .ref d0, .ref r0, .int ct, .int fp, .int fk, .int sk])), (p0, .inr (3, [.int (nI pB), .int (nI pS), .int (nI pG), .int (nI pE), .int (nI pC), .int (nI pO)])), (d0, .inr (2, [.ref d1, .int (nI n)])), (d1, .inl (cy 0, 70, .inl f)), (r0, .inr (2, [.ref r1, .int (nI rn)])), (r1, .inl (cy 0, 70, .inl rf))] sz) (va_Qv (fun (u : Unit) => True) (fun u t => va_P D vwCl [(h0, .inr (5, [.ref p0, .ref d0, .ref r0, .int ct, .int x, .int y, .int sk])), (p0, .inr (3, [.int (nI pB), .int (nI pS), .int (nI pG), .int (nI pE), .int (nI pC), .int (nI pO)])), (d0, .inr (2, [.ref d1, .int (nI n)])), (d1, .inl (cy 0, 70, .inl f)), (r0, .inr (2, [.ref r1, .int (nI rn)])), (r1, .inl (cy 0, 70, .inl rf))] t.heap ∧ va_D (va_A [(h0, .inr (5, [.ref p0, .ref d0, .ref r0, .int ct, .int fp, .int fk, .int sk])), (p0, .inr (3, [.int (nI pB), .int (nI pS), .int (nI pG), .int (nI pE), .int (nI pC), .int (nI pO)])), (d0, .inr (2, [.ref d1, .int (nI n)])), (d1, .inl (cy 0, 70, .inl f)), (r0, .inr (2, [.ref r1, .int (nI rn)])), (r1, .inl (cy 0, 70, .inl rf))] sz) [(h0, .inr (5, [.ref p0, .ref d0, .ref r0, .int ct, .int x, .int y, .int sk])), (p0, .inr (3, [.int (nI pB), .int (nI pS), .int (nI pG), .int (nI pE), .int (nI pC), .int (nI pO)])), (d0, .inr (2, [.ref d1, .int (nI n)])), (d1, .inl (cy 0, 70, .inl f)), (r0, .inr (2, [.ref r1, .int (nI rn)])), (r1, .inl (cy 0, 70, .inl rf))]) (va_A [(h0, .inr (5, [.ref p0, .ref d0, .ref r0, .int ct, .int fp, .int fk, .int sk])), (p0, .inr (3, [.int (nI pB), .int (nI pS), .int (nI pG), .int (nI pE), .int (nI pC), .int (nI pO)])), (d0, .inr (2, [.ref d1, .int (nI n)])), (d1, .inl (cy 0, 70, .inl f)), (r0, .inr (2, [.ref r1, .int (nI rn)])), (r1, .inl (cy 0, 70, .inl rf))] sz)) 0 0 (va_A [(h0, .inr (5, [.ref p0, .ref d0, .ref r0, .int ct, .int fp, .int fk, .int sk])), (p0, .inr (3, [.int (nI pB), .int (nI pS), .int (nI pG), .int (nI pE), .int (nI pC), .int (nI pO)])), (d0, .inr (2, [.ref d1, .int (nI n)])), (d1, .inl (cy 0, 70, .inl f)), (r0, .inr (2, [.ref r1, .int (nI rn)])), (r1, .inl (cy 0, 70, .inl rf))] sz) := by
  refine Met.ofW (cc := cX4_plantFlip) (maxL := 3) (ret := none) (by decide) rfl ?_
  intro p e s m args below meth c s₁ B hml hv
  obtain ⟨rfl, hsz, hP, hkk, hD0⟩ := hv
  have hx := B.exec
  have hb := B.bytes
  have hr := B.returns
  have hts := atoms_spec (ws := wsX4_plantFlip) B.pre
  have hown : s.vm.findClass RX4 = some m.cls := findClass_of_methodNamed B.named
  have hlocks := B.notSynchronized
  have hin : meth.name = _ := (name_of_methodNamed B.named B.method).1
  have hK := hkk.1
  subst hsz
  have hD := hD0.self (sz := s.heap.size)
  generalize hAe : va_A [(h0, .inr (5, [.ref p0, .ref d0, .ref r0, .int ct, .int fp, .int fk, .int sk])), (p0, .inr (3, [.int (nI pB), .int (nI pS), .int (nI pG), .int (nI pE), .int (nI pC), .int (nI pO)])), (d0, .inr (2, [.ref d1, .int (nI n)])), (d1, .inl (cy 0, 70, .inl f)), (r0, .inr (2, [.ref r1, .int (nI rn)])), (r1, .inl (cy 0, 70, .inl rf))] s.heap.size = A at hD ⊢
  have hA : ∀ q : Nat, s.heap.size ≤ q → A q := fun q h => by rw [← hAe]; exact Or.inr h
  have hS : va_S A s.heap s.heap [] := va_S.rf
  have hP : va_P D vwCl [(h0, .inr (5, [.ref p0, .ref d0, .ref r0, .int ct, .int fp, .int fk, .int sk])), (p0, .inr (3, [.int (nI pB), .int (nI pS), .int (nI pG), .int (nI pE), .int (nI pC), .int (nI pO)])), (d0, .inr (2, [.ref d1, .int (nI n)])), (d1, .inl (cy 0, 70, .inl f)), (r0, .inr (2, [.ref r1, .int (nI rn)])), (r1, .inl (cy 0, 70, .inl rf))] s.heap := hP
  have hl := lv_entry ([.ref h0, .int x, .int y]) (n := 3) (Nat.le_of_ble_eq_true rfl)
  rw [lg_entry_eq]
  generalize (lg_sl ([.ref h0, .int x, .int y]) ++ List.replicate (3 - (lg_sl ([.ref h0, .int x, .int y])).length) Slot.unset).toArray = ls at hl ⊢
  have hl : lv_has ls 3 [(0, .ref h0), (1, .int x), (2, .int y)] := hl
  refine lv_aload_n hx hb dX4_plantFlip_0 rfl (lv_at hl 0 rfl) ?_
  refine lv_iload_n hx hb dX4_plantFlip_1 rfl (lv_at hl 1 rfl) ?_
  refine va_put (D := D) (ci := 5) (v := .int x) (ty := .int) (C := RX4) (T := TX4) (N := 7) hx hb hts iw_X4_plantFlip_X4 tyX4 tyX4_ok nmX4 hown hK hP hD hS 0 rfl rfl 4 (by decide) (hts _ lk_X4_plantFlip_f33) (fun _ h9 => h9) rfl (by decide +kernel) rfl rfl (Nat.le_of_ble_eq_true rfl) dX4_plantFlip_2 (fun H locs hP hD hS => ?_)
  have hP : va_P D vwCl [(h0, .inr (5, [.ref p0, .ref d0, .ref r0, .int ct, .int x, .int fk, .int sk])), (p0, .inr (3, [.int (nI pB), .int (nI pS), .int (nI pG), .int (nI pE), .int (nI pC), .int (nI pO)])), (d0, .inr (2, [.ref d1, .int (nI n)])), (d1, .inl (cy 0, 70, .inl f)), (r0, .inr (2, [.ref r1, .int (nI rn)])), (r1, .inl (cy 0, 70, .inl rf))] H := hP
  have hD : va_D A [(h0, .inr (5, [.ref p0, .ref d0, .ref r0, .int ct, .int x, .int fk, .int sk])), (p0, .inr (3, [.int (nI pB), .int (nI pS), .int (nI pG), .int (nI pE), .int (nI pC), .int (nI pO)])), (d0, .inr (2, [.ref d1, .int (nI n)])), (d1, .inl (cy 0, 70, .inl f)), (r0, .inr (2, [.ref r1, .int (nI rn)])), (r1, .inl (cy 0, 70, .inl rf))] := hD
  refine lv_aload_n hx hb dX4_plantFlip_5 rfl (lv_at hl 0 rfl) ?_
  refine lv_iload_n hx hb dX4_plantFlip_6 rfl (lv_at hl 2 rfl) ?_
  refine va_put (D := D) (ci := 5) (v := .int y) (ty := .int) (C := RX4) (T := TX4) (N := 7) hx hb hts iw_X4_plantFlip_X4 tyX4 tyX4_ok nmX4 hown hK hP hD hS 0 rfl rfl 5 (by decide) (hts _ lk_X4_plantFlip_f36) (fun _ h9 => h9) rfl (by decide +kernel) rfl rfl (Nat.le_of_ble_eq_true rfl) dX4_plantFlip_7 (fun H locs hP hD hS => ?_)
  have hP : va_P D vwCl [(h0, .inr (5, [.ref p0, .ref d0, .ref r0, .int ct, .int x, .int y, .int sk])), (p0, .inr (3, [.int (nI pB), .int (nI pS), .int (nI pG), .int (nI pE), .int (nI pC), .int (nI pO)])), (d0, .inr (2, [.ref d1, .int (nI n)])), (d1, .inl (cy 0, 70, .inl f)), (r0, .inr (2, [.ref r1, .int (nI rn)])), (r1, .inl (cy 0, 70, .inl rf))] H := hP
  have hD : va_D A [(h0, .inr (5, [.ref p0, .ref d0, .ref r0, .int ct, .int x, .int y, .int sk])), (p0, .inr (3, [.int (nI pB), .int (nI pS), .int (nI pG), .int (nI pE), .int (nI pC), .int (nI pO)])), (d0, .inr (2, [.ref d1, .int (nI n)])), (d1, .inl (cy 0, 70, .inl f)), (r0, .inr (2, [.ref r1, .int (nI rn)])), (r1, .inl (cy 0, 70, .inl rf))] := hD
  have hP9 := hP.sub (ws' := [(h0, .inr (5, [.ref p0, .ref d0, .ref r0, .int ct, .int x, .int y, .int sk])), (p0, .inr (3, [.int (nI pB), .int (nI pS), .int (nI pG), .int (nI pE), .int (nI pC), .int (nI pO)])), (d0, .inr (2, [.ref d1, .int (nI n)])), (d1, .inl (cy 0, 70, .inl f)), (r0, .inr (2, [.ref r1, .int (nI rn)])), (r1, .inl (cy 0, 70, .inl rf))]) [0, 1, 2, 3, 4, 5] rfl
  have hD9 := hD.sub (ws' := [(h0, .inr (5, [.ref p0, .ref d0, .ref r0, .int ct, .int x, .int y, .int sk])), (p0, .inr (3, [.int (nI pB), .int (nI pS), .int (nI pG), .int (nI pE), .int (nI pC), .int (nI pO)])), (d0, .inr (2, [.ref d1, .int (nI n)])), (d1, .inl (cy 0, 70, .inl f)), (r0, .inr (2, [.ref r1, .int (nI rn)])), (r1, .inl (cy 0, 70, .inl rf))]) [0, 1, 2, 3, 4, 5] (by decide) rfl
  exact W.vret hx hb hr (fun t ht hW => ⟨⟨(), rfl, trivial, by rw [ht]; exact hP9, hD9⟩, hS.F ht⟩) hS.2.2 dX4_plantFlip_10

theorem iw_X4_plantSkip_X4 : ∀ w ∈ wsX40, w ∈ wsX4_plantSkip := by decide +kernel
theorem lk_X4_plantSkip_f39 : (.fieldLink RX4 39 "DataGuards$Sender" "skip" "I" : Cond) ∈ wsX4_plantSkip := by decide +kernel
set_option maxHeartbeats 4000000 in
set_option maxRecDepth 100000 in
theorem c_X4_plantSkip (l : Launch) (D : va_G) (cy : Nat → ClassId) (sz : Nat) (h0 : Nat) (p0 : Nat) (d0 : Nat) (d1 : Nat) (r0 : Nat) (r1 : Nat) (ct : Int32) (fp : Int32) (fk : Int32) (sk : Int32) (pB : Nat) (pS : Nat) (pG : Nat) (pE : Nat) (pC : Nat) (pO : Nat) (f : Nat → Int32) (n : Nat) (rf : Nat → Int32) (rn : Nat) (x : Int32)  : Met l yX4_plantSkip wsX4_plantSkip ({ frames := 0, cells := 0, slots := 0, locals := 0 } : Room) (pre1 D cy [.ref h0, .int x] [(h0, .inr (5, [.ref p0, .ref d0, .ref r0, .int ct, .int fp, .int fk, .int sk])), (p0, .inr (3, [.int (nI pB), .int (nI pS), .int (nI pG), .int (nI pE), .int (nI pC), .int (nI pO)])), (d0, .inr (2, [.ref d1, .int (nI n)])), (d1, .inl (cy 0, 70, .inl f)), (r0, .inr (2, [.ref r1, .int (nI rn)])), (r1, .inl (cy 0, 70, .inl rf))] sz) (va_Qv (fun (u : Unit) => True) (fun u t => va_P D vwCl [(h0, .inr (5, [.ref p0, .ref d0, .ref r0, .int ct, .int fp, .int fk, .int x])), (p0, .inr (3, [.int (nI pB), .int (nI pS), .int (nI pG), .int (nI pE), .int (nI pC), .int (nI pO)])), (d0, .inr (2, [.ref d1, .int (nI n)])), (d1, .inl (cy 0, 70, .inl f)), (r0, .inr (2, [.ref r1, .int (nI rn)])), (r1, .inl (cy 0, 70, .inl rf))] t.heap ∧ va_D (va_A [(h0, .inr (5, [.ref p0, .ref d0, .ref r0, .int ct, .int fp, .int fk, .int sk])), (p0, .inr (3, [.int (nI pB), .int (nI pS), .int (nI pG), .int (nI pE), .int (nI pC), .int (nI pO)])), (d0, .inr (2, [.ref d1, .int (nI n)])), (d1, .inl (cy 0, 70, .inl f)), (r0, .inr (2, [.ref r1, .int (nI rn)])), (r1, .inl (cy 0, 70, .inl rf))] sz) [(h0, .inr (5, [.ref p0, .ref d0, .ref r0, .int ct, .int fp, .int fk, .int x])), (p0, .inr (3, [.int (nI pB), .int (nI pS), .int (nI pG), .int (nI pE), .int (nI pC), .int (nI pO)])), (d0, .inr (2, [.ref d1, .int (nI n)])), (d1, .inl (cy 0, 70, .inl f)), (r0, .inr (2, [.ref r1, .int (nI rn)])), (r1, .inl (cy 0, 70, .inl rf))]) (va_A [(h0, .inr (5, [.ref p0, .ref d0, .ref r0, .int ct, .int fp, .int fk, .int sk])), (p0, .inr (3, [.int (nI pB), .int (nI pS), .int (nI pG), .int (nI pE), .int (nI pC), .int (nI pO)])), (d0, .inr (2, [.ref d1, .int (nI n)])), (d1, .inl (cy 0, 70, .inl f)), (r0, .inr (2, [.ref r1, .int (nI rn)])), (r1, .inl (cy 0, 70, .inl rf))] sz)) 0 0 (va_A [(h0, .inr (5, [.ref p0, .ref d0, .ref r0, .int ct, .int fp, .int fk, .int sk])), (p0, .inr (3, [.int (nI pB), .int (nI pS), .int (nI pG), .int (nI pE), .int (nI pC), .int (nI pO)])), (d0, .inr (2, [.ref d1, .int (nI n)])), (d1, .inl (cy 0, 70, .inl f)), (r0, .inr (2, [.ref r1, .int (nI rn)])), (r1, .inl (cy 0, 70, .inl rf))] sz) := by
  refine Met.ofW (cc := cX4_plantSkip) (maxL := 2) (ret := none) (by decide) rfl ?_
  intro p e s m args below meth c s₁ B hml hv
  obtain ⟨rfl, hsz, hP, hkk, hD0⟩ := hv
  have hx := B.exec
  have hb := B.bytes
  have hr := B.returns
  have hts := atoms_spec (ws := wsX4_plantSkip) B.pre
  have hown : s.vm.findClass RX4 = some m.cls := findClass_of_methodNamed B.named
  have hlocks := B.notSynchronized
  have hin : meth.name = _ := (name_of_methodNamed B.named B.method).1
  have hK := hkk.1
  subst hsz
  have hD := hD0.self (sz := s.heap.size)
  generalize hAe : va_A [(h0, .inr (5, [.ref p0, .ref d0, .ref r0, .int ct, .int fp, .int fk, .int sk])), (p0, .inr (3, [.int (nI pB), .int (nI pS), .int (nI pG), .int (nI pE), .int (nI pC), .int (nI pO)])), (d0, .inr (2, [.ref d1, .int (nI n)])), (d1, .inl (cy 0, 70, .inl f)), (r0, .inr (2, [.ref r1, .int (nI rn)])), (r1, .inl (cy 0, 70, .inl rf))] s.heap.size = A at hD ⊢
  have hA : ∀ q : Nat, s.heap.size ≤ q → A q := fun q h => by rw [← hAe]; exact Or.inr h
  have hS : va_S A s.heap s.heap [] := va_S.rf
  have hP : va_P D vwCl [(h0, .inr (5, [.ref p0, .ref d0, .ref r0, .int ct, .int fp, .int fk, .int sk])), (p0, .inr (3, [.int (nI pB), .int (nI pS), .int (nI pG), .int (nI pE), .int (nI pC), .int (nI pO)])), (d0, .inr (2, [.ref d1, .int (nI n)])), (d1, .inl (cy 0, 70, .inl f)), (r0, .inr (2, [.ref r1, .int (nI rn)])), (r1, .inl (cy 0, 70, .inl rf))] s.heap := hP
  have hl := lv_entry ([.ref h0, .int x]) (n := 2) (Nat.le_of_ble_eq_true rfl)
  rw [lg_entry_eq]
  generalize (lg_sl ([.ref h0, .int x]) ++ List.replicate (2 - (lg_sl ([.ref h0, .int x])).length) Slot.unset).toArray = ls at hl ⊢
  have hl : lv_has ls 2 [(0, .ref h0), (1, .int x)] := hl
  refine lv_aload_n hx hb dX4_plantSkip_0 rfl (lv_at hl 0 rfl) ?_
  refine lv_iload_n hx hb dX4_plantSkip_1 rfl (lv_at hl 1 rfl) ?_
  refine va_put (D := D) (ci := 5) (v := .int x) (ty := .int) (C := RX4) (T := TX4) (N := 7) hx hb hts iw_X4_plantSkip_X4 tyX4 tyX4_ok nmX4 hown hK hP hD hS 0 rfl rfl 6 (by decide) (hts _ lk_X4_plantSkip_f39) (fun _ h9 => h9) rfl (by decide +kernel) rfl rfl (Nat.le_of_ble_eq_true rfl) dX4_plantSkip_2 (fun H locs hP hD hS => ?_)
  have hP : va_P D vwCl [(h0, .inr (5, [.ref p0, .ref d0, .ref r0, .int ct, .int fp, .int fk, .int x])), (p0, .inr (3, [.int (nI pB), .int (nI pS), .int (nI pG), .int (nI pE), .int (nI pC), .int (nI pO)])), (d0, .inr (2, [.ref d1, .int (nI n)])), (d1, .inl (cy 0, 70, .inl f)), (r0, .inr (2, [.ref r1, .int (nI rn)])), (r1, .inl (cy 0, 70, .inl rf))] H := hP
  have hD : va_D A [(h0, .inr (5, [.ref p0, .ref d0, .ref r0, .int ct, .int fp, .int fk, .int x])), (p0, .inr (3, [.int (nI pB), .int (nI pS), .int (nI pG), .int (nI pE), .int (nI pC), .int (nI pO)])), (d0, .inr (2, [.ref d1, .int (nI n)])), (d1, .inl (cy 0, 70, .inl f)), (r0, .inr (2, [.ref r1, .int (nI rn)])), (r1, .inl (cy 0, 70, .inl rf))] := hD
  have hP9 := hP.sub (ws' := [(h0, .inr (5, [.ref p0, .ref d0, .ref r0, .int ct, .int fp, .int fk, .int x])), (p0, .inr (3, [.int (nI pB), .int (nI pS), .int (nI pG), .int (nI pE), .int (nI pC), .int (nI pO)])), (d0, .inr (2, [.ref d1, .int (nI n)])), (d1, .inl (cy 0, 70, .inl f)), (r0, .inr (2, [.ref r1, .int (nI rn)])), (r1, .inl (cy 0, 70, .inl rf))]) [0, 1, 2, 3, 4, 5] rfl
  have hD9 := hD.sub (ws' := [(h0, .inr (5, [.ref p0, .ref d0, .ref r0, .int ct, .int fp, .int fk, .int x])), (p0, .inr (3, [.int (nI pB), .int (nI pS), .int (nI pG), .int (nI pE), .int (nI pC), .int (nI pO)])), (d0, .inr (2, [.ref d1, .int (nI n)])), (d1, .inl (cy 0, 70, .inl f)), (r0, .inr (2, [.ref r1, .int (nI rn)])), (r1, .inl (cy 0, 70, .inl rf))]) [0, 1, 2, 3, 4, 5] (by decide) rfl
  exact W.vret hx hb hr (fun t ht hW => ⟨⟨(), rfl, trivial, by rw [ht]; exact hP9, hD9⟩, hS.F ht⟩) hS.2.2 dX4_plantSkip_5

theorem lk_X4_init_m3 : (.methodLink RX4 3 objectInit : Cond) ∈ wsX4_init := by decide +kernel
theorem lk_X4_init_oi : (.instanceMethod objectInit : Cond) ∈ wsX4_init := by decide +kernel
theorem lk_X4_init_oc : (.code objectInit ⟨#[0xb1]⟩ 1 none : Cond) ∈ wsX4_init := by decide +kernel
theorem iw_X4_init_X1 : ∀ w ∈ wsX10, w ∈ wsX4_init := by decide +kernel
theorem lk_X4_init_n9 : (.classLink RX4 9 RX1 : Cond) ∈ wsX4_init := by decide +kernel
theorem lk_X4_init_niX1 : (.instantiable RX1 2 : Cond) ∈ wsX4_init := by decide +kernel
theorem lk_X4_init_iniX1 : (.initialized RX1 : Cond) ∈ wsX4_init := by decide +kernel
theorem lk_X4_init_imyX1_init : (.instanceMethod yX1_init : Cond) ∈ wsX4_init := by decide +kernel
theorem iw_X4_init_X4 : ∀ w ∈ wsX40, w ∈ wsX4_init := by decide +kernel
theorem lk_X4_init_f12 : (.fieldLink RX4 12 "DataGuards$Sender" "data" "LDataGuards$Octets;" : Cond) ∈ wsX4_init := by decide +kernel
theorem lk_X4_init_f18 : (.fieldLink RX4 18 "DataGuards$Sender" "row" "LDataGuards$Octets;" : Cond) ∈ wsX4_init := by decide +kernel
theorem lk_X4_init_f21 : (.fieldLink RX4 21 "DataGuards$Sender" "profile" "LDataGuards$Profile;" : Cond) ∈ wsX4_init := by decide +kernel
set_option maxHeartbeats 4000000 in
set_option maxRecDepth 100000 in
theorem c_X4_init (l : Launch) (D : va_G) (cy : Nat → ClassId) (sz : Nat) (h0 : Nat) (p0 : Nat)  : Met l yX4_init wsX4_init ({ frames := 2, cells := 4, slots := 144, locals := 40 } : Room) (pre1 D cy [.ref h0, .ref p0] [(h0, .inr (5, [.null, .null, .null, .int 0, .int 0, .int 0, .int 0]))] sz) (va_Qv (fun (u : (Nat) × (Nat) × (Nat) × (Nat)) => True) (fun u t => va_P D vwCl [(h0, .inr (5, [.ref p0, .ref u.1, .ref u.2.2.1, .int 0, .int 0, .int 0, .int 0])), (u.1, .inr (2, [.ref u.2.1, .int 0])), (u.2.1, .inl (cy 0, 70, .inl (fun _ => 0))), (u.2.2.1, .inr (2, [.ref u.2.2.2, .int 0])), (u.2.2.2, .inl (cy 0, 70, .inl (fun _ => 0)))] t.heap ∧ va_D (va_A [(h0, .inr (5, [.null, .null, .null, .int 0, .int 0, .int 0, .int 0]))] sz) [(h0, .inr (5, [.ref p0, .ref u.1, .ref u.2.2.1, .int 0, .int 0, .int 0, .int 0])), (u.1, .inr (2, [.ref u.2.1, .int 0])), (u.2.1, .inl (cy 0, 70, .inl (fun _ => 0))), (u.2.2.1, .inr (2, [.ref u.2.2.2, .int 0])), (u.2.2.2, .inl (cy 0, 70, .inl (fun _ => 0)))]) (va_A [(h0, .inr (5, [.null, .null, .null, .int 0, .int 0, .int 0, .int 0]))] sz)) 4 144 (va_A [(h0, .inr (5, [.null, .null, .null, .int 0, .int 0, .int 0, .int 0]))] sz) := by
  refine Met.ofW (cc := cX4_init) (maxL := 2) (ret := none) (by decide) rfl ?_
  intro p e s m args below meth c s₁ B hml hv
  obtain ⟨rfl, hsz, hP, hkk, hD0⟩ := hv
  have hx := B.exec
  have hb := B.bytes
  have hr := B.returns
  have hts := atoms_spec (ws := wsX4_init) B.pre
  have hown : s.vm.findClass RX4 = some m.cls := findClass_of_methodNamed B.named
  have hlocks := B.notSynchronized
  have hin : meth.name = _ := (name_of_methodNamed B.named B.method).1
  have hK := hkk.1
  subst hsz
  have hD := hD0.self (sz := s.heap.size)
  generalize hAe : va_A [(h0, .inr (5, [.null, .null, .null, .int 0, .int 0, .int 0, .int 0]))] s.heap.size = A at hD ⊢
  have hA : ∀ q : Nat, s.heap.size ≤ q → A q := fun q h => by rw [← hAe]; exact Or.inr h
  have hS : va_S A s.heap s.heap [] := va_S.rf
  have hP : va_P D vwCl [(h0, .inr (5, [.null, .null, .null, .int 0, .int 0, .int 0, .int 0]))] s.heap := hP
  have hl := lv_entry ([.ref h0, .ref p0]) (n := 2) (Nat.le_of_ble_eq_true rfl)
  rw [lg_entry_eq]
  generalize (lg_sl ([.ref h0, .ref p0]) ++ List.replicate (2 - (lg_sl ([.ref h0, .ref p0])).length) Slot.unset).toArray = ls at hl ⊢
  have hl : lv_has ls 2 [(0, .ref h0), (1, .ref p0)] := hl
  refine lv_aload_n hx hb dX4_init_0 rfl (lv_at hl 0 rfl) ?_
  refine W.objInit hx hb hown (hts _ lk_X4_init_m3) (hts _ lk_X4_init_oi) (hts _ lk_X4_init_oc) rfl (by rw [hml]; exact hl.1) rfl dX4_init_1 (Nat.le_of_ble_eq_true rfl) (Nat.le_of_ble_eq_true rfl) ?_
  refine W.eq (g2 := F0 m 4 ls []) rfl ?_
  refine lv_aload_n hx hb dX4_init_4 rfl (lv_at hl 0 rfl) ?_
  refine va_new (ci := 2) (fs := [.null, .int 0]) (C := RX1) (T := TX1) (N := 2) hx hb hts iw_X4_init_X1 tyX1 tyX1_ok hown (hts _ lk_X4_init_n9) (hts _ lk_X4_init_niX1) (hts _ lk_X4_init_iniX1) hK hP hD hS hA rfl (fun j hj => by rcases (show j = 0 ∨ j = 1 by omega) with rfl | rfl <;> rfl) (Nat.le_of_ble_eq_true rfl) (Nat.le_of_ble_eq_true rfl) dX4_init_5 (fun q_5 H hP hD hS => ?_)
  have hP : va_P D vwCl [(h0, .inr (5, [.null, .null, .null, .int 0, .int 0, .int 0, .int 0])), (q_5, .inr (2, [.null, .int 0]))] H := hP
  have hD : va_D A [(h0, .inr (5, [.null, .null, .null, .int 0, .int 0, .int 0, .int 0])), (q_5, .inr (2, [.null, .int 0]))] := hD
  refine W.widen (k := 1) (n := 2) (by decide) (by decide) ?_
  refine lv_dup hx hb dX4_init_8 rfl ?_
  have hPc := hP.sub (ws' := [(q_5, .inr (2, [.null, .int 0]))]) [1] rfl
  have hDc := hD.sub (ws' := [(q_5, .inr (2, [.null, .int 0]))]) [1] (by decide) rfl
  have hFc := va_free (wc := [(q_5, .inr (2, [.null, .int 0]))]) hD hS hA [1] rfl
  refine va_callv (va_runIN (As := []) (rest := [.ref q_5, .ref h0]) ⟨hx, hb, hml, hown, hts⟩ (c_X1_init l D cy H.size q_5 ) ⟨va_cnB 0 hts gX4_init_X1_init_n11 rfl rfl rfl (nw_get 9 rfl hkk.2) (hts _ lk_X4_init_iniX1) (by decide +kernel) ⟨Nat.le_of_ble_eq_true rfl, Nat.le_of_ble_eq_true rfl⟩, rfl, (hts _ lk_X4_init_imyX1_init)⟩ (pv_S hkk hPc hDc rfl) rfl rfl hl.1 rfl (lv_room (Nat.le_of_ble_eq_true rfl)) dX4_init_9 ⟨Nat.le_of_ble_eq_true rfl, Nat.le_of_ble_eq_true rfl⟩) hS (fun q _ h => hFc q h) hFc (fun u t H1 locs ht hvm hw hB hz1 hk1 hS => ?_)
  obtain ⟨h1_9, rfl⟩ : ∃ z, z = u := ⟨_, rfl⟩
  obtain ⟨hP1, hD1⟩ := hB
  rw [ht] at hP1
  try dsimp only at hw hP1 hD1
  obtain ⟨hP, hD⟩ := va_join (wr := [(h0, .inr (5, [.null, .null, .null, .int 0, .int 0, .int 0, .int 0]))]) (w1 := [(q_5, .inr (2, [.ref h1_9, .int 0])), (h1_9, .inl (cy 0, 70, .inl (fun _ => 0)))]) hP hD [1] [0] rfl rfl (by decide) (by decide) hk1 hFc hP1 hD1
  clear hPc hDc hFc hP1 hD1 hz1 hk1
  generalize H1 = H at hP hS ⊢
  have hP : va_P D vwCl [(h0, .inr (5, [.null, .null, .null, .int 0, .int 0, .int 0, .int 0])), (q_5, .inr (2, [.ref h1_9, .int 0])), (h1_9, .inl (cy 0, 70, .inl (fun _ => 0)))] H := hP
  have hD : va_D A [(h0, .inr (5, [.null, .null, .null, .int 0, .int 0, .int 0, .int 0])), (q_5, .inr (2, [.ref h1_9, .int 0])), (h1_9, .inl (cy 0, 70, .inl (fun _ => 0)))] := hD
  refine W.widen (k := 2) (n := 72) (by decide) (by decide) ?_
  have hw_9 := hw
  refine va_putF (D := D) (ci := 5) (v := .ref q_5) (ty := (.object "DataGuards$Octets")) (C := RX4) (T := TX4) (N := 7) hx hb hts iw_X4_init_X4 tyX4 tyX4_ok nmX4 hown hK hP hD hS 0 rfl rfl 1 (by decide) (hts _ lk_X4_init_f12) (fun _ h9 => h9) rfl hin rfl (by decide +kernel) rfl rfl (Nat.le_of_ble_eq_true rfl) dX4_init_12 (fun H locs hP hD hS => ?_)
  have hP : va_P D vwCl [(h0, .inr (5, [.null, .ref q_5, .null, .int 0, .int 0, .int 0, .int 0])), (q_5, .inr (2, [.ref h1_9, .int 0])), (h1_9, .inl (cy 0, 70, .inl (fun _ => 0)))] H := hP
  have hD : va_D A [(h0, .inr (5, [.null, .ref q_5, .null, .int 0, .int 0, .int 0, .int 0])), (q_5, .inr (2, [.ref h1_9, .int 0])), (h1_9, .inl (cy 0, 70, .inl (fun _ => 0)))] := hD
  refine lv_aload_n hx hb dX4_init_15 rfl (lv_at hl 0 rfl) ?_
  refine va_new (ci := 2) (fs := [.null, .int 0]) (C := RX1) (T := TX1) (N := 2) hx hb hts iw_X4_init_X1 tyX1 tyX1_ok hown (hts _ lk_X4_init_n9) (hts _ lk_X4_init_niX1) (hts _ lk_X4_init_iniX1) hK hP hD hS hA rfl (fun j hj => by rcases (show j = 0 ∨ j = 1 by omega) with rfl | rfl <;> rfl) (Nat.le_of_ble_eq_true rfl) (Nat.le_of_ble_eq_true rfl) dX4_init_16 (fun q_16 H hP hD hS => ?_)
  have hP : va_P D vwCl [(h0, .inr (5, [.null, .ref q_5, .null, .int 0, .int 0, .int 0, .int 0])), (q_5, .inr (2, [.ref h1_9, .int 0])), (h1_9, .inl (cy 0, 70, .inl (fun _ => 0))), (q_16, .inr (2, [.null, .int 0]))] H := hP
  have hD : va_D A [(h0, .inr (5, [.null, .ref q_5, .null, .int 0, .int 0, .int 0, .int 0])), (q_5, .inr (2, [.ref h1_9, .int 0])), (h1_9, .inl (cy 0, 70, .inl (fun _ => 0))), (q_16, .inr (2, [.null, .int 0]))] := hD
  refine W.widen (k := 3) (n := 74) (by decide) (by decide) ?_
  refine lv_dup hx hb dX4_init_19 rfl ?_
  have hPc := hP.sub (ws' := [(q_16, .inr (2, [.null, .int 0]))]) [3] rfl
  have hDc := hD.sub (ws' := [(q_16, .inr (2, [.null, .int 0]))]) [3] (by decide) rfl
  have hFc := va_free (wc := [(q_16, .inr (2, [.null, .int 0]))]) hD hS hA [3] rfl
  refine va_callv (va_runIN (As := []) (rest := [.ref q_16, .ref h0]) ⟨hx, hb, hml, hown, hts⟩ (c_X1_init l D cy H.size q_16 ) ⟨va_cnB 0 hts gX4_init_X1_init_n11 rfl rfl rfl (nw_get 9 rfl hkk.2) (hts _ lk_X4_init_iniX1) (by decide +kernel) ⟨Nat.le_of_ble_eq_true rfl, Nat.le_of_ble_eq_true rfl⟩, rfl, (hts _ lk_X4_init_imyX1_init)⟩ (pv_S hkk hPc hDc rfl) rfl rfl hl.1 rfl (lv_room (Nat.le_of_ble_eq_true rfl)) dX4_init_20 ⟨Nat.le_of_ble_eq_true rfl, Nat.le_of_ble_eq_true rfl⟩) hS (fun q _ h => hFc q h) hFc (fun u t H1 locs ht hvm hw hB hz1 hk1 hS => ?_)
  obtain ⟨h1_20, rfl⟩ : ∃ z, z = u := ⟨_, rfl⟩
  obtain ⟨hP1, hD1⟩ := hB
  rw [ht] at hP1
  try dsimp only at hw hP1 hD1
  obtain ⟨hP, hD⟩ := va_join (wr := [(h0, .inr (5, [.null, .ref q_5, .null, .int 0, .int 0, .int 0, .int 0])), (q_5, .inr (2, [.ref h1_9, .int 0])), (h1_9, .inl (cy 0, 70, .inl (fun _ => 0)))]) (w1 := [(q_16, .inr (2, [.ref h1_20, .int 0])), (h1_20, .inl (cy 0, 70, .inl (fun _ => 0)))]) hP hD [3] [0, 1, 2] rfl rfl (by decide) (by decide) hk1 hFc hP1 hD1
  clear hPc hDc hFc hP1 hD1 hz1 hk1
  generalize H1 = H at hP hS ⊢
  have hP : va_P D vwCl [(h0, .inr (5, [.null, .ref q_5, .null, .int 0, .int 0, .int 0, .int 0])), (q_5, .inr (2, [.ref h1_9, .int 0])), (h1_9, .inl (cy 0, 70, .inl (fun _ => 0))), (q_16, .inr (2, [.ref h1_20, .int 0])), (h1_20, .inl (cy 0, 70, .inl (fun _ => 0)))] H := hP
  have hD : va_D A [(h0, .inr (5, [.null, .ref q_5, .null, .int 0, .int 0, .int 0, .int 0])), (q_5, .inr (2, [.ref h1_9, .int 0])), (h1_9, .inl (cy 0, 70, .inl (fun _ => 0))), (q_16, .inr (2, [.ref h1_20, .int 0])), (h1_20, .inl (cy 0, 70, .inl (fun _ => 0)))] := hD
  refine W.widen (k := 4) (n := 144) (by decide) (by decide) ?_
  have hw_20 := hw
  refine va_putF (D := D) (ci := 5) (v := .ref q_16) (ty := (.object "DataGuards$Octets")) (C := RX4) (T := TX4) (N := 7) hx hb hts iw_X4_init_X4 tyX4 tyX4_ok nmX4 hown hK hP hD hS 0 rfl rfl 2 (by decide) (hts _ lk_X4_init_f18) (fun _ h9 => h9) rfl hin rfl (by decide +kernel) rfl rfl (Nat.le_of_ble_eq_true rfl) dX4_init_23 (fun H locs hP hD hS => ?_)
  have hP : va_P D vwCl [(h0, .inr (5, [.null, .ref q_5, .ref q_16, .int 0, .int 0, .int 0, .int 0])), (q_5, .inr (2, [.ref h1_9, .int 0])), (h1_9, .inl (cy 0, 70, .inl (fun _ => 0))), (q_16, .inr (2, [.ref h1_20, .int 0])), (h1_20, .inl (cy 0, 70, .inl (fun _ => 0)))] H := hP
  have hD : va_D A [(h0, .inr (5, [.null, .ref q_5, .ref q_16, .int 0, .int 0, .int 0, .int 0])), (q_5, .inr (2, [.ref h1_9, .int 0])), (h1_9, .inl (cy 0, 70, .inl (fun _ => 0))), (q_16, .inr (2, [.ref h1_20, .int 0])), (h1_20, .inl (cy 0, 70, .inl (fun _ => 0)))] := hD
  refine lv_aload_n hx hb dX4_init_26 rfl (lv_at hl 0 rfl) ?_
  refine lv_aload_n hx hb dX4_init_27 rfl (lv_at hl 1 rfl) ?_
  refine va_putF (D := D) (ci := 5) (v := .ref p0) (ty := (.object "DataGuards$Profile")) (C := RX4) (T := TX4) (N := 7) hx hb hts iw_X4_init_X4 tyX4 tyX4_ok nmX4 hown hK hP hD hS 0 rfl rfl 0 (by decide) (hts _ lk_X4_init_f21) (fun _ h9 => h9) rfl hin rfl (by decide +kernel) rfl rfl (Nat.le_of_ble_eq_true rfl) dX4_init_28 (fun H locs hP hD hS => ?_)
  have hP : va_P D vwCl [(h0, .inr (5, [.ref p0, .ref q_5, .ref q_16, .int 0, .int 0, .int 0, .int 0])), (q_5, .inr (2, [.ref h1_9, .int 0])), (h1_9, .inl (cy 0, 70, .inl (fun _ => 0))), (q_16, .inr (2, [.ref h1_20, .int 0])), (h1_20, .inl (cy 0, 70, .inl (fun _ => 0)))] H := hP
  have hD : va_D A [(h0, .inr (5, [.ref p0, .ref q_5, .ref q_16, .int 0, .int 0, .int 0, .int 0])), (q_5, .inr (2, [.ref h1_9, .int 0])), (h1_9, .inl (cy 0, 70, .inl (fun _ => 0))), (q_16, .inr (2, [.ref h1_20, .int 0])), (h1_20, .inl (cy 0, 70, .inl (fun _ => 0)))] := hD
  have hP9 := hP.sub (ws' := [(h0, .inr (5, [.ref p0, .ref q_5, .ref q_16, .int 0, .int 0, .int 0, .int 0])), (q_5, .inr (2, [.ref h1_9, .int 0])), (h1_9, .inl (cy 0, 70, .inl (fun _ => 0))), (q_16, .inr (2, [.ref h1_20, .int 0])), (h1_20, .inl (cy 0, 70, .inl (fun _ => 0)))]) [0, 1, 2, 3, 4] rfl
  have hD9 := hD.sub (ws' := [(h0, .inr (5, [.ref p0, .ref q_5, .ref q_16, .int 0, .int 0, .int 0, .int 0])), (q_5, .inr (2, [.ref h1_9, .int 0])), (h1_9, .inl (cy 0, 70, .inl (fun _ => 0))), (q_16, .inr (2, [.ref h1_20, .int 0])), (h1_20, .inl (cy 0, 70, .inl (fun _ => 0)))]) [0, 1, 2, 3, 4] (by decide) rfl
  exact W.vret hx hb hr (fun t ht hW => ⟨⟨(q_5, h1_9, q_16, h1_20), rfl, trivial, by rw [ht]; exact hP9, hD9⟩, hS.F ht⟩) hS.2.2 dX4_init_31

theorem iw_X4_makeRow_X4 : ∀ w ∈ wsX40, w ∈ wsX4_makeRow := by decide +kernel
theorem lk_X4_makeRow_f21 : (.fieldLink RX4 21 "DataGuards$Sender" "profile" "LDataGuards$Profile;" : Cond) ∈ wsX4_makeRow := by decide +kernel
theorem lk_X4_makeRow_f42 : (.fieldLink RX4 42 "DataGuards$Sender" "nextCounter" "I" : Cond) ∈ wsX4_makeRow := by decide +kernel
theorem lk_X4_makeRow_f39 : (.fieldLink RX4 39 "DataGuards$Sender" "skip" "I" : Cond) ∈ wsX4_makeRow := by decide +kernel
theorem lk_X4_makeRow_f18 : (.fieldLink RX4 18 "DataGuards$Sender" "row" "LDataGuards$Octets;" : Cond) ∈ wsX4_makeRow := by decide +kernel
theorem iw_X4_makeRow_X2 : ∀ w ∈ wsX20, w ∈ wsX4_makeRow := by decide +kernel
theorem lk_X4_makeRow_f12 : (.fieldLink RX4 12 "DataGuards$Sender" "data" "LDataGuards$Octets;" : Cond) ∈ wsX4_makeRow := by decide +kernel
theorem iw_X4_makeRow_X1 : ∀ w ∈ wsX10, w ∈ wsX4_makeRow := by decide +kernel
theorem lk_X4_makeRow_f33 : (.fieldLink RX4 33 "DataGuards$Sender" "flipPlace" "I" : Cond) ∈ wsX4_makeRow := by decide +kernel
theorem lk_X4_makeRow_f36 : (.fieldLink RX4 36 "DataGuards$Sender" "flipMask" "I" : Cond) ∈ wsX4_makeRow := by decide +kernel
set_option maxHeartbeats 4000000 in
set_option maxRecDepth 100000 in
/-- Sender.makeRow(identity) -/
theorem c_X4_makeRow (l : Launch) (D : va_G) (cy : Nat → ClassId) (sz : Nat) (h0 : Nat) (p0 : Nat) (d0 : Nat) (d1 : Nat) (r0 : Nat) (r1 : Nat) (ct : Nat) (fp : Nat) (fk : Int32) (sk : Nat) (pB : Nat) (pS : Nat) (pG : Nat) (pE : Nat) (pC : Nat) (pO : Nat) (f : Nat → Int32) (n : Nat) (rf : Nat → Int32) (rn : Nat) (g : Nat → Nat) (d : Nat) (hpv : pvd pB pS pG pE pC pO) (hn : n ≤ 64) (hg : oc_is f n g) (hd : d < 65536) (hct : ct < pC) (hfp : fp ≤ 100) (hsk : sk ≤ 100) : Met l yX4_makeRow wsX4_makeRow ({ frames := 3, cells := 0, slots := 0, locals := 67 } : Room) (pre1 D cy [.ref h0, .int (nI d)] [(h0, .inr (5, [.ref p0, .ref d0, .ref r0, .int (nI ct), .int (nI fp), .int fk, .int (nI sk)])), (p0, .inr (3, [.int (nI pB), .int (nI pS), .int (nI pG), .int (nI pE), .int (nI pC), .int (nI pO)])), (d0, .inr (2, [.ref d1, .int (nI n)])), (d1, .inl (cy 0, 70, .inl f)), (r0, .inr (2, [.ref r1, .int (nI rn)])), (r1, .inl (cy 0, 70, .inl rf))] sz) (va_Qi (fun (r : Int32) (u : (Nat → Int32)) => r = nI (pO + n + pB / 8) ∧ (oc_is u (pO + n + pB / 8) (flp fp (m8 fk) (rwv (pO + n) (pB / 8) (ck pB pS pG pE d (hdr pO ((ct + sk) % pC) g) (pO + n)) (hdr pO ((ct + sk) % pC) g))))) (fun u t => va_P D vwCl [(h0, .inr (5, [.ref p0, .ref d0, .ref r0, .int (nI (((ct + sk) % pC + 1) % pC)), .int (nI fp), .int 0, .int (nI 0)])), (p0, .inr (3, [.int (nI pB), .int (nI pS), .int (nI pG), .int (nI pE), .int (nI pC), .int (nI pO)])), (d0, .inr (2, [.ref d1, .int (nI 0)])), (d1, .inl (cy 0, 70, .inl f)), (r0, .inr (2, [.ref r1, .int (nI (pO + n + pB / 8))])), (r1, .inl (cy 0, 70, .inl u))] t.heap ∧ va_D (va_A [(h0, .inr (5, [.ref p0, .ref d0, .ref r0, .int (nI ct), .int (nI fp), .int fk, .int (nI sk)])), (p0, .inr (3, [.int (nI pB), .int (nI pS), .int (nI pG), .int (nI pE), .int (nI pC), .int (nI pO)])), (d0, .inr (2, [.ref d1, .int (nI n)])), (d1, .inl (cy 0, 70, .inl f)), (r0, .inr (2, [.ref r1, .int (nI rn)])), (r1, .inl (cy 0, 70, .inl rf))] sz) [(h0, .inr (5, [.ref p0, .ref d0, .ref r0, .int (nI (((ct + sk) % pC + 1) % pC)), .int (nI fp), .int 0, .int (nI 0)])), (p0, .inr (3, [.int (nI pB), .int (nI pS), .int (nI pG), .int (nI pE), .int (nI pC), .int (nI pO)])), (d0, .inr (2, [.ref d1, .int (nI 0)])), (d1, .inl (cy 0, 70, .inl f)), (r0, .inr (2, [.ref r1, .int (nI (pO + n + pB / 8))])), (r1, .inl (cy 0, 70, .inl u))]) (va_A [(h0, .inr (5, [.ref p0, .ref d0, .ref r0, .int (nI ct), .int (nI fp), .int fk, .int (nI sk)])), (p0, .inr (3, [.int (nI pB), .int (nI pS), .int (nI pG), .int (nI pE), .int (nI pC), .int (nI pO)])), (d0, .inr (2, [.ref d1, .int (nI n)])), (d1, .inl (cy 0, 70, .inl f)), (r0, .inr (2, [.ref r1, .int (nI rn)])), (r1, .inl (cy 0, 70, .inl rf))] sz)) 0 0 (va_A [(h0, .inr (5, [.ref p0, .ref d0, .ref r0, .int (nI ct), .int (nI fp), .int fk, .int (nI sk)])), (p0, .inr (3, [.int (nI pB), .int (nI pS), .int (nI pG), .int (nI pE), .int (nI pC), .int (nI pO)])), (d0, .inr (2, [.ref d1, .int (nI n)])), (d1, .inl (cy 0, 70, .inl f)), (r0, .inr (2, [.ref r1, .int (nI rn)])), (r1, .inl (cy 0, 70, .inl rf))] sz) := by
  refine Met.ofW (cc := cX4_makeRow) (maxL := 3) (ret := (some .int)) (by decide) rfl ?_
  intro p e s m args below meth c s₁ B hml hv
  obtain ⟨rfl, hsz, hP, hkk, hD0⟩ := hv
  have hx := B.exec
  have hb := B.bytes
  have hr := B.returns
  have hts := atoms_spec (ws := wsX4_makeRow) B.pre
  have hown : s.vm.findClass RX4 = some m.cls := findClass_of_methodNamed B.named
  have hlocks := B.notSynchronized
  have hin : meth.name = _ := (name_of_methodNamed B.named B.method).1
  have hK := hkk.1
  subst hsz
  have hD := hD0.self (sz := s.heap.size)
  generalize hAe : va_A [(h0, .inr (5, [.ref p0, .ref d0, .ref r0, .int (nI ct), .int (nI fp), .int fk, .int (nI sk)])), (p0, .inr (3, [.int (nI pB), .int (nI pS), .int (nI pG), .int (nI pE), .int (nI pC), .int (nI pO)])), (d0, .inr (2, [.ref d1, .int (nI n)])), (d1, .inl (cy 0, 70, .inl f)), (r0, .inr (2, [.ref r1, .int (nI rn)])), (r1, .inl (cy 0, 70, .inl rf))] s.heap.size = A at hD ⊢
  have hA : ∀ q : Nat, s.heap.size ≤ q → A q := fun q h => by rw [← hAe]; exact Or.inr h
  have hS : va_S A s.heap s.heap [] := va_S.rf
  have hP : va_P D vwCl [(h0, .inr (5, [.ref p0, .ref d0, .ref r0, .int (nI ct), .int (nI fp), .int fk, .int (nI sk)])), (p0, .inr (3, [.int (nI pB), .int (nI pS), .int (nI pG), .int (nI pE), .int (nI pC), .int (nI pO)])), (d0, .inr (2, [.ref d1, .int (nI n)])), (d1, .inl (cy 0, 70, .inl f)), (r0, .inr (2, [.ref r1, .int (nI rn)])), (r1, .inl (cy 0, 70, .inl rf))] s.heap := hP
  have hl := lv_entry ([.ref h0, .int (nI d)]) (n := 3) (Nat.le_of_ble_eq_true rfl)
  rw [lg_entry_eq]
  generalize (lg_sl ([.ref h0, .int (nI d)]) ++ List.replicate (3 - (lg_sl ([.ref h0, .int (nI d)])).length) Slot.unset).toArray = ls at hl ⊢
  have hl : lv_has ls 3 [(0, .ref h0), (1, .int (nI d))] := hl
  have h8 := isB_8 hpv.1
  have hO2 := hpv.2.2.2.2.2.2
  have hC9 := hpv.2.2.2.2.2.1
  have hC0 := hpv.2.2.2.2.1
  have hU : (ct + sk) % pC < pC := Nat.mod_lt _ hC0
  refine lv_aload_n hx hb dX4_makeRow_0 rfl (lv_at hl 0 rfl) ?_
  refine va_get (D := D) (ci := 5) (v := .ref p0) (C := RX4) (T := TX4) (N := 7) hx hb hts iw_X4_makeRow_X4 hown hK hP 0 rfl rfl 0 (by decide) (hts _ lk_X4_makeRow_f21) (fun _ h9 => h9) rfl dX4_makeRow_1 ?_
  refine lv_aload_n hx hb dX4_makeRow_4 rfl (lv_at hl 0 rfl) ?_
  refine va_get (D := D) (ci := 5) (v := .int (nI ct)) (C := RX4) (T := TX4) (N := 7) hx hb hts iw_X4_makeRow_X4 hown hK hP 0 rfl rfl 3 (by decide) (hts _ lk_X4_makeRow_f42) (fun _ h9 => h9) rfl dX4_makeRow_5 ?_
  refine lv_aload_n hx hb dX4_makeRow_8 rfl (lv_at hl 0 rfl) ?_
  refine va_get (D := D) (ci := 5) (v := .int (nI sk)) (C := RX4) (T := TX4) (N := 7) hx hb hts iw_X4_makeRow_X4 hown hK hP 0 rfl rfl 6 (by decide) (hts _ lk_X4_makeRow_f39) (fun _ h9 => h9) rfl dX4_makeRow_9 ?_
  refine lv_iadd hx hb dX4_makeRow_12 ?_
  have hPc := hP.sub (ws' := [(p0, .inr (3, [.int (nI pB), .int (nI pS), .int (nI pG), .int (nI pE), .int (nI pC), .int (nI pO)]))]) [1] rfl
  have hDc := hD.sub (ws' := [(p0, .inr (3, [.int (nI pB), .int (nI pS), .int (nI pG), .int (nI pE), .int (nI pC), .int (nI pO)]))]) [1] (by decide) rfl
  have hFc := va_free (wc := [(p0, .inr (3, [.int (nI pB), .int (nI pS), .int (nI pG), .int (nI pE), .int (nI pC), .int (nI pO)]))]) hD hS hA [1] rfl
  refine va_calli (va_runV (As := [.int ((nI ct) + (nI sk))]) (rest := []) ⟨hx, hb, hml, hown, hts⟩ (c_X2_goingRound l D cy s.heap.size p0 pB pS pG pE pC pO ((nI ct) + (nI sk)) hpv.2.2.2.2.1 hpv.2.2.2.2.2.1) (cwV 1 hts gX4_makeRow_X2_goingRound rfl rfl rfl (by decide +kernel) ⟨Nat.le_of_ble_eq_true rfl, Nat.le_of_ble_eq_true rfl⟩) (pv_V (ci := 3) (q := (RX2, TX2, 6)) hkk hPc hDc rfl rfl rfl) rfl rfl hl.1 rfl (lv_room (Nat.le_of_ble_eq_true rfl)) dX4_makeRow_13 ⟨Nat.le_of_ble_eq_true rfl, Nat.le_of_ble_eq_true rfl⟩) hS (fun q _ h => hFc q h) hFc (fun r_13 u t H1 locs ht hvm hw hB hz1 hk1 hS => ?_)
  obtain ⟨hP1, hD1⟩ := hB
  rw [ht] at hP1
  try dsimp only at hw hP1 hD1
  obtain ⟨hP, hD⟩ := va_join (wr := [(h0, .inr (5, [.ref p0, .ref d0, .ref r0, .int (nI ct), .int (nI fp), .int fk, .int (nI sk)])), (d0, .inr (2, [.ref d1, .int (nI n)])), (d1, .inl (cy 0, 70, .inl f)), (r0, .inr (2, [.ref r1, .int (nI rn)])), (r1, .inl (cy 0, 70, .inl rf))]) (w1 := [(p0, .inr (3, [.int (nI pB), .int (nI pS), .int (nI pG), .int (nI pE), .int (nI pC), .int (nI pO)]))]) hP hD [1] [0, 2, 3, 4, 5] rfl rfl (by decide) (by decide) hk1 hFc hP1 hD1
  clear hPc hDc hFc hP1 hD1 hz1 hk1
  generalize H1 = H at hP hS ⊢
  have hP : va_P D vwCl [(h0, .inr (5, [.ref p0, .ref d0, .ref r0, .int (nI ct), .int (nI fp), .int fk, .int (nI sk)])), (d0, .inr (2, [.ref d1, .int (nI n)])), (d1, .inl (cy 0, 70, .inl f)), (r0, .inr (2, [.ref r1, .int (nI rn)])), (r1, .inl (cy 0, 70, .inl rf)), (p0, .inr (3, [.int (nI pB), .int (nI pS), .int (nI pG), .int (nI pE), .int (nI pC), .int (nI pO)]))] H := hP
  have hD : va_D A [(h0, .inr (5, [.ref p0, .ref d0, .ref r0, .int (nI ct), .int (nI fp), .int fk, .int (nI sk)])), (d0, .inr (2, [.ref d1, .int (nI n)])), (d1, .inl (cy 0, 70, .inl f)), (r0, .inr (2, [.ref r1, .int (nI rn)])), (r1, .inl (cy 0, 70, .inl rf)), (p0, .inr (3, [.int (nI pB), .int (nI pS), .int (nI pG), .int (nI pE), .int (nI pC), .int (nI pO)]))] := hD
  obtain rfl := hw
  refine lv_topi (fun x_13 ex_13 => ?_)
  obtain rfl : x_13 = nI ((ct + sk) % pC) := by rw [ex_13]; exact fm_add (by omega) hsk hC0 hC9
  refine lv_istore_n (lv' := [(2, .int (nI ((ct + sk) % pC))), (0, .ref h0), (1, .int (nI d))]) hx hb dX4_makeRow_16 rfl hl (by decide) rfl (fun ls hl => ?_)
  refine lv_aload_n hx hb dX4_makeRow_17 rfl (lv_at hl 1 rfl) ?_
  refine va_get (D := D) (ci := 5) (v := .ref r0) (C := RX4) (T := TX4) (N := 7) hx hb hts iw_X4_makeRow_X4 hown hK hP 0 rfl rfl 2 (by decide) (hts _ lk_X4_makeRow_f18) (fun _ h9 => h9) rfl dX4_makeRow_18 ?_
  have hPc := hP.sub (ws' := [(r0, .inr (2, [.ref r1, .int (nI rn)])), (r1, .inl (cy 0, 70, .inl rf))]) [3, 4] rfl
  have hDc := hD.sub (ws' := [(r0, .inr (2, [.ref r1, .int (nI rn)])), (r1, .inl (cy 0, 70, .inl rf))]) [3, 4] (by decide) rfl
  have hFc := va_free (wc := [(r0, .inr (2, [.ref r1, .int (nI rn)])), (r1, .inl (cy 0, 70, .inl rf))]) hD hS hA [3, 4] rfl
  refine va_callv (va_runV (As := []) (rest := []) ⟨hx, hb, hml, hown, hts⟩ (c_X1_clear l D cy H.size r0 r1 rf rn ) (cwV 0 hts gX4_makeRow_X1_clear rfl rfl rfl (by decide +kernel) ⟨Nat.le_of_ble_eq_true rfl, Nat.le_of_ble_eq_true rfl⟩) (pv_V (ci := 2) (q := (RX1, TX1, 2)) hkk hPc hDc rfl rfl rfl) rfl rfl hl.1 rfl (lv_room (Nat.le_of_ble_eq_true rfl)) dX4_makeRow_21 ⟨Nat.le_of_ble_eq_true rfl, Nat.le_of_ble_eq_true rfl⟩) hS (fun q _ h => hFc q h) hFc (fun u t H1 locs ht hvm hw hB hz1 hk1 hS => ?_)
  obtain ⟨hP1, hD1⟩ := hB
  rw [ht] at hP1
  try dsimp only at hw hP1 hD1
  obtain ⟨hP, hD⟩ := va_join (wr := [(h0, .inr (5, [.ref p0, .ref d0, .ref r0, .int (nI ct), .int (nI fp), .int fk, .int (nI sk)])), (d0, .inr (2, [.ref d1, .int (nI n)])), (d1, .inl (cy 0, 70, .inl f)), (p0, .inr (3, [.int (nI pB), .int (nI pS), .int (nI pG), .int (nI pE), .int (nI pC), .int (nI pO)]))]) (w1 := [(r0, .inr (2, [.ref r1, .int (nI 0)])), (r1, .inl (cy 0, 70, .inl rf))]) hP hD [3, 4] [0, 1, 2, 5] rfl rfl (by decide) (by decide) hk1 hFc hP1 hD1
  clear hPc hDc hFc hP1 hD1 hz1 hk1
  generalize H1 = H at hP hS ⊢
  have hP : va_P D vwCl [(h0, .inr (5, [.ref p0, .ref d0, .ref r0, .int (nI ct), .int (nI fp), .int fk, .int (nI sk)])), (d0, .inr (2, [.ref d1, .int (nI n)])), (d1, .inl (cy 0, 70, .inl f)), (p0, .inr (3, [.int (nI pB), .int (nI pS), .int (nI pG), .int (nI pE), .int (nI pC), .int (nI pO)])), (r0, .inr (2, [.ref r1, .int (nI 0)])), (r1, .inl (cy 0, 70, .inl rf))] H := hP
  have hD : va_D A [(h0, .inr (5, [.ref p0, .ref d0, .ref r0, .int (nI ct), .int (nI fp), .int fk, .int (nI sk)])), (d0, .inr (2, [.ref d1, .int (nI n)])), (d1, .inl (cy 0, 70, .inl f)), (p0, .inr (3, [.int (nI pB), .int (nI pS), .int (nI pG), .int (nI pE), .int (nI pC), .int (nI pO)])), (r0, .inr (2, [.ref r1, .int (nI 0)])), (r1, .inl (cy 0, 70, .inl rf))] := hD
  have hw_21 := hw
  refine lv_aload_n hx hb dX4_makeRow_24 rfl (lv_at hl 1 rfl) ?_
  refine va_get (D := D) (ci := 5) (v := .ref r0) (C := RX4) (T := TX4) (N := 7) hx hb hts iw_X4_makeRow_X4 hown hK hP 0 rfl rfl 2 (by decide) (hts _ lk_X4_makeRow_f18) (fun _ h9 => h9) rfl dX4_makeRow_25 ?_
  refine lv_iload_n hx hb dX4_makeRow_28 rfl (lv_at hl 0 rfl) ?_
  refine lv_aload_n hx hb dX4_makeRow_29 rfl (lv_at hl 1 rfl) ?_
  refine va_get (D := D) (ci := 5) (v := .ref p0) (C := RX4) (T := TX4) (N := 7) hx hb hts iw_X4_makeRow_X4 hown hK hP 0 rfl rfl 0 (by decide) (hts _ lk_X4_makeRow_f21) (fun _ h9 => h9) rfl dX4_makeRow_30 ?_
  refine va_getN (D := D) (ci := 3) (v := .int (nI pO)) (C := RX2) (T := TX2) (N := 6) hx hb hts iw_X4_makeRow_X2 hown hK hP 3 rfl rfl 5 (by decide) (nw_use 2 rfl rfl hkk.2) (fun _ h9 => h9) rfl dX4_makeRow_33 ?_
  have hPc := hP.sub (ws' := [(r0, .inr (2, [.ref r1, .int (nI 0)])), (r1, .inl (cy 0, 70, .inl rf))]) [4, 5] rfl
  have hDc := hD.sub (ws' := [(r0, .inr (2, [.ref r1, .int (nI 0)])), (r1, .inl (cy 0, 70, .inl rf))]) [4, 5] (by decide) rfl
  have hFc := va_free (wc := [(r0, .inr (2, [.ref r1, .int (nI 0)])), (r1, .inl (cy 0, 70, .inl rf))]) hD hS hA [4, 5] rfl
  refine va_callv (va_runV (As := [.int (nI ((ct + sk) % pC)), .int (nI pO)]) (rest := []) ⟨hx, hb, hml, hown, hts⟩ (c_X1_addNumber l D cy H.size r0 r1 rf 0 (nI ((ct + sk) % pC)) pO (by omega) (by omega)) (cwV 2 hts gX4_makeRow_X1_addNumber rfl rfl rfl (by decide +kernel) ⟨Nat.le_of_ble_eq_true rfl, Nat.le_of_ble_eq_true rfl⟩) (pv_V (ci := 2) (q := (RX1, TX1, 2)) hkk hPc hDc rfl rfl rfl) rfl rfl hl.1 rfl (lv_room (Nat.le_of_ble_eq_true rfl)) dX4_makeRow_36 ⟨Nat.le_of_ble_eq_true rfl, Nat.le_of_ble_eq_true rfl⟩) hS (fun q _ h => hFc q h) hFc (fun u t H1 locs ht hvm hw hB hz1 hk1 hS => ?_)
  obtain ⟨f2_36, rfl⟩ : ∃ z, z = u := ⟨_, rfl⟩
  obtain ⟨hP1, hD1⟩ := hB
  rw [ht] at hP1
  try dsimp only at hw hP1 hD1
  obtain ⟨hP, hD⟩ := va_join (wr := [(h0, .inr (5, [.ref p0, .ref d0, .ref r0, .int (nI ct), .int (nI fp), .int fk, .int (nI sk)])), (d0, .inr (2, [.ref d1, .int (nI n)])), (d1, .inl (cy 0, 70, .inl f)), (p0, .inr (3, [.int (nI pB), .int (nI pS), .int (nI pG), .int (nI pE), .int (nI pC), .int (nI pO)]))]) (w1 := [(r0, .inr (2, [.ref r1, .int (nI (0 + pO))])), (r1, .inl (cy 0, 70, .inl f2_36))]) hP hD [4, 5] [0, 1, 2, 3] rfl rfl (by decide) (by decide) hk1 hFc hP1 hD1
  clear hPc hDc hFc hP1 hD1 hz1 hk1
  generalize H1 = H at hP hS ⊢
  have hP : va_P D vwCl [(h0, .inr (5, [.ref p0, .ref d0, .ref r0, .int (nI ct), .int (nI fp), .int fk, .int (nI sk)])), (d0, .inr (2, [.ref d1, .int (nI n)])), (d1, .inl (cy 0, 70, .inl f)), (p0, .inr (3, [.int (nI pB), .int (nI pS), .int (nI pG), .int (nI pE), .int (nI pC), .int (nI pO)])), (r0, .inr (2, [.ref r1, .int (nI (0 + pO))])), (r1, .inl (cy 0, 70, .inl f2_36))] H := hP
  have hD : va_D A [(h0, .inr (5, [.ref p0, .ref d0, .ref r0, .int (nI ct), .int (nI fp), .int fk, .int (nI sk)])), (d0, .inr (2, [.ref d1, .int (nI n)])), (d1, .inl (cy 0, 70, .inl f)), (p0, .inr (3, [.int (nI pB), .int (nI pS), .int (nI pG), .int (nI pE), .int (nI pC), .int (nI pO)])), (r0, .inr (2, [.ref r1, .int (nI (0 + pO))])), (r1, .inl (cy 0, 70, .inl f2_36))] := hD
  have hw_36 := hw
  refine lv_aload_n hx hb dX4_makeRow_39 rfl (lv_at hl 1 rfl) ?_
  refine va_get (D := D) (ci := 5) (v := .ref r0) (C := RX4) (T := TX4) (N := 7) hx hb hts iw_X4_makeRow_X4 hown hK hP 0 rfl rfl 2 (by decide) (hts _ lk_X4_makeRow_f18) (fun _ h9 => h9) rfl dX4_makeRow_40 ?_
  refine lv_aload_n hx hb dX4_makeRow_43 rfl (lv_at hl 1 rfl) ?_
  refine va_get (D := D) (ci := 5) (v := .ref d0) (C := RX4) (T := TX4) (N := 7) hx hb hts iw_X4_makeRow_X4 hown hK hP 0 rfl rfl 1 (by decide) (hts _ lk_X4_makeRow_f12) (fun _ h9 => h9) rfl dX4_makeRow_44 ?_
  have hPc := hP.sub (ws' := [(r0, .inr (2, [.ref r1, .int (nI (0 + pO))])), (r1, .inl (cy 0, 70, .inl f2_36)), (d0, .inr (2, [.ref d1, .int (nI n)])), (d1, .inl (cy 0, 70, .inl f))]) [4, 5, 1, 2] rfl
  have hDc := hD.sub (ws' := [(r0, .inr (2, [.ref r1, .int (nI (0 + pO))])), (r1, .inl (cy 0, 70, .inl f2_36)), (d0, .inr (2, [.ref d1, .int (nI n)])), (d1, .inl (cy 0, 70, .inl f))]) [4, 5, 1, 2] (by decide) rfl
  have hFc := va_free (wc := [(r0, .inr (2, [.ref r1, .int (nI (0 + pO))])), (r1, .inl (cy 0, 70, .inl f2_36)), (d0, .inr (2, [.ref d1, .int (nI n)])), (d1, .inl (cy 0, 70, .inl f))]) hD hS hA [4, 5, 1, 2] rfl
  refine va_callv (va_runV (As := [.ref d0]) (rest := []) ⟨hx, hb, hml, hown, hts⟩ (c_X1_addAll l D cy H.size r0 r1 f2_36 (0 + pO) d0 d1 f n (by omega)) (cwV 1 hts gX4_makeRow_X1_addAll rfl rfl rfl (by decide +kernel) ⟨Nat.le_of_ble_eq_true rfl, Nat.le_of_ble_eq_true rfl⟩) (pv_V (ci := 2) (q := (RX1, TX1, 2)) hkk hPc hDc rfl rfl rfl) rfl rfl hl.1 rfl (lv_room (Nat.le_of_ble_eq_true rfl)) dX4_makeRow_47 ⟨Nat.le_of_ble_eq_true rfl, Nat.le_of_ble_eq_true rfl⟩) hS (fun q _ h => hFc q h) hFc (fun u t H1 locs ht hvm hw hB hz1 hk1 hS => ?_)
  obtain ⟨f2_47, rfl⟩ : ∃ z, z = u := ⟨_, rfl⟩
  obtain ⟨hP1, hD1⟩ := hB
  rw [ht] at hP1
  try dsimp only at hw hP1 hD1
  obtain ⟨hP, hD⟩ := va_join (wr := [(h0, .inr (5, [.ref p0, .ref d0, .ref r0, .int (nI ct), .int (nI fp), .int fk, .int (nI sk)])), (p0, .inr (3, [.int (nI pB), .int (nI pS), .int (nI pG), .int (nI pE), .int (nI pC), .int (nI pO)]))]) (w1 := [(r0, .inr (2, [.ref r1, .int (nI ((0 + pO) + n))])), (r1, .inl (cy 0, 70, .inl f2_47)), (d0, .inr (2, [.ref d1, .int (nI n)])), (d1, .inl (cy 0, 70, .inl f))]) hP hD [4, 5, 1, 2] [0, 3] rfl rfl (by decide) (by decide) hk1 hFc hP1 hD1
  clear hPc hDc hFc hP1 hD1 hz1 hk1
  generalize H1 = H at hP hS ⊢
  have hP : va_P D vwCl [(h0, .inr (5, [.ref p0, .ref d0, .ref r0, .int (nI ct), .int (nI fp), .int fk, .int (nI sk)])), (p0, .inr (3, [.int (nI pB), .int (nI pS), .int (nI pG), .int (nI pE), .int (nI pC), .int (nI pO)])), (r0, .inr (2, [.ref r1, .int (nI ((0 + pO) + n))])), (r1, .inl (cy 0, 70, .inl f2_47)), (d0, .inr (2, [.ref d1, .int (nI n)])), (d1, .inl (cy 0, 70, .inl f))] H := hP
  have hD : va_D A [(h0, .inr (5, [.ref p0, .ref d0, .ref r0, .int (nI ct), .int (nI fp), .int fk, .int (nI sk)])), (p0, .inr (3, [.int (nI pB), .int (nI pS), .int (nI pG), .int (nI pE), .int (nI pC), .int (nI pO)])), (r0, .inr (2, [.ref r1, .int (nI ((0 + pO) + n))])), (r1, .inl (cy 0, 70, .inl f2_47)), (d0, .inr (2, [.ref d1, .int (nI n)])), (d1, .inl (cy 0, 70, .inl f))] := hD
  have hw_47 := hw
  have hh : oc_is f2_47 (0 + pO + n) (hdr pO ((ct + sk) % pC) g) := hdr_is (by omega) hO2.2 hn hg hw_36.2 hw_47.1 hw_47.2
  rw [Nat.zero_add] at hP hD hh
  refine lv_aload_n hx hb dX4_makeRow_50 rfl (lv_at hl 1 rfl) ?_
  refine va_get (D := D) (ci := 5) (v := .ref r0) (C := RX4) (T := TX4) (N := 7) hx hb hts iw_X4_makeRow_X4 hown hK hP 0 rfl rfl 2 (by decide) (hts _ lk_X4_makeRow_f18) (fun _ h9 => h9) rfl dX4_makeRow_51 ?_
  refine lv_aload_n hx hb dX4_makeRow_54 rfl (lv_at hl 1 rfl) ?_
  refine va_get (D := D) (ci := 5) (v := .ref p0) (C := RX4) (T := TX4) (N := 7) hx hb hts iw_X4_makeRow_X4 hown hK hP 0 rfl rfl 0 (by decide) (hts _ lk_X4_makeRow_f21) (fun _ h9 => h9) rfl dX4_makeRow_55 ?_
  refine lv_iload_n hx hb dX4_makeRow_58 rfl (lv_at hl 2 rfl) ?_
  refine lv_aload_n hx hb dX4_makeRow_59 rfl (lv_at hl 1 rfl) ?_
  refine va_get (D := D) (ci := 5) (v := .ref r0) (C := RX4) (T := TX4) (N := 7) hx hb hts iw_X4_makeRow_X4 hown hK hP 0 rfl rfl 2 (by decide) (hts _ lk_X4_makeRow_f18) (fun _ h9 => h9) rfl dX4_makeRow_60 ?_
  refine lv_aload_n hx hb dX4_makeRow_63 rfl (lv_at hl 1 rfl) ?_
  refine va_get (D := D) (ci := 5) (v := .ref r0) (C := RX4) (T := TX4) (N := 7) hx hb hts iw_X4_makeRow_X4 hown hK hP 0 rfl rfl 2 (by decide) (hts _ lk_X4_makeRow_f18) (fun _ h9 => h9) rfl dX4_makeRow_64 ?_
  refine va_getN (D := D) (ci := 2) (v := .int (nI (pO + n))) (C := RX1) (T := TX1) (N := 2) hx hb hts iw_X4_makeRow_X1 hown hK hP 2 rfl rfl 1 (by decide) (nw_use 3 rfl rfl hkk.2) (fun _ h9 => h9) rfl dX4_makeRow_67 ?_
  have hPc := hP.sub (ws' := [(p0, .inr (3, [.int (nI pB), .int (nI pS), .int (nI pG), .int (nI pE), .int (nI pC), .int (nI pO)])), (r0, .inr (2, [.ref r1, .int (nI (pO + n))])), (r1, .inl (cy 0, 70, .inl f2_47))]) [1, 2, 3] rfl
  have hDc := hD.sub (ws' := [(p0, .inr (3, [.int (nI pB), .int (nI pS), .int (nI pG), .int (nI pE), .int (nI pC), .int (nI pO)])), (r0, .inr (2, [.ref r1, .int (nI (pO + n))])), (r1, .inl (cy 0, 70, .inl f2_47))]) [1, 2, 3] (by decide) rfl
  have hFc := va_free (wc := [(p0, .inr (3, [.int (nI pB), .int (nI pS), .int (nI pG), .int (nI pE), .int (nI pC), .int (nI pO)])), (r0, .inr (2, [.ref r1, .int (nI (pO + n))])), (r1, .inl (cy 0, 70, .inl f2_47))]) hD hS hA [1, 2, 3] rfl
  refine va_calli (va_runV (As := [.int (nI d), .ref r0, .int (nI (pO + n))]) (rest := [.ref r0]) ⟨hx, hb, hml, hown, hts⟩ (c_X2_checkOver l D cy H.size p0 pB pS pG pE pC pO r0 r1 f2_47 (pO + n) (hdr pO ((ct + sk) % pC) g) d (pO + n) hpv.1 hpv.2.2.1 hpv.2.1 (by first | assumption | omega) (by omega) (Nat.le_refl _) hh) (cwV 3 hts gX4_makeRow_X2_checkOver rfl rfl rfl (by decide +kernel) ⟨Nat.le_of_ble_eq_true rfl, Nat.le_of_ble_eq_true rfl⟩) (pv_V (ci := 3) (q := (RX2, TX2, 6)) hkk hPc hDc rfl rfl rfl) rfl rfl hl.1 rfl (lv_room (Nat.le_of_ble_eq_true rfl)) dX4_makeRow_70 ⟨Nat.le_of_ble_eq_true rfl, Nat.le_of_ble_eq_true rfl⟩) hS (fun q _ h => hFc q h) hFc (fun r_70 u t H1 locs ht hvm hw hB hz1 hk1 hS => ?_)
  obtain ⟨hP1, hD1⟩ := hB
  rw [ht] at hP1
  try dsimp only at hw hP1 hD1
  obtain ⟨hP, hD⟩ := va_join (wr := [(h0, .inr (5, [.ref p0, .ref d0, .ref r0, .int (nI ct), .int (nI fp), .int fk, .int (nI sk)])), (d0, .inr (2, [.ref d1, .int (nI n)])), (d1, .inl (cy 0, 70, .inl f))]) (w1 := [(p0, .inr (3, [.int (nI pB), .int (nI pS), .int (nI pG), .int (nI pE), .int (nI pC), .int (nI pO)])), (r0, .inr (2, [.ref r1, .int (nI (pO + n))])), (r1, .inl (cy 0, 70, .inl f2_47))]) hP hD [1, 2, 3] [0, 4, 5] rfl rfl (by decide) (by decide) hk1 hFc hP1 hD1
  clear hPc hDc hFc hP1 hD1 hz1 hk1
  generalize H1 = H at hP hS ⊢
  have hP : va_P D vwCl [(h0, .inr (5, [.ref p0, .ref d0, .ref r0, .int (nI ct), .int (nI fp), .int fk, .int (nI sk)])), (d0, .inr (2, [.ref d1, .int (nI n)])), (d1, .inl (cy 0, 70, .inl f)), (p0, .inr (3, [.int (nI pB), .int (nI pS), .int (nI pG), .int (nI pE), .int (nI pC), .int (nI pO)])), (r0, .inr (2, [.ref r1, .int (nI (pO + n))])), (r1, .inl (cy 0, 70, .inl f2_47))] H := hP
  have hD : va_D A [(h0, .inr (5, [.ref p0, .ref d0, .ref r0, .int (nI ct), .int (nI fp), .int fk, .int (nI sk)])), (d0, .inr (2, [.ref d1, .int (nI n)])), (d1, .inl (cy 0, 70, .inl f)), (p0, .inr (3, [.int (nI pB), .int (nI pS), .int (nI pG), .int (nI pE), .int (nI pC), .int (nI pO)])), (r0, .inr (2, [.ref r1, .int (nI (pO + n))])), (r1, .inl (cy 0, 70, .inl f2_47))] := hD
  obtain rfl := hw
  refine lv_aload_n hx hb dX4_makeRow_73 rfl (lv_at hl 1 rfl) ?_
  refine va_get (D := D) (ci := 5) (v := .ref p0) (C := RX4) (T := TX4) (N := 7) hx hb hts iw_X4_makeRow_X4 hown hK hP 0 rfl rfl 0 (by decide) (hts _ lk_X4_makeRow_f21) (fun _ h9 => h9) rfl dX4_makeRow_74 ?_
  have hPc := hP.sub (ws' := [(p0, .inr (3, [.int (nI pB), .int (nI pS), .int (nI pG), .int (nI pE), .int (nI pC), .int (nI pO)]))]) [3] rfl
  have hDc := hD.sub (ws' := [(p0, .inr (3, [.int (nI pB), .int (nI pS), .int (nI pG), .int (nI pE), .int (nI pC), .int (nI pO)]))]) [3] (by decide) rfl
  have hFc := va_free (wc := [(p0, .inr (3, [.int (nI pB), .int (nI pS), .int (nI pG), .int (nI pE), .int (nI pC), .int (nI pO)]))]) hD hS hA [3] rfl
  refine va_calli (va_runV (As := []) (rest := [.int (nI (ck pB pS pG pE d (hdr pO ((ct + sk) % pC) g) (pO + n))), .ref r0]) ⟨hx, hb, hml, hown, hts⟩ (c_X2_checkOctets l D cy H.size p0 pB pS pG pE pC pO hpv.1) (cwV 0 hts gX4_makeRow_X2_checkOctets rfl rfl rfl (by decide +kernel) ⟨Nat.le_of_ble_eq_true rfl, Nat.le_of_ble_eq_true rfl⟩) (pv_V (ci := 3) (q := (RX2, TX2, 6)) hkk hPc hDc rfl rfl rfl) rfl rfl hl.1 rfl (lv_room (Nat.le_of_ble_eq_true rfl)) dX4_makeRow_77 ⟨Nat.le_of_ble_eq_true rfl, Nat.le_of_ble_eq_true rfl⟩) hS (fun q _ h => hFc q h) hFc (fun r_77 u t H1 locs ht hvm hw hB hz1 hk1 hS => ?_)
  obtain ⟨hP1, hD1⟩ := hB
  rw [ht] at hP1
  try dsimp only at hw hP1 hD1
  obtain ⟨hP, hD⟩ := va_join (wr := [(h0, .inr (5, [.ref p0, .ref d0, .ref r0, .int (nI ct), .int (nI fp), .int fk, .int (nI sk)])), (d0, .inr (2, [.ref d1, .int (nI n)])), (d1, .inl (cy 0, 70, .inl f)), (r0, .inr (2, [.ref r1, .int (nI (pO + n))])), (r1, .inl (cy 0, 70, .inl f2_47))]) (w1 := [(p0, .inr (3, [.int (nI pB), .int (nI pS), .int (nI pG), .int (nI pE), .int (nI pC), .int (nI pO)]))]) hP hD [3] [0, 1, 2, 4, 5] rfl rfl (by decide) (by decide) hk1 hFc hP1 hD1
  clear hPc hDc hFc hP1 hD1 hz1 hk1
  generalize H1 = H at hP hS ⊢
  have hP : va_P D vwCl [(h0, .inr (5, [.ref p0, .ref d0, .ref r0, .int (nI ct), .int (nI fp), .int fk, .int (nI sk)])), (d0, .inr (2, [.ref d1, .int (nI n)])), (d1, .inl (cy 0, 70, .inl f)), (r0, .inr (2, [.ref r1, .int (nI (pO + n))])), (r1, .inl (cy 0, 70, .inl f2_47)), (p0, .inr (3, [.int (nI pB), .int (nI pS), .int (nI pG), .int (nI pE), .int (nI pC), .int (nI pO)]))] H := hP
  have hD : va_D A [(h0, .inr (5, [.ref p0, .ref d0, .ref r0, .int (nI ct), .int (nI fp), .int fk, .int (nI sk)])), (d0, .inr (2, [.ref d1, .int (nI n)])), (d1, .inl (cy 0, 70, .inl f)), (r0, .inr (2, [.ref r1, .int (nI (pO + n))])), (r1, .inl (cy 0, 70, .inl f2_47)), (p0, .inr (3, [.int (nI pB), .int (nI pS), .int (nI pG), .int (nI pE), .int (nI pC), .int (nI pO)]))] := hD
  obtain rfl := hw
  have hPc := hP.sub (ws' := [(r0, .inr (2, [.ref r1, .int (nI (pO + n))])), (r1, .inl (cy 0, 70, .inl f2_47))]) [3, 4] rfl
  have hDc := hD.sub (ws' := [(r0, .inr (2, [.ref r1, .int (nI (pO + n))])), (r1, .inl (cy 0, 70, .inl f2_47))]) [3, 4] (by decide) rfl
  have hFc := va_free (wc := [(r0, .inr (2, [.ref r1, .int (nI (pO + n))])), (r1, .inl (cy 0, 70, .inl f2_47))]) hD hS hA [3, 4] rfl
  refine va_callv (va_runV (As := [.int (nI (ck pB pS pG pE d (hdr pO ((ct + sk) % pC) g) (pO + n))), .int (nI (pB / 8))]) (rest := []) ⟨hx, hb, hml, hown, hts⟩ (c_X1_addNumber l D cy H.size r0 r1 f2_47 (pO + n) (nI (ck pB pS pG pE d (hdr pO ((ct + sk) % pC) g) (pO + n))) (pB / 8) (by omega) (by omega)) (cwV 2 hts gX4_makeRow_X1_addNumber rfl rfl rfl (by decide +kernel) ⟨Nat.le_of_ble_eq_true rfl, Nat.le_of_ble_eq_true rfl⟩) (pv_V (ci := 2) (q := (RX1, TX1, 2)) hkk hPc hDc rfl rfl rfl) rfl rfl hl.1 rfl (lv_room (Nat.le_of_ble_eq_true rfl)) dX4_makeRow_80 ⟨Nat.le_of_ble_eq_true rfl, Nat.le_of_ble_eq_true rfl⟩) hS (fun q _ h => hFc q h) hFc (fun u t H1 locs ht hvm hw hB hz1 hk1 hS => ?_)
  obtain ⟨f2_80, rfl⟩ : ∃ z, z = u := ⟨_, rfl⟩
  obtain ⟨hP1, hD1⟩ := hB
  rw [ht] at hP1
  try dsimp only at hw hP1 hD1
  obtain ⟨hP, hD⟩ := va_join (wr := [(h0, .inr (5, [.ref p0, .ref d0, .ref r0, .int (nI ct), .int (nI fp), .int fk, .int (nI sk)])), (d0, .inr (2, [.ref d1, .int (nI n)])), (d1, .inl (cy 0, 70, .inl f)), (p0, .inr (3, [.int (nI pB), .int (nI pS), .int (nI pG), .int (nI pE), .int (nI pC), .int (nI pO)]))]) (w1 := [(r0, .inr (2, [.ref r1, .int (nI ((pO + n) + (pB / 8)))])), (r1, .inl (cy 0, 70, .inl f2_80))]) hP hD [3, 4] [0, 1, 2, 5] rfl rfl (by decide) (by decide) hk1 hFc hP1 hD1
  clear hPc hDc hFc hP1 hD1 hz1 hk1
  generalize H1 = H at hP hS ⊢
  have hP : va_P D vwCl [(h0, .inr (5, [.ref p0, .ref d0, .ref r0, .int (nI ct), .int (nI fp), .int fk, .int (nI sk)])), (d0, .inr (2, [.ref d1, .int (nI n)])), (d1, .inl (cy 0, 70, .inl f)), (p0, .inr (3, [.int (nI pB), .int (nI pS), .int (nI pG), .int (nI pE), .int (nI pC), .int (nI pO)])), (r0, .inr (2, [.ref r1, .int (nI ((pO + n) + (pB / 8)))])), (r1, .inl (cy 0, 70, .inl f2_80))] H := hP
  have hD : va_D A [(h0, .inr (5, [.ref p0, .ref d0, .ref r0, .int (nI ct), .int (nI fp), .int fk, .int (nI sk)])), (d0, .inr (2, [.ref d1, .int (nI n)])), (d1, .inl (cy 0, 70, .inl f)), (p0, .inr (3, [.int (nI pB), .int (nI pS), .int (nI pG), .int (nI pE), .int (nI pC), .int (nI pO)])), (r0, .inr (2, [.ref r1, .int (nI ((pO + n) + (pB / 8)))])), (r1, .inl (cy 0, 70, .inl f2_80))] := hD
  have hw_80 := hw
  have hr9 := rwv_is (b := pB / 8) (isB_32 hpv.1 (ck_lt hpv.2.1 hpv.2.2.1 hpv.2.2.2.1)) h8.2.1 hh hw_80.1 hw_80.2
  refine lv_aload_n hx hb dX4_makeRow_83 rfl (lv_at hl 1 rfl) ?_
  refine va_get (D := D) (ci := 5) (v := .ref r0) (C := RX4) (T := TX4) (N := 7) hx hb hts iw_X4_makeRow_X4 hown hK hP 0 rfl rfl 2 (by decide) (hts _ lk_X4_makeRow_f18) (fun _ h9 => h9) rfl dX4_makeRow_84 ?_
  refine lv_aload_n hx hb dX4_makeRow_87 rfl (lv_at hl 1 rfl) ?_
  refine va_get (D := D) (ci := 5) (v := .int (nI fp)) (C := RX4) (T := TX4) (N := 7) hx hb hts iw_X4_makeRow_X4 hown hK hP 0 rfl rfl 4 (by decide) (hts _ lk_X4_makeRow_f33) (fun _ h9 => h9) rfl dX4_makeRow_88 ?_
  refine lv_aload_n hx hb dX4_makeRow_91 rfl (lv_at hl 1 rfl) ?_
  refine va_get (D := D) (ci := 5) (v := .int fk) (C := RX4) (T := TX4) (N := 7) hx hb hts iw_X4_makeRow_X4 hown hK hP 0 rfl rfl 5 (by decide) (hts _ lk_X4_makeRow_f36) (fun _ h9 => h9) rfl dX4_makeRow_92 ?_
  have hPc := hP.sub (ws' := [(r0, .inr (2, [.ref r1, .int (nI ((pO + n) + (pB / 8)))])), (r1, .inl (cy 0, 70, .inl f2_80))]) [4, 5] rfl
  have hDc := hD.sub (ws' := [(r0, .inr (2, [.ref r1, .int (nI ((pO + n) + (pB / 8)))])), (r1, .inl (cy 0, 70, .inl f2_80))]) [4, 5] (by decide) rfl
  have hFc := va_free (wc := [(r0, .inr (2, [.ref r1, .int (nI ((pO + n) + (pB / 8)))])), (r1, .inl (cy 0, 70, .inl f2_80))]) hD hS hA [4, 5] rfl
  refine va_callv (va_runV (As := [.int (nI fp), .int fk]) (rest := []) ⟨hx, hb, hml, hown, hts⟩ (c_X1_flip l D cy H.size r0 r1 f2_80 ((pO + n) + (pB / 8)) (nI fp) fk (by omega)) (cwV 2 hts gX4_makeRow_X1_flip rfl rfl rfl (by decide +kernel) ⟨Nat.le_of_ble_eq_true rfl, Nat.le_of_ble_eq_true rfl⟩) (pv_V (ci := 2) (q := (RX1, TX1, 2)) hkk hPc hDc rfl rfl rfl) rfl rfl hl.1 rfl (lv_room (Nat.le_of_ble_eq_true rfl)) dX4_makeRow_95 ⟨Nat.le_of_ble_eq_true rfl, Nat.le_of_ble_eq_true rfl⟩) hS (fun q _ h => hFc q h) hFc (fun u t H1 locs ht hvm hw hB hz1 hk1 hS => ?_)
  obtain ⟨hP1, hD1⟩ := hB
  rw [ht] at hP1
  try dsimp only at hw hP1 hD1
  obtain ⟨hP, hD⟩ := va_join (wr := [(h0, .inr (5, [.ref p0, .ref d0, .ref r0, .int (nI ct), .int (nI fp), .int fk, .int (nI sk)])), (d0, .inr (2, [.ref d1, .int (nI n)])), (d1, .inl (cy 0, 70, .inl f)), (p0, .inr (3, [.int (nI pB), .int (nI pS), .int (nI pG), .int (nI pE), .int (nI pC), .int (nI pO)]))]) (w1 := [(r0, .inr (2, [.ref r1, .int (nI ((pO + n) + (pB / 8)))])), (r1, .inl (cy 0, 70, .inl (oc_flip f2_80 ((pO + n) + (pB / 8)) (nI fp) fk)))]) hP hD [4, 5] [0, 1, 2, 3] rfl rfl (by decide) (by decide) hk1 hFc hP1 hD1
  clear hPc hDc hFc hP1 hD1 hz1 hk1
  generalize H1 = H at hP hS ⊢
  have hP : va_P D vwCl [(h0, .inr (5, [.ref p0, .ref d0, .ref r0, .int (nI ct), .int (nI fp), .int fk, .int (nI sk)])), (d0, .inr (2, [.ref d1, .int (nI n)])), (d1, .inl (cy 0, 70, .inl f)), (p0, .inr (3, [.int (nI pB), .int (nI pS), .int (nI pG), .int (nI pE), .int (nI pC), .int (nI pO)])), (r0, .inr (2, [.ref r1, .int (nI ((pO + n) + (pB / 8)))])), (r1, .inl (cy 0, 70, .inl (oc_flip f2_80 ((pO + n) + (pB / 8)) (nI fp) fk)))] H := hP
  have hD : va_D A [(h0, .inr (5, [.ref p0, .ref d0, .ref r0, .int (nI ct), .int (nI fp), .int fk, .int (nI sk)])), (d0, .inr (2, [.ref d1, .int (nI n)])), (d1, .inl (cy 0, 70, .inl f)), (p0, .inr (3, [.int (nI pB), .int (nI pS), .int (nI pG), .int (nI pE), .int (nI pC), .int (nI pO)])), (r0, .inr (2, [.ref r1, .int (nI ((pO + n) + (pB / 8)))])), (r1, .inl (cy 0, 70, .inl (oc_flip f2_80 ((pO + n) + (pB / 8)) (nI fp) fk)))] := hD
  have hw_95 := hw
  refine lv_aload_n hx hb dX4_makeRow_98 rfl (lv_at hl 1 rfl) ?_
  refine lv_aload_n hx hb dX4_makeRow_99 rfl (lv_at hl 1 rfl) ?_
  refine va_get (D := D) (ci := 5) (v := .ref p0) (C := RX4) (T := TX4) (N := 7) hx hb hts iw_X4_makeRow_X4 hown hK hP 0 rfl rfl 0 (by decide) (hts _ lk_X4_makeRow_f21) (fun _ h9 => h9) rfl dX4_makeRow_100 ?_
  refine lv_iload_n hx hb dX4_makeRow_103 rfl (lv_at hl 0 rfl) ?_
  refine lv_iconst (v := 1) hx hb dX4_makeRow_104 (by decide) ?_
  refine lv_iadd hx hb dX4_makeRow_105 ?_
  refine lv_topi (fun x_105 ex_105 => ?_)
  obtain rfl : x_105 = nI ((ct + sk) % pC) + nI 1 := by rw [ex_105]; rfl
  have hPc := hP.sub (ws' := [(p0, .inr (3, [.int (nI pB), .int (nI pS), .int (nI pG), .int (nI pE), .int (nI pC), .int (nI pO)]))]) [3] rfl
  have hDc := hD.sub (ws' := [(p0, .inr (3, [.int (nI pB), .int (nI pS), .int (nI pG), .int (nI pE), .int (nI pC), .int (nI pO)]))]) [3] (by decide) rfl
  have hFc := va_free (wc := [(p0, .inr (3, [.int (nI pB), .int (nI pS), .int (nI pG), .int (nI pE), .int (nI pC), .int (nI pO)]))]) hD hS hA [3] rfl
  refine va_calli (va_runV (As := [.int (nI ((ct + sk) % pC) + nI 1)]) (rest := [.ref h0]) ⟨hx, hb, hml, hown, hts⟩ (c_X2_goingRound l D cy H.size p0 pB pS pG pE pC pO (nI ((ct + sk) % pC) + nI 1) hpv.2.2.2.2.1 hpv.2.2.2.2.2.1) (cwV 1 hts gX4_makeRow_X2_goingRound rfl rfl rfl (by decide +kernel) ⟨Nat.le_of_ble_eq_true rfl, Nat.le_of_ble_eq_true rfl⟩) (pv_V (ci := 3) (q := (RX2, TX2, 6)) hkk hPc hDc rfl rfl rfl) rfl rfl hl.1 rfl (lv_room (Nat.le_of_ble_eq_true rfl)) dX4_makeRow_106 ⟨Nat.le_of_ble_eq_true rfl, Nat.le_of_ble_eq_true rfl⟩) hS (fun q _ h => hFc q h) hFc (fun r_106 u t H1 locs ht hvm hw hB hz1 hk1 hS => ?_)
  obtain ⟨hP1, hD1⟩ := hB
  rw [ht] at hP1
  try dsimp only at hw hP1 hD1
  obtain ⟨hP, hD⟩ := va_join (wr := [(h0, .inr (5, [.ref p0, .ref d0, .ref r0, .int (nI ct), .int (nI fp), .int fk, .int (nI sk)])), (d0, .inr (2, [.ref d1, .int (nI n)])), (d1, .inl (cy 0, 70, .inl f)), (r0, .inr (2, [.ref r1, .int (nI ((pO + n) + (pB / 8)))])), (r1, .inl (cy 0, 70, .inl (oc_flip f2_80 ((pO + n) + (pB / 8)) (nI fp) fk)))]) (w1 := [(p0, .inr (3, [.int (nI pB), .int (nI pS), .int (nI pG), .int (nI pE), .int (nI pC), .int (nI pO)]))]) hP hD [3] [0, 1, 2, 4, 5] rfl rfl (by decide) (by decide) hk1 hFc hP1 hD1
  clear hPc hDc hFc hP1 hD1 hz1 hk1
  generalize H1 = H at hP hS ⊢
  have hP : va_P D vwCl [(h0, .inr (5, [.ref p0, .ref d0, .ref r0, .int (nI ct), .int (nI fp), .int fk, .int (nI sk)])), (d0, .inr (2, [.ref d1, .int (nI n)])), (d1, .inl (cy 0, 70, .inl f)), (r0, .inr (2, [.ref r1, .int (nI ((pO + n) + (pB / 8)))])), (r1, .inl (cy 0, 70, .inl (oc_flip f2_80 ((pO + n) + (pB / 8)) (nI fp) fk))), (p0, .inr (3, [.int (nI pB), .int (nI pS), .int (nI pG), .int (nI pE), .int (nI pC), .int (nI pO)]))] H := hP
  have hD : va_D A [(h0, .inr (5, [.ref p0, .ref d0, .ref r0, .int (nI ct), .int (nI fp), .int fk, .int (nI sk)])), (d0, .inr (2, [.ref d1, .int (nI n)])), (d1, .inl (cy 0, 70, .inl f)), (r0, .inr (2, [.ref r1, .int (nI ((pO + n) + (pB / 8)))])), (r1, .inl (cy 0, 70, .inl (oc_flip f2_80 ((pO + n) + (pB / 8)) (nI fp) fk))), (p0, .inr (3, [.int (nI pB), .int (nI pS), .int (nI pG), .int (nI pE), .int (nI pC), .int (nI pO)]))] := hD
  obtain rfl := hw
  refine lv_topi (fun x_106 ex_106 => ?_)
  obtain rfl : x_106 = nI (((ct + sk) % pC + 1) % pC) := by rw [ex_106]; exact fm_add (b := 1) (by omega) (by decide) hC0 hC9
  refine va_put (D := D) (ci := 5) (v := .int (nI (((ct + sk) % pC + 1) % pC))) (ty := .int) (C := RX4) (T := TX4) (N := 7) hx hb hts iw_X4_makeRow_X4 tyX4 tyX4_ok nmX4 hown hK hP hD hS 0 rfl rfl 3 (by decide) (hts _ lk_X4_makeRow_f42) (fun _ h9 => h9) rfl (by decide +kernel) rfl rfl (Nat.le_of_ble_eq_true rfl) dX4_makeRow_109 (fun H locs hP hD hS => ?_)
  have hP : va_P D vwCl [(h0, .inr (5, [.ref p0, .ref d0, .ref r0, .int (nI (((ct + sk) % pC + 1) % pC)), .int (nI fp), .int fk, .int (nI sk)])), (d0, .inr (2, [.ref d1, .int (nI n)])), (d1, .inl (cy 0, 70, .inl f)), (r0, .inr (2, [.ref r1, .int (nI ((pO + n) + (pB / 8)))])), (r1, .inl (cy 0, 70, .inl (oc_flip f2_80 ((pO + n) + (pB / 8)) (nI fp) fk))), (p0, .inr (3, [.int (nI pB), .int (nI pS), .int (nI pG), .int (nI pE), .int (nI pC), .int (nI pO)]))] H := hP
  have hD : va_D A [(h0, .inr (5, [.ref p0, .ref d0, .ref r0, .int (nI (((ct + sk) % pC + 1) % pC)), .int (nI fp), .int fk, .int (nI sk)])), (d0, .inr (2, [.ref d1, .int (nI n)])), (d1, .inl (cy 0, 70, .inl f)), (r0, .inr (2, [.ref r1, .int (nI ((pO + n) + (pB / 8)))])), (r1, .inl (cy 0, 70, .inl (oc_flip f2_80 ((pO + n) + (pB / 8)) (nI fp) fk))), (p0, .inr (3, [.int (nI pB), .int (nI pS), .int (nI pG), .int (nI pE), .int (nI pC), .int (nI pO)]))] := hD
  refine lv_aload_n hx hb dX4_makeRow_112 rfl (lv_at hl 1 rfl) ?_
  refine va_get (D := D) (ci := 5) (v := .ref d0) (C := RX4) (T := TX4) (N := 7) hx hb hts iw_X4_makeRow_X4 hown hK hP 0 rfl rfl 1 (by decide) (hts _ lk_X4_makeRow_f12) (fun _ h9 => h9) rfl dX4_makeRow_113 ?_
  have hPc := hP.sub (ws' := [(d0, .inr (2, [.ref d1, .int (nI n)])), (d1, .inl (cy 0, 70, .inl f))]) [1, 2] rfl
  have hDc := hD.sub (ws' := [(d0, .inr (2, [.ref d1, .int (nI n)])), (d1, .inl (cy 0, 70, .inl f))]) [1, 2] (by decide) rfl
  have hFc := va_free (wc := [(d0, .inr (2, [.ref d1, .int (nI n)])), (d1, .inl (cy 0, 70, .inl f))]) hD hS hA [1, 2] rfl
  refine va_callv (va_runV (As := []) (rest := []) ⟨hx, hb, hml, hown, hts⟩ (c_X1_clear l D cy H.size d0 d1 f n ) (cwV 0 hts gX4_makeRow_X1_clear rfl rfl rfl (by decide +kernel) ⟨Nat.le_of_ble_eq_true rfl, Nat.le_of_ble_eq_true rfl⟩) (pv_V (ci := 2) (q := (RX1, TX1, 2)) hkk hPc hDc rfl rfl rfl) rfl rfl hl.1 rfl (lv_room (Nat.le_of_ble_eq_true rfl)) dX4_makeRow_116 ⟨Nat.le_of_ble_eq_true rfl, Nat.le_of_ble_eq_true rfl⟩) hS (fun q _ h => hFc q h) hFc (fun u t H1 locs ht hvm hw hB hz1 hk1 hS => ?_)
  obtain ⟨hP1, hD1⟩ := hB
  rw [ht] at hP1
  try dsimp only at hw hP1 hD1
  obtain ⟨hP, hD⟩ := va_join (wr := [(h0, .inr (5, [.ref p0, .ref d0, .ref r0, .int (nI (((ct + sk) % pC + 1) % pC)), .int (nI fp), .int fk, .int (nI sk)])), (r0, .inr (2, [.ref r1, .int (nI ((pO + n) + (pB / 8)))])), (r1, .inl (cy 0, 70, .inl (oc_flip f2_80 ((pO + n) + (pB / 8)) (nI fp) fk))), (p0, .inr (3, [.int (nI pB), .int (nI pS), .int (nI pG), .int (nI pE), .int (nI pC), .int (nI pO)]))]) (w1 := [(d0, .inr (2, [.ref d1, .int (nI 0)])), (d1, .inl (cy 0, 70, .inl f))]) hP hD [1, 2] [0, 3, 4, 5] rfl rfl (by decide) (by decide) hk1 hFc hP1 hD1
  clear hPc hDc hFc hP1 hD1 hz1 hk1
  generalize H1 = H at hP hS ⊢
  have hP : va_P D vwCl [(h0, .inr (5, [.ref p0, .ref d0, .ref r0, .int (nI (((ct + sk) % pC + 1) % pC)), .int (nI fp), .int fk, .int (nI sk)])), (r0, .inr (2, [.ref r1, .int (nI ((pO + n) + (pB / 8)))])), (r1, .inl (cy 0, 70, .inl (oc_flip f2_80 ((pO + n) + (pB / 8)) (nI fp) fk))), (p0, .inr (3, [.int (nI pB), .int (nI pS), .int (nI pG), .int (nI pE), .int (nI pC), .int (nI pO)])), (d0, .inr (2, [.ref d1, .int (nI 0)])), (d1, .inl (cy 0, 70, .inl f))] H := hP
  have hD : va_D A [(h0, .inr (5, [.ref p0, .ref d0, .ref r0, .int (nI (((ct + sk) % pC + 1) % pC)), .int (nI fp), .int fk, .int (nI sk)])), (r0, .inr (2, [.ref r1, .int (nI ((pO + n) + (pB / 8)))])), (r1, .inl (cy 0, 70, .inl (oc_flip f2_80 ((pO + n) + (pB / 8)) (nI fp) fk))), (p0, .inr (3, [.int (nI pB), .int (nI pS), .int (nI pG), .int (nI pE), .int (nI pC), .int (nI pO)])), (d0, .inr (2, [.ref d1, .int (nI 0)])), (d1, .inl (cy 0, 70, .inl f))] := hD
  have hw_116 := hw
  refine lv_aload_n hx hb dX4_makeRow_119 rfl (lv_at hl 1 rfl) ?_
  refine lv_iconst (v := 0) hx hb dX4_makeRow_120 (by decide) ?_
  refine va_put (D := D) (ci := 5) (v := .int 0) (ty := .int) (C := RX4) (T := TX4) (N := 7) hx hb hts iw_X4_makeRow_X4 tyX4 tyX4_ok nmX4 hown hK hP hD hS 0 rfl rfl 5 (by decide) (hts _ lk_X4_makeRow_f36) (fun _ h9 => h9) rfl (by decide +kernel) rfl rfl (Nat.le_of_ble_eq_true rfl) dX4_makeRow_121 (fun H locs hP hD hS => ?_)
  have hP : va_P D vwCl [(h0, .inr (5, [.ref p0, .ref d0, .ref r0, .int (nI (((ct + sk) % pC + 1) % pC)), .int (nI fp), .int 0, .int (nI sk)])), (r0, .inr (2, [.ref r1, .int (nI ((pO + n) + (pB / 8)))])), (r1, .inl (cy 0, 70, .inl (oc_flip f2_80 ((pO + n) + (pB / 8)) (nI fp) fk))), (p0, .inr (3, [.int (nI pB), .int (nI pS), .int (nI pG), .int (nI pE), .int (nI pC), .int (nI pO)])), (d0, .inr (2, [.ref d1, .int (nI 0)])), (d1, .inl (cy 0, 70, .inl f))] H := hP
  have hD : va_D A [(h0, .inr (5, [.ref p0, .ref d0, .ref r0, .int (nI (((ct + sk) % pC + 1) % pC)), .int (nI fp), .int 0, .int (nI sk)])), (r0, .inr (2, [.ref r1, .int (nI ((pO + n) + (pB / 8)))])), (r1, .inl (cy 0, 70, .inl (oc_flip f2_80 ((pO + n) + (pB / 8)) (nI fp) fk))), (p0, .inr (3, [.int (nI pB), .int (nI pS), .int (nI pG), .int (nI pE), .int (nI pC), .int (nI pO)])), (d0, .inr (2, [.ref d1, .int (nI 0)])), (d1, .inl (cy 0, 70, .inl f))] := hD
  refine lv_aload_n hx hb dX4_makeRow_124 rfl (lv_at hl 1 rfl) ?_
  refine lv_iconst (v := 0) hx hb dX4_makeRow_125 (by decide) ?_
  refine lv_topi (fun x_125 ex_125 => ?_)
  obtain rfl : x_125 = nI 0 := by rw [ex_125]; exact nI_0.symm
  refine va_put (D := D) (ci := 5) (v := .int (nI 0)) (ty := .int) (C := RX4) (T := TX4) (N := 7) hx hb hts iw_X4_makeRow_X4 tyX4 tyX4_ok nmX4 hown hK hP hD hS 0 rfl rfl 6 (by decide) (hts _ lk_X4_makeRow_f39) (fun _ h9 => h9) rfl (by decide +kernel) rfl rfl (Nat.le_of_ble_eq_true rfl) dX4_makeRow_126 (fun H locs hP hD hS => ?_)
  have hP : va_P D vwCl [(h0, .inr (5, [.ref p0, .ref d0, .ref r0, .int (nI (((ct + sk) % pC + 1) % pC)), .int (nI fp), .int 0, .int (nI 0)])), (r0, .inr (2, [.ref r1, .int (nI ((pO + n) + (pB / 8)))])), (r1, .inl (cy 0, 70, .inl (oc_flip f2_80 ((pO + n) + (pB / 8)) (nI fp) fk))), (p0, .inr (3, [.int (nI pB), .int (nI pS), .int (nI pG), .int (nI pE), .int (nI pC), .int (nI pO)])), (d0, .inr (2, [.ref d1, .int (nI 0)])), (d1, .inl (cy 0, 70, .inl f))] H := hP
  have hD : va_D A [(h0, .inr (5, [.ref p0, .ref d0, .ref r0, .int (nI (((ct + sk) % pC + 1) % pC)), .int (nI fp), .int 0, .int (nI 0)])), (r0, .inr (2, [.ref r1, .int (nI ((pO + n) + (pB / 8)))])), (r1, .inl (cy 0, 70, .inl (oc_flip f2_80 ((pO + n) + (pB / 8)) (nI fp) fk))), (p0, .inr (3, [.int (nI pB), .int (nI pS), .int (nI pG), .int (nI pE), .int (nI pC), .int (nI pO)])), (d0, .inr (2, [.ref d1, .int (nI 0)])), (d1, .inl (cy 0, 70, .inl f))] := hD
  refine lv_aload_n hx hb dX4_makeRow_129 rfl (lv_at hl 1 rfl) ?_
  refine va_get (D := D) (ci := 5) (v := .ref r0) (C := RX4) (T := TX4) (N := 7) hx hb hts iw_X4_makeRow_X4 hown hK hP 0 rfl rfl 2 (by decide) (hts _ lk_X4_makeRow_f18) (fun _ h9 => h9) rfl dX4_makeRow_130 ?_
  refine va_getN (D := D) (ci := 2) (v := .int (nI ((pO + n) + (pB / 8)))) (C := RX1) (T := TX1) (N := 2) hx hb hts iw_X4_makeRow_X1 hown hK hP 1 rfl rfl 1 (by decide) (nw_use 3 rfl rfl hkk.2) (fun _ h9 => h9) rfl dX4_makeRow_133 ?_
  have hP9 := hP.sub (ws' := [(h0, .inr (5, [.ref p0, .ref d0, .ref r0, .int (nI (((ct + sk) % pC + 1) % pC)), .int (nI fp), .int 0, .int (nI 0)])), (p0, .inr (3, [.int (nI pB), .int (nI pS), .int (nI pG), .int (nI pE), .int (nI pC), .int (nI pO)])), (d0, .inr (2, [.ref d1, .int (nI 0)])), (d1, .inl (cy 0, 70, .inl f)), (r0, .inr (2, [.ref r1, .int (nI ((pO + n) + (pB / 8)))])), (r1, .inl (cy 0, 70, .inl (oc_flip f2_80 ((pO + n) + (pB / 8)) (nI fp) fk)))]) [0, 3, 4, 5, 1, 2] rfl
  have hD9 := hD.sub (ws' := [(h0, .inr (5, [.ref p0, .ref d0, .ref r0, .int (nI (((ct + sk) % pC + 1) % pC)), .int (nI fp), .int 0, .int (nI 0)])), (p0, .inr (3, [.int (nI pB), .int (nI pS), .int (nI pG), .int (nI pE), .int (nI pC), .int (nI pO)])), (d0, .inr (2, [.ref d1, .int (nI 0)])), (d1, .inl (cy 0, 70, .inl f)), (r0, .inr (2, [.ref r1, .int (nI ((pO + n) + (pB / 8)))])), (r1, .inl (cy 0, 70, .inl (oc_flip f2_80 ((pO + n) + (pB / 8)) (nI fp) fk)))]) [0, 3, 4, 5, 1, 2] (by decide) rfl
  exact W.iret (v := nI ((pO + n) + (pB / 8))) hx hb hr (fun t ht hW => ⟨⟨nI ((pO + n) + (pB / 8)), oc_flip f2_80 ((pO + n) + (pB / 8)) (nI fp) fk, rfl, ⟨rfl, flp_is (by omega) hfp hr9⟩, by rw [ht]; exact hP9, hD9⟩, hS.F ht⟩) hS.2.2 dX4_makeRow_136
