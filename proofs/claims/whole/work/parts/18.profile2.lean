theorem iw_X2_checkOver_X2 : ∀ w ∈ wsX20, w ∈ wsX2_checkOver := by decide +kernel
theorem lk_X2_checkOver_f18 : (.fieldLink RX2 18 "DataGuards$Profile" "begin" "I" : Cond) ∈ wsX2_checkOver := by decide +kernel
theorem lk_X2_checkOver_f21 : (.fieldLink RX2 21 "DataGuards$Profile" "end" "I" : Cond) ∈ wsX2_checkOver := by decide +kernel
set_option maxHeartbeats 4000000 in
set_option maxRecDepth 100000 in
/-- Profile.checkOver(identity, row, length) -/
theorem c_X2_checkOver (l : Launch) (D : va_G) (cy : Nat → ClassId) (sz : Nat) (h0 : Nat) (pB : Nat) (pS : Nat) (pG : Nat) (pE : Nat) (pC : Nat) (pO : Nat) (g0 : Nat) (g1 : Nat) (f : Nat → Int32) (n : Nat) (g : Nat → Nat) (d : Nat) (w : Nat) (hB : isB pB) (hG1 : pG < 2 ^ pB) (hS1 : pS < 2 ^ pB) (hd : d < 65536) (hn : n ≤ 70) (hw1 : w ≤ n) (hg : oc_is f n g) : Met l yX2_checkOver wsX2_checkOver ({ frames := 2, cells := 0, slots := 0, locals := 42 } : Room) (pre1 D cy [.ref h0, .int (nI d), .ref g0, .int (nI w)] [(h0, .inr (3, [.int (nI pB), .int (nI pS), .int (nI pG), .int (nI pE), .int (nI pC), .int (nI pO)])), (g0, .inr (2, [.ref g1, .int (nI n)])), (g1, .inl (cy 0, 70, .inl f))] sz) (va_Qi (fun (r : Int32) (u : Unit) => r = nI (ck pB pS pG pE d g w)) (fun u t => va_P D vwCl [(h0, .inr (3, [.int (nI pB), .int (nI pS), .int (nI pG), .int (nI pE), .int (nI pC), .int (nI pO)])), (g0, .inr (2, [.ref g1, .int (nI n)])), (g1, .inl (cy 0, 70, .inl f))] t.heap ∧ va_D (va_A [(h0, .inr (3, [.int (nI pB), .int (nI pS), .int (nI pG), .int (nI pE), .int (nI pC), .int (nI pO)])), (g0, .inr (2, [.ref g1, .int (nI n)])), (g1, .inl (cy 0, 70, .inl f))] sz) [(h0, .inr (3, [.int (nI pB), .int (nI pS), .int (nI pG), .int (nI pE), .int (nI pC), .int (nI pO)])), (g0, .inr (2, [.ref g1, .int (nI n)])), (g1, .inl (cy 0, 70, .inl f))]) (va_A [(h0, .inr (3, [.int (nI pB), .int (nI pS), .int (nI pG), .int (nI pE), .int (nI pC), .int (nI pO)])), (g0, .inr (2, [.ref g1, .int (nI n)])), (g1, .inl (cy 0, 70, .inl f))] sz)) 0 0 (va_A [(h0, .inr (3, [.int (nI pB), .int (nI pS), .int (nI pG), .int (nI pE), .int (nI pC), .int (nI pO)])), (g0, .inr (2, [.ref g1, .int (nI n)])), (g1, .inl (cy 0, 70, .inl f))] sz) := by
  refine Met.ofW (cc := cX2_checkOver) (maxL := 6) (ret := (some .int)) (by decide) rfl ?_
  intro p e s m args below meth c s₁ B hml hv
  obtain ⟨rfl, hsz, hP, hkk, hD0⟩ := hv
  have hx := B.exec
  have hb := B.bytes
  have hr := B.returns
  have hts := atoms_spec (ws := wsX2_checkOver) B.pre
  have hown : s.vm.findClass RX2 = some m.cls := findClass_of_methodNamed B.named
  have hlocks := B.notSynchronized
  have hin : meth.name = _ := (name_of_methodNamed B.named B.method).1
  have hK := hkk.1
  subst hsz
  have hD := hD0.self (sz := s.heap.size)
  generalize hAe : va_A [(h0, .inr (3, [.int (nI pB), .int (nI pS), .int (nI pG), .int (nI pE), .int (nI pC), .int (nI pO)])), (g0, .inr (2, [.ref g1, .int (nI n)])), (g1, .inl (cy 0, 70, .inl f))] s.heap.size = A at hD ⊢
  have hA : ∀ q : Nat, s.heap.size ≤ q → A q := fun q h => by rw [← hAe]; exact Or.inr h
  have hS : va_S A s.heap s.heap [] := va_S.rf
  have hP : va_P D vwCl [(h0, .inr (3, [.int (nI pB), .int (nI pS), .int (nI pG), .int (nI pE), .int (nI pC), .int (nI pO)])), (g0, .inr (2, [.ref g1, .int (nI n)])), (g1, .inl (cy 0, 70, .inl f))] s.heap := hP
  have hl := lv_entry ([.ref h0, .int (nI d), .ref g0, .int (nI w)]) (n := 6) (Nat.le_of_ble_eq_true rfl)
  rw [lg_entry_eq]
  generalize (lg_sl ([.ref h0, .int (nI d), .ref g0, .int (nI w)]) ++ List.replicate (6 - (lg_sl ([.ref h0, .int (nI d), .ref g0, .int (nI w)])).length) Slot.unset).toArray = ls at hl ⊢
  have hl : lv_has ls 6 [(0, .ref h0), (1, .int (nI d)), (2, .ref g0), (3, .int (nI w))] := hl
  refine lv_aload_n hx hb dX2_checkOver_0 rfl (lv_at hl 0 rfl) ?_
  refine lv_aload_n hx hb dX2_checkOver_1 rfl (lv_at hl 0 rfl) ?_
  refine va_get (D := D) (ci := 3) (v := .int (nI pG)) (C := RX2) (T := TX2) (N := 6) hx hb hts iw_X2_checkOver_X2 hown hK hP 0 rfl rfl 2 (by decide) (hts _ lk_X2_checkOver_f18) (fun _ h9 => h9) rfl dX2_checkOver_2 ?_
  refine lv_iload_n hx hb dX2_checkOver_5 rfl (lv_at hl 1 rfl) ?_
  refine lv_bipush (v := 8) hx hb dX2_checkOver_6 (by decide) ?_
  refine lv_ishr hx hb dX2_checkOver_8 ?_
  refine lv_topi (fun x_8 ex_8 => ?_)
  obtain rfl : x_8 = nI (d / 256) := by rw [ex_8]; exact sh_8 hd
  have hPc := hP.sub (ws' := [(h0, .inr (3, [.int (nI pB), .int (nI pS), .int (nI pG), .int (nI pE), .int (nI pC), .int (nI pO)]))]) [0] rfl
  have hDc := hD.sub (ws' := [(h0, .inr (3, [.int (nI pB), .int (nI pS), .int (nI pG), .int (nI pE), .int (nI pC), .int (nI pO)]))]) [0] (by decide) rfl
  have hFc := va_free (wc := [(h0, .inr (3, [.int (nI pB), .int (nI pS), .int (nI pG), .int (nI pE), .int (nI pC), .int (nI pO)]))]) hD hS hA [0] rfl
  refine va_calli (va_runV (As := [.int (nI pG), .int (nI (d / 256))]) (rest := []) ⟨hx, hb, hml, hown, hts⟩ (c_X2_shifted l D cy s.heap.size h0 pB pS pG pE pC pO pG (d / 256) (by first | assumption | omega) hG1 (by first | assumption | omega) (by omega)) (cwV 2 hts gX2_checkOver_X2_shifted rfl rfl rfl (by decide +kernel) ⟨Nat.le_of_ble_eq_true rfl, Nat.le_of_ble_eq_true rfl⟩) (pv_V (ci := 3) (q := (RX2, TX2, 6)) hkk hPc hDc rfl rfl rfl) rfl rfl hl.1 rfl (lv_room (Nat.le_of_ble_eq_true rfl)) dX2_checkOver_9 ⟨Nat.le_of_ble_eq_true rfl, Nat.le_of_ble_eq_true rfl⟩) hS (fun q _ h => hFc q h) hFc (fun r_9 u t H1 locs ht hvm hw hB hz1 hk1 hS => ?_)
  obtain ⟨hP1, hD1⟩ := hB
  rw [ht] at hP1
  try dsimp only at hw hP1 hD1
  obtain ⟨hP, hD⟩ := va_join (wr := [(g0, .inr (2, [.ref g1, .int (nI n)])), (g1, .inl (cy 0, 70, .inl f))]) (w1 := [(h0, .inr (3, [.int (nI pB), .int (nI pS), .int (nI pG), .int (nI pE), .int (nI pC), .int (nI pO)]))]) hP hD [0] [1, 2] rfl rfl (by decide) (by decide) hk1 hFc hP1 hD1
  clear hPc hDc hFc hP1 hD1 hz1 hk1
  generalize H1 = H at hP hS ⊢
  have hP : va_P D vwCl [(g0, .inr (2, [.ref g1, .int (nI n)])), (g1, .inl (cy 0, 70, .inl f)), (h0, .inr (3, [.int (nI pB), .int (nI pS), .int (nI pG), .int (nI pE), .int (nI pC), .int (nI pO)]))] H := hP
  have hD : va_D A [(g0, .inr (2, [.ref g1, .int (nI n)])), (g1, .inl (cy 0, 70, .inl f)), (h0, .inr (3, [.int (nI pB), .int (nI pS), .int (nI pG), .int (nI pE), .int (nI pC), .int (nI pO)]))] := hD
  obtain rfl := hw
  refine lv_istore (lv' := [(4, .int (nI (co pB pS (d / 256) 8 pG))), (0, .ref h0), (1, .int (nI d)), (2, .ref g0), (3, .int (nI w))]) hx hb dX2_checkOver_12 hl (by decide) rfl (fun ls hl => ?_)
  refine lv_aload_n hx hb dX2_checkOver_14 rfl (lv_at hl 1 rfl) ?_
  refine lv_iload hx hb dX2_checkOver_15 (lv_at hl 0 rfl) ?_
  refine lv_iload_n hx hb dX2_checkOver_17 rfl (lv_at hl 2 rfl) ?_
  have hPc := hP.sub (ws' := [(h0, .inr (3, [.int (nI pB), .int (nI pS), .int (nI pG), .int (nI pE), .int (nI pC), .int (nI pO)]))]) [2] rfl
  have hDc := hD.sub (ws' := [(h0, .inr (3, [.int (nI pB), .int (nI pS), .int (nI pG), .int (nI pE), .int (nI pC), .int (nI pO)]))]) [2] (by decide) rfl
  have hFc := va_free (wc := [(h0, .inr (3, [.int (nI pB), .int (nI pS), .int (nI pG), .int (nI pE), .int (nI pC), .int (nI pO)]))]) hD hS hA [2] rfl
  refine va_calli (va_runV (As := [.int (nI (co pB pS (d / 256) 8 pG)), .int (nI d)]) (rest := []) ⟨hx, hb, hml, hown, hts⟩ (c_X2_shifted l D cy H.size h0 pB pS pG pE pC pO (co pB pS (d / 256) 8 pG) d (by first | assumption | omega) (co_lt hS1 8 _ hG1) (by first | assumption | omega) (by omega)) (cwV 2 hts gX2_checkOver_X2_shifted rfl rfl rfl (by decide +kernel) ⟨Nat.le_of_ble_eq_true rfl, Nat.le_of_ble_eq_true rfl⟩) (pv_V (ci := 3) (q := (RX2, TX2, 6)) hkk hPc hDc rfl rfl rfl) rfl rfl hl.1 rfl (lv_room (Nat.le_of_ble_eq_true rfl)) dX2_checkOver_18 ⟨Nat.le_of_ble_eq_true rfl, Nat.le_of_ble_eq_true rfl⟩) hS (fun q _ h => hFc q h) hFc (fun r_18 u t H1 locs ht hvm hw hB hz1 hk1 hS => ?_)
  obtain ⟨hP1, hD1⟩ := hB
  rw [ht] at hP1
  try dsimp only at hw hP1 hD1
  obtain ⟨hP, hD⟩ := va_join (wr := [(g0, .inr (2, [.ref g1, .int (nI n)])), (g1, .inl (cy 0, 70, .inl f))]) (w1 := [(h0, .inr (3, [.int (nI pB), .int (nI pS), .int (nI pG), .int (nI pE), .int (nI pC), .int (nI pO)]))]) hP hD [2] [0, 1] rfl rfl (by decide) (by decide) hk1 hFc hP1 hD1
  clear hPc hDc hFc hP1 hD1 hz1 hk1
  generalize H1 = H at hP hS ⊢
  have hP : va_P D vwCl [(g0, .inr (2, [.ref g1, .int (nI n)])), (g1, .inl (cy 0, 70, .inl f)), (h0, .inr (3, [.int (nI pB), .int (nI pS), .int (nI pG), .int (nI pE), .int (nI pC), .int (nI pO)]))] H := hP
  have hD : va_D A [(g0, .inr (2, [.ref g1, .int (nI n)])), (g1, .inl (cy 0, 70, .inl f)), (h0, .inr (3, [.int (nI pB), .int (nI pS), .int (nI pG), .int (nI pE), .int (nI pC), .int (nI pO)]))] := hD
  obtain rfl := hw
  refine lv_topi (fun x_18 ex_18 => ?_)
  obtain rfl : x_18 = nI (cs pB pS g (co pB pS d 8 (co pB pS (d / 256) 8 pG)) 0) := by rw [ex_18]; exact congrArg nI cs_0.symm
  refine lv_istore (lv' := [(4, .int (nI (cs pB pS g (co pB pS d 8 (co pB pS (d / 256) 8 pG)) 0))), (0, .ref h0), (1, .int (nI d)), (2, .ref g0), (3, .int (nI w))]) hx hb dX2_checkOver_21 hl (by decide) rfl (fun ls hl => ?_)
  refine lv_iconst (v := 0) hx hb dX2_checkOver_23 (by decide) ?_
  refine lv_topi (fun x_23 ex_23 => ?_)
  obtain rfl : x_23 = nI 0 := by rw [ex_23]; exact nI_0.symm
  refine lv_istore (lv' := [(5, .int (nI 0)), (4, .int (nI (cs pB pS g (co pB pS d 8 (co pB pS (d / 256) 8 pG)) 0))), (0, .ref h0), (1, .int (nI d)), (2, .ref g0), (3, .int (nI w))]) hx hb dX2_checkOver_24 hl (by decide) rfl (fun ls hl => ?_)
  have cut_26 : ∀ (N : Nat) (k : Nat) (H : Heap) (locs : List Loc), w - k < N → k ≤ w → va_P D vwCl [(g0, .inr (2, [.ref g1, .int (nI n)])), (g1, .inl (cy 0, 70, .inl f)), (h0, .inr (3, [.int (nI pB), .int (nI pS), .int (nI pG), .int (nI pE), .int (nI pC), .int (nI pO)]))] H → va_D A [(g0, .inr (2, [.ref g1, .int (nI n)])), (g1, .inl (cy 0, 70, .inl f)), (h0, .inr (3, [.int (nI pB), .int (nI pS), .int (nI pG), .int (nI pE), .int (nI pC), .int (nI pO)]))] → va_S A s.heap H locs → ∀ (ls : Array Slot), lv_has ls 6 [(0, .ref h0), (1, .int (nI d)), (2, .ref g0), (3, .int (nI w)), (4, .int (nI (cs pB pS g (co pB pS d 8 (co pB pS (d / 256) 8 pG)) k))), (5, .int (nI k))] → W p l e (headSpec wsX2_checkOver ({ frames := 2, cells := 0, slots := 0, locals := 42 } : Room)).room s m [.ref h0, .int (nI d), .ref g0, .int (nI w)].toArray below meth c H locs 0 0 (MQ below (va_Qi (fun (r : Int32) (u : Unit) => r = nI (ck pB pS pG pE d g w)) (fun u t => va_P D vwCl [(h0, .inr (3, [.int (nI pB), .int (nI pS), .int (nI pG), .int (nI pE), .int (nI pC), .int (nI pO)])), (g0, .inr (2, [.ref g1, .int (nI n)])), (g1, .inl (cy 0, 70, .inl f))] t.heap ∧ va_D A [(h0, .inr (3, [.int (nI pB), .int (nI pS), .int (nI pG), .int (nI pE), .int (nI pC), .int (nI pO)])), (g0, .inr (2, [.ref g1, .int (nI n)])), (g1, .inl (cy 0, 70, .inl f))]) A) [.ref h0, .int (nI d), .ref g0, .int (nI w)].toArray s 0 0 A) (F0 m 26 ls []) := by
    intro N
    induction N with
    | zero => intro k H locs hN; exact absurd hN (Nat.not_lt_zero _)
    | succ N ih =>
      intro k H locs hN hk hP hD hS ls hl
      refine lv_iload hx hb dX2_checkOver_26 (lv_at hl 5 rfl) ?_
      refine lv_iload_n hx hb dX2_checkOver_28 rfl (lv_at hl 3 rfl) ?_
      refine lv_icmp_ge (tgt := 52) hx hb dX2_checkOver_29 (by decide) (fun c_29 => ?_) (fun c_29 => ?_)
      · obtain rfl : w = k := Nat.le_antisymm ((oc_ltN (by omega) (by omega)).mp c_29) hk
        refine lv_iload hx hb dX2_checkOver_52 (lv_at hl 4 rfl) ?_
        refine lv_aload_n hx hb dX2_checkOver_54 rfl (lv_at hl 0 rfl) ?_
        refine va_get (D := D) (ci := 3) (v := .int (nI pE)) (C := RX2) (T := TX2) (N := 6) hx hb hts iw_X2_checkOver_X2 hown hK hP 2 rfl rfl 3 (by decide) (hts _ lk_X2_checkOver_f21) (fun _ h9 => h9) rfl dX2_checkOver_55 ?_
        refine lv_ixor hx hb dX2_checkOver_58 ?_
        refine lv_topi (fun x_58 ex_58 => ?_)
        obtain rfl : x_58 = nI (ck pB pS pG pE d g w) := by rw [ex_58]; unfold ck; exact nx_xor _ _
        have hP9 := hP.sub (ws' := [(h0, .inr (3, [.int (nI pB), .int (nI pS), .int (nI pG), .int (nI pE), .int (nI pC), .int (nI pO)])), (g0, .inr (2, [.ref g1, .int (nI n)])), (g1, .inl (cy 0, 70, .inl f))]) [2, 0, 1] rfl
        have hD9 := hD.sub (ws' := [(h0, .inr (3, [.int (nI pB), .int (nI pS), .int (nI pG), .int (nI pE), .int (nI pC), .int (nI pO)])), (g0, .inr (2, [.ref g1, .int (nI n)])), (g1, .inl (cy 0, 70, .inl f))]) [2, 0, 1] (by decide) rfl
        exact W.iret (v := nI (ck pB pS pG pE d g w)) hx hb hr (fun t ht hW => ⟨⟨nI (ck pB pS pG pE d g w), (), rfl, rfl, by rw [ht]; exact hP9, hD9⟩, hS.F ht⟩) hS.2.2 dX2_checkOver_59
      · have hkm : k < w := Nat.not_le.mp fun q => c_29 ((oc_ltN (by omega) (by omega)).mpr q)
        refine lv_aload_n hx hb dX2_checkOver_32 rfl (lv_at hl 0 rfl) ?_
        refine lv_iload hx hb dX2_checkOver_33 (lv_at hl 4 rfl) ?_
        refine lv_aload_n hx hb dX2_checkOver_35 rfl (lv_at hl 2 rfl) ?_
        refine lv_iload hx hb dX2_checkOver_36 (lv_at hl 5 rfl) ?_
        have hPc := hP.sub (ws' := [(g0, .inr (2, [.ref g1, .int (nI n)])), (g1, .inl (cy 0, 70, .inl f))]) [0, 1] rfl
        have hDc := hD.sub (ws' := [(g0, .inr (2, [.ref g1, .int (nI n)])), (g1, .inl (cy 0, 70, .inl f))]) [0, 1] (by decide) rfl
        have hFc := va_free (wc := [(g0, .inr (2, [.ref g1, .int (nI n)])), (g1, .inl (cy 0, 70, .inl f))]) hD hS hA [0, 1] rfl
        refine va_calli (va_runV (As := [.int (nI k)]) (rest := [.int (nI (cs pB pS g (co pB pS d 8 (co pB pS (d / 256) 8 pG)) k)), .ref h0]) ⟨hx, hb, hml, hown, hts⟩ (c_X1_get l D cy H.size g0 g1 f n (nI k) hn) (cwV 1 hts gX2_checkOver_X1_get rfl rfl rfl (by decide +kernel) ⟨Nat.le_of_ble_eq_true rfl, Nat.le_of_ble_eq_true rfl⟩) (pv_V (ci := 2) (q := (RX1, TX1, 2)) hkk hPc hDc rfl rfl rfl) rfl rfl hl.1 rfl (lv_room (Nat.le_of_ble_eq_true rfl)) dX2_checkOver_38 ⟨Nat.le_of_ble_eq_true rfl, Nat.le_of_ble_eq_true rfl⟩) hS (fun q _ h => hFc q h) hFc (fun r_38 u t H1 locs ht hvm hw hB hz1 hk1 hS => ?_)
        obtain ⟨hP1, hD1⟩ := hB
        rw [ht] at hP1
        try dsimp only at hw hP1 hD1
        obtain ⟨hP, hD⟩ := va_join (wr := [(h0, .inr (3, [.int (nI pB), .int (nI pS), .int (nI pG), .int (nI pE), .int (nI pC), .int (nI pO)]))]) (w1 := [(g0, .inr (2, [.ref g1, .int (nI n)])), (g1, .inl (cy 0, 70, .inl f))]) hP hD [0, 1] [2] rfl rfl (by decide) (by decide) hk1 hFc hP1 hD1
        clear hPc hDc hFc hP1 hD1 hz1 hk1
        generalize H1 = H at hP hS ⊢
        have hP : va_P D vwCl [(h0, .inr (3, [.int (nI pB), .int (nI pS), .int (nI pG), .int (nI pE), .int (nI pC), .int (nI pO)])), (g0, .inr (2, [.ref g1, .int (nI n)])), (g1, .inl (cy 0, 70, .inl f))] H := hP
        have hD : va_D A [(h0, .inr (3, [.int (nI pB), .int (nI pS), .int (nI pG), .int (nI pE), .int (nI pC), .int (nI pO)])), (g0, .inr (2, [.ref g1, .int (nI n)])), (g1, .inl (cy 0, 70, .inl f))] := hD
        obtain rfl := hw
        refine lv_topi (fun x_38 ex_38 => ?_)
        obtain rfl : x_38 = nI (g k) := by rw [ex_38]; exact oc_get_is hg (by omega) hn
        have hPc := hP.sub (ws' := [(h0, .inr (3, [.int (nI pB), .int (nI pS), .int (nI pG), .int (nI pE), .int (nI pC), .int (nI pO)]))]) [0] rfl
        have hDc := hD.sub (ws' := [(h0, .inr (3, [.int (nI pB), .int (nI pS), .int (nI pG), .int (nI pE), .int (nI pC), .int (nI pO)]))]) [0] (by decide) rfl
        have hFc := va_free (wc := [(h0, .inr (3, [.int (nI pB), .int (nI pS), .int (nI pG), .int (nI pE), .int (nI pC), .int (nI pO)]))]) hD hS hA [0] rfl
        refine va_calli (va_runV (As := [.int (nI (cs pB pS g (co pB pS d 8 (co pB pS (d / 256) 8 pG)) k)), .int (nI (g k))]) (rest := []) ⟨hx, hb, hml, hown, hts⟩ (c_X2_shifted l D cy H.size h0 pB pS pG pE pC pO (cs pB pS g (co pB pS d 8 (co pB pS (d / 256) 8 pG)) k) (g k) (by first | assumption | omega) (cs_lt hS1 (co_lt hS1 8 _ (co_lt hS1 8 _ hG1)) k) (by first | assumption | omega) (by have := (hg k (by omega)).2; omega)) (cwV 2 hts gX2_checkOver_X2_shifted rfl rfl rfl (by decide +kernel) ⟨Nat.le_of_ble_eq_true rfl, Nat.le_of_ble_eq_true rfl⟩) (pv_V (ci := 3) (q := (RX2, TX2, 6)) hkk hPc hDc rfl rfl rfl) rfl rfl hl.1 rfl (lv_room (Nat.le_of_ble_eq_true rfl)) dX2_checkOver_41 ⟨Nat.le_of_ble_eq_true rfl, Nat.le_of_ble_eq_true rfl⟩) hS (fun q _ h => hFc q h) hFc (fun r_41 u t H1 locs ht hvm hw hB hz1 hk1 hS => ?_)
        obtain ⟨hP1, hD1⟩ := hB
        rw [ht] at hP1
        try dsimp only at hw hP1 hD1
        obtain ⟨hP, hD⟩ := va_join (wr := [(g0, .inr (2, [.ref g1, .int (nI n)])), (g1, .inl (cy 0, 70, .inl f))]) (w1 := [(h0, .inr (3, [.int (nI pB), .int (nI pS), .int (nI pG), .int (nI pE), .int (nI pC), .int (nI pO)]))]) hP hD [0] [1, 2] rfl rfl (by decide) (by decide) hk1 hFc hP1 hD1
        clear hPc hDc hFc hP1 hD1 hz1 hk1
        generalize H1 = H at hP hS ⊢
        have hP : va_P D vwCl [(g0, .inr (2, [.ref g1, .int (nI n)])), (g1, .inl (cy 0, 70, .inl f)), (h0, .inr (3, [.int (nI pB), .int (nI pS), .int (nI pG), .int (nI pE), .int (nI pC), .int (nI pO)]))] H := hP
        have hD : va_D A [(g0, .inr (2, [.ref g1, .int (nI n)])), (g1, .inl (cy 0, 70, .inl f)), (h0, .inr (3, [.int (nI pB), .int (nI pS), .int (nI pG), .int (nI pE), .int (nI pC), .int (nI pO)]))] := hD
        obtain rfl := hw
        refine lv_topi (fun x_41 ex_41 => ?_)
        obtain rfl : x_41 = nI (cs pB pS g (co pB pS d 8 (co pB pS (d / 256) 8 pG)) (k + 1)) := by rw [ex_41]; exact congrArg nI cs_1.symm
        refine lv_istore (lv' := [(4, .int (nI (cs pB pS g (co pB pS d 8 (co pB pS (d / 256) 8 pG)) (k + 1)))), (0, .ref h0), (1, .int (nI d)), (2, .ref g0), (3, .int (nI w)), (5, .int (nI k))]) hx hb dX2_checkOver_44 hl (by decide) rfl (fun ls hl => ?_)
        refine lv_iinc (v := nI (k + 1)) (lv' := [(5, .int (nI (k + 1))), (4, .int (nI (cs pB pS g (co pB pS d 8 (co pB pS (d / 256) 8 pG)) (k + 1)))), (0, .ref h0), (1, .int (nI d)), (2, .ref g0), (3, .int (nI w))]) hx hb dX2_checkOver_46 hl (k := 5) rfl (nI_1 k) (by decide) rfl (fun ls hl => ?_)
        refine lv_goto (tgt := 26) hx hb dX2_checkOver_49 (by decide) ?_
        exact ih (k + 1) _ _ (by omega) (by omega) hP hD hS _ (lv_sub hl [2, 3, 4, 5, 1, 0] rfl)
  exact cut_26 _ 0 _ _ (Nat.lt_succ_self _) (Nat.zero_le _) hP hD hS _ (lv_sub hl [2, 3, 4, 5, 1, 0] rfl)
