set_option maxHeartbeats 4000000 in
set_option maxRecDepth 100000 in
theorem r_X1_has (l : Launch) (D : va_G) (cy : Nat → ClassId) (sz : Nat) (h0 : Nat) (h1 : Nat) (f : Nat → Int32) (n : Nat) (i : Int32) (hn : n ≤ 70) : Met l yX1_has wsX1_has ({ frames := 0, cells := 0, slots := 0, locals := 0 } : Room) (pre1 D cy [.ref h0, .int i] [(h0, .inr (2, [.ref h1, .int (nI n)])), (h1, .inl (cy 0, 70, .inl f))] sz) (QcRead (oc_has i n)) 0 0 (fun _ => False) := by
  refine Met.ofW (cc := cX1_has) (maxL := 2) (ret := (some .boolean)) (by decide) rfl ?_
  intro p e s m args below meth c s₁ B hml hv
  obtain ⟨rfl, hsz, hP, hkk, hD0⟩ := hv
  have hx := B.exec
  have hb := B.bytes
  have hr := B.returns
  have hts := atoms_spec (ws := wsX1_has) B.pre
  have hown : s.vm.findClass RX1 = some m.cls := findClass_of_methodNamed B.named
  have hlocks := B.notSynchronized
  have hin : meth.name = _ := (name_of_methodNamed B.named B.method).1
  have hK := hkk.1
  subst hsz
  have hD := hD0.self (sz := s.heap.size)
  generalize hAe : va_A [(h0, .inr (2, [.ref h1, .int (nI n)])), (h1, .inl (cy 0, 70, .inl f))] s.heap.size = A at hD
  have hA : ∀ q : Nat, s.heap.size ≤ q → A q := fun q h => by rw [← hAe]; exact Or.inr h
  have hS : va_S A s.heap s.heap [] := va_S.rf
  have hP : va_P D vwCl [(h0, .inr (2, [.ref h1, .int (nI n)])), (h1, .inl (cy 0, 70, .inl f))] s.heap := hP
  have hl := lv_entry ([.ref h0, .int i]) (n := 2) (Nat.le_of_ble_eq_true rfl)
  rw [lg_entry_eq]
  generalize (lg_sl ([.ref h0, .int i]) ++ List.replicate (2 - (lg_sl ([.ref h0, .int i])).length) Slot.unset).toArray = ls at hl ⊢
  have hl : lv_has ls 2 [(0, .ref h0), (1, .int i)] := hl
  refine lv_iload_n hx hb dX1_has_0 rfl (lv_at hl 1 rfl) ?_
  refine lv_if_lt (tgt := 25) hx hb dX1_has_1 (by decide) (fun c_1 => ?_) (fun c_1 => ?_)
  · refine lv_iconst (v := 0) hx hb dX1_has_25 (by decide) ?_
    exact W.zret (v := 0) hx hb hr rfl (fun t ht hW => ⟨congrArg (fun z => Outcome.returned (some (Value.int z))) (oc_has_lo c_1), ht⟩) (fun q h => by cases h) dX1_has_26
  · refine lv_iload_n hx hb dX1_has_4 rfl (lv_at hl 1 rfl) ?_
    refine lv_aload_n hx hb dX1_has_5 rfl (lv_at hl 0 rfl) ?_
    refine va_get (D := D) (ci := 2) (v := .int (nI n)) (C := RX1) (T := TX1) (N := 2) hx hb hts iw_X1_has_X1 hown hK hP 0 rfl rfl 1 (by decide) (hts _ lk_X1_has_f15) (fun _ h9 => h9) rfl dX1_has_6 ?_
    refine lv_icmp_ge (tgt := 25) hx hb dX1_has_9 (by decide) (fun c_9 => ?_) (fun c_9 => ?_)
    · refine lv_iconst (v := 0) hx hb dX1_has_25 (by decide) ?_
      exact W.zret (v := 0) hx hb hr rfl (fun t ht hW => ⟨congrArg (fun z => Outcome.returned (some (Value.int z))) (oc_has_hi hn c_9), ht⟩) (fun q h => by cases h) dX1_has_26
    · refine lv_iload_n hx hb dX1_has_12 rfl (lv_at hl 1 rfl) ?_
      refine lv_aload_n hx hb dX1_has_13 rfl (lv_at hl 0 rfl) ?_
      refine va_get (D := D) (ci := 2) (v := .ref h1) (C := RX1) (T := TX1) (N := 2) hx hb hts iw_X1_has_X1 hown hK hP 0 rfl rfl 0 (by decide) (hts _ lk_X1_has_f9) (fun _ h9 => h9) rfl dX1_has_14 ?_
      refine va_alen hx hb hK hP 1 0 rfl rfl (v := 70) rfl dX1_has_17 ?_
      refine lv_icmp_ge (tgt := 25) hx hb dX1_has_18 (by decide) (fun c_18 => ?_) (fun c_18 => ?_)
      · refine lv_iconst (v := 0) hx hb dX1_has_25 (by decide) ?_
        exact W.zret (v := 0) hx hb hr rfl (fun t ht hW => ⟨congrArg (fun z => Outcome.returned (some (Value.int z))) (oc_has_70 hn c_18), ht⟩) (fun q h => by cases h) dX1_has_26
      · refine lv_iconst (v := 1) hx hb dX1_has_21 (by decide) ?_
        refine lv_goto (tgt := 26) hx hb dX1_has_22 (by decide) ?_
        exact W.zret (v := 1) hx hb hr rfl (fun t ht hW => ⟨congrArg (fun z => Outcome.returned (some (Value.int z))) (oc_has_in hn c_1 c_9), ht⟩) (fun q h => by cases h) dX1_has_26

theorem iw_X5_out_X5 : ∀ w ∈ wsX50, w ∈ wsX5_out := by decide +kernel
theorem lk_X5_out_f18 : (.fieldLink RX5 18 "DataGuards" "sender" "LDataGuards$Sender;" : Cond) ∈ wsX5_out := by decide +kernel
theorem iw_X5_out_X4 : ∀ w ∈ wsX40, w ∈ wsX5_out := by decide +kernel
set_option maxHeartbeats 4000000 in
set_option maxRecDepth 100000 in
theorem c_X5_out (l : Launch) (D : va_G) (cy : Nat → ClassId) (sz : Nat) (h0 : Nat) (s0 : Nat) (v0 : Nat) (i0 : Nat) (p0 : Nat) (d0 : Nat) (r0 : Nat) (r1 : Nat) (tt : Int64) (tg : Int64) (ct : Int32) (fp : Int32) (fk : Int32) (sk : Int32) (rf : Nat → Int32) (rn : Nat) (i : Int32) (hrn : rn ≤ 70) (hi : ¬ oc_has i rn = 0) : Met l yX5_out wsX5_out ({ frames := 2, cells := 0, slots := 0, locals := 42 } : Room) (pre1 D cy [.ref h0, .int i] [(h0, .inr (6, [.ref s0, .ref v0, .ref i0, .long tt, .long tg])), (s0, .inr (5, [.ref p0, .ref d0, .ref r0, .int ct, .int fp, .int fk, .int sk])), (r0, .inr (2, [.ref r1, .int (nI rn)])), (r1, .inl (cy 0, 70, .inl rf))] sz) (va_Qi (fun (r : Int32) (u : Unit) => r = (oc_get rf rn i).toInt8.toInt32) (fun u t => va_P D vwCl [(h0, .inr (6, [.ref s0, .ref v0, .ref i0, .long tt, .long tg])), (s0, .inr (5, [.ref p0, .ref d0, .ref r0, .int ct, .int fp, .int fk, .int sk])), (r0, .inr (2, [.ref r1, .int (nI rn)])), (r1, .inl (cy 0, 70, .inl rf))] t.heap ∧ va_D (va_A [(h0, .inr (6, [.ref s0, .ref v0, .ref i0, .long tt, .long tg])), (s0, .inr (5, [.ref p0, .ref d0, .ref r0, .int ct, .int fp, .int fk, .int sk])), (r0, .inr (2, [.ref r1, .int (nI rn)])), (r1, .inl (cy 0, 70, .inl rf))] sz) [(h0, .inr (6, [.ref s0, .ref v0, .ref i0, .long tt, .long tg])), (s0, .inr (5, [.ref p0, .ref d0, .ref r0, .int ct, .int fp, .int fk, .int sk])), (r0, .inr (2, [.ref r1, .int (nI rn)])), (r1, .inl (cy 0, 70, .inl rf))]) (va_A [(h0, .inr (6, [.ref s0, .ref v0, .ref i0, .long tt, .long tg])), (s0, .inr (5, [.ref p0, .ref d0, .ref r0, .int ct, .int fp, .int fk, .int sk])), (r0, .inr (2, [.ref r1, .int (nI rn)])), (r1, .inl (cy 0, 70, .inl rf))] sz)) 0 0 (va_A [(h0, .inr (6, [.ref s0, .ref v0, .ref i0, .long tt, .long tg])), (s0, .inr (5, [.ref p0, .ref d0, .ref r0, .int ct, .int fp, .int fk, .int sk])), (r0, .inr (2, [.ref r1, .int (nI rn)])), (r1, .inl (cy 0, 70, .inl rf))] sz) := by
  refine Met.ofW (cc := cX5_out) (maxL := 2) (ret := (some .byte)) (by decide) rfl ?_
  intro p e s m args below meth c s₁ B hml hv
  obtain ⟨rfl, hsz, hP, hkk, hD0⟩ := hv
  have hx := B.exec
  have hb := B.bytes
  have hr := B.returns
  have hts := atoms_spec (ws := wsX5_out) B.pre
  have hown : s.vm.findClass RX5 = some m.cls := findClass_of_methodNamed B.named
  have hlocks := B.notSynchronized
  have hin : meth.name = _ := (name_of_methodNamed B.named B.method).1
  have hK := hkk.1
  subst hsz
  have hD := hD0.self (sz := s.heap.size)
  generalize hAe : va_A [(h0, .inr (6, [.ref s0, .ref v0, .ref i0, .long tt, .long tg])), (s0, .inr (5, [.ref p0, .ref d0, .ref r0, .int ct, .int fp, .int fk, .int sk])), (r0, .inr (2, [.ref r1, .int (nI rn)])), (r1, .inl (cy 0, 70, .inl rf))] s.heap.size = A at hD ⊢
  have hA : ∀ q : Nat, s.heap.size ≤ q → A q := fun q h => by rw [← hAe]; exact Or.inr h
  have hS : va_S A s.heap s.heap [] := va_S.rf
  have hP : va_P D vwCl [(h0, .inr (6, [.ref s0, .ref v0, .ref i0, .long tt, .long tg])), (s0, .inr (5, [.ref p0, .ref d0, .ref r0, .int ct, .int fp, .int fk, .int sk])), (r0, .inr (2, [.ref r1, .int (nI rn)])), (r1, .inl (cy 0, 70, .inl rf))] s.heap := hP
  have hl := lv_entry ([.ref h0, .int i]) (n := 2) (Nat.le_of_ble_eq_true rfl)
  rw [lg_entry_eq]
  generalize (lg_sl ([.ref h0, .int i]) ++ List.replicate (2 - (lg_sl ([.ref h0, .int i])).length) Slot.unset).toArray = ls at hl ⊢
  have hl : lv_has ls 2 [(0, .ref h0), (1, .int i)] := hl
  refine lv_aload_n hx hb dX5_out_0 rfl (lv_at hl 0 rfl) ?_
  refine va_get (D := D) (ci := 6) (v := .ref s0) (C := RX5) (T := TX5) (N := 5) hx hb hts iw_X5_out_X5 hown hK hP 0 rfl rfl 0 (by decide) (hts _ lk_X5_out_f18) (fun _ h9 => h9) rfl dX5_out_1 ?_
  refine va_getN (D := D) (ci := 5) (v := .ref r0) (C := RX4) (T := TX4) (N := 7) hx hb hts iw_X5_out_X4 hown hK hP 1 rfl rfl 2 (by decide) (nw_use 5 rfl rfl hkk.2) (fun _ h9 => h9) rfl dX5_out_4 ?_
  refine lv_iload_n hx hb dX5_out_7 rfl (lv_at hl 1 rfl) ?_
  have hPc := hP.sub (ws' := [(r0, .inr (2, [.ref r1, .int (nI rn)])), (r1, .inl (cy 0, 70, .inl rf))]) [2, 3] rfl
  have hDc := hD.sub (ws' := [(r0, .inr (2, [.ref r1, .int (nI rn)])), (r1, .inl (cy 0, 70, .inl rf))]) [2, 3] (by decide) rfl
  have hFc := va_free (wc := [(r0, .inr (2, [.ref r1, .int (nI rn)])), (r1, .inl (cy 0, 70, .inl rf))]) hD hS hA [2, 3] rfl
  refine va_calli (va_runV (As := [.int i]) (rest := []) ⟨hx, hb, hml, hown, hts⟩ (c_X1_has l D cy s.heap.size r0 r1 rf rn i (by first | assumption | omega)) (cwV 1 hts gX5_out_X1_has rfl rfl rfl (by decide +kernel) ⟨Nat.le_of_ble_eq_true rfl, Nat.le_of_ble_eq_true rfl⟩) (pv_V (ci := 2) (q := (RX1, TX1, 2)) hkk hPc hDc rfl rfl rfl) rfl rfl hl.1 rfl (lv_room (Nat.le_of_ble_eq_true rfl)) dX5_out_8 ⟨Nat.le_of_ble_eq_true rfl, Nat.le_of_ble_eq_true rfl⟩) hS (fun q _ h => hFc q h) hFc (fun r_8 u t H1 locs ht hvm hw hB hz1 hk1 hS => ?_)
  obtain ⟨hP1, hD1⟩ := hB
  rw [ht] at hP1
  try dsimp only at hw hP1 hD1
  obtain ⟨hP, hD⟩ := va_join (wr := [(h0, .inr (6, [.ref s0, .ref v0, .ref i0, .long tt, .long tg])), (s0, .inr (5, [.ref p0, .ref d0, .ref r0, .int ct, .int fp, .int fk, .int sk]))]) (w1 := [(r0, .inr (2, [.ref r1, .int (nI rn)])), (r1, .inl (cy 0, 70, .inl rf))]) hP hD [2, 3] [0, 1] rfl rfl (by decide) (by decide) hk1 hFc hP1 hD1
  clear hPc hDc hFc hP1 hD1 hz1 hk1
  generalize H1 = H at hP hS ⊢
  have hP : va_P D vwCl [(h0, .inr (6, [.ref s0, .ref v0, .ref i0, .long tt, .long tg])), (s0, .inr (5, [.ref p0, .ref d0, .ref r0, .int ct, .int fp, .int fk, .int sk])), (r0, .inr (2, [.ref r1, .int (nI rn)])), (r1, .inl (cy 0, 70, .inl rf))] H := hP
  have hD : va_D A [(h0, .inr (6, [.ref s0, .ref v0, .ref i0, .long tt, .long tg])), (s0, .inr (5, [.ref p0, .ref d0, .ref r0, .int ct, .int fp, .int fk, .int sk])), (r0, .inr (2, [.ref r1, .int (nI rn)])), (r1, .inl (cy 0, 70, .inl rf))] := hD
  obtain rfl := hw
  refine lv_if_ne (tgt := 24) hx hb dX5_out_11 (by decide) (fun c_11 => ?_) (fun c_11 => ?_)
  · refine lv_aload_n hx hb dX5_out_24 rfl (lv_at hl 0 rfl) ?_
    refine va_get (D := D) (ci := 6) (v := .ref s0) (C := RX5) (T := TX5) (N := 5) hx hb hts iw_X5_out_X5 hown hK hP 0 rfl rfl 0 (by decide) (hts _ lk_X5_out_f18) (fun _ h9 => h9) rfl dX5_out_25 ?_
    refine va_getN (D := D) (ci := 5) (v := .ref r0) (C := RX4) (T := TX4) (N := 7) hx hb hts iw_X5_out_X4 hown hK hP 1 rfl rfl 2 (by decide) (nw_use 5 rfl rfl hkk.2) (fun _ h9 => h9) rfl dX5_out_28 ?_
    refine lv_iload_n hx hb dX5_out_31 rfl (lv_at hl 1 rfl) ?_
    have hPc := hP.sub (ws' := [(r0, .inr (2, [.ref r1, .int (nI rn)])), (r1, .inl (cy 0, 70, .inl rf))]) [2, 3] rfl
    have hDc := hD.sub (ws' := [(r0, .inr (2, [.ref r1, .int (nI rn)])), (r1, .inl (cy 0, 70, .inl rf))]) [2, 3] (by decide) rfl
    have hFc := va_free (wc := [(r0, .inr (2, [.ref r1, .int (nI rn)])), (r1, .inl (cy 0, 70, .inl rf))]) hD hS hA [2, 3] rfl
    refine va_calli (va_runV (As := [.int i]) (rest := []) ⟨hx, hb, hml, hown, hts⟩ (c_X1_get l D cy H.size r0 r1 rf rn i (by first | assumption | omega)) (cwV 1 hts gX5_out_X1_get rfl rfl rfl (by decide +kernel) ⟨Nat.le_of_ble_eq_true rfl, Nat.le_of_ble_eq_true rfl⟩) (pv_V (ci := 2) (q := (RX1, TX1, 2)) hkk hPc hDc rfl rfl rfl) rfl rfl hl.1 rfl (lv_room (Nat.le_of_ble_eq_true rfl)) dX5_out_32 ⟨Nat.le_of_ble_eq_true rfl, Nat.le_of_ble_eq_true rfl⟩) hS (fun q _ h => hFc q h) hFc (fun r_32 u t H1 locs ht hvm hw hB hz1 hk1 hS => ?_)
    obtain ⟨hP1, hD1⟩ := hB
    rw [ht] at hP1
    try dsimp only at hw hP1 hD1
    obtain ⟨hP, hD⟩ := va_join (wr := [(h0, .inr (6, [.ref s0, .ref v0, .ref i0, .long tt, .long tg])), (s0, .inr (5, [.ref p0, .ref d0, .ref r0, .int ct, .int fp, .int fk, .int sk]))]) (w1 := [(r0, .inr (2, [.ref r1, .int (nI rn)])), (r1, .inl (cy 0, 70, .inl rf))]) hP hD [2, 3] [0, 1] rfl rfl (by decide) (by decide) hk1 hFc hP1 hD1
    clear hPc hDc hFc hP1 hD1 hz1 hk1
    generalize H1 = H at hP hS ⊢
    have hP : va_P D vwCl [(h0, .inr (6, [.ref s0, .ref v0, .ref i0, .long tt, .long tg])), (s0, .inr (5, [.ref p0, .ref d0, .ref r0, .int ct, .int fp, .int fk, .int sk])), (r0, .inr (2, [.ref r1, .int (nI rn)])), (r1, .inl (cy 0, 70, .inl rf))] H := hP
    have hD : va_D A [(h0, .inr (6, [.ref s0, .ref v0, .ref i0, .long tt, .long tg])), (s0, .inr (5, [.ref p0, .ref d0, .ref r0, .int ct, .int fp, .int fk, .int sk])), (r0, .inr (2, [.ref r1, .int (nI rn)])), (r1, .inl (cy 0, 70, .inl rf))] := hD
    obtain rfl := hw
    refine lv_i2b (v := (oc_get rf rn i).toInt8.toInt32) hx hb dX5_out_35 rfl ?_
    have hP9 := hP.sub (ws' := [(h0, .inr (6, [.ref s0, .ref v0, .ref i0, .long tt, .long tg])), (s0, .inr (5, [.ref p0, .ref d0, .ref r0, .int ct, .int fp, .int fk, .int sk])), (r0, .inr (2, [.ref r1, .int (nI rn)])), (r1, .inl (cy 0, 70, .inl rf))]) [0, 1, 2, 3] rfl
    have hD9 := hD.sub (ws' := [(h0, .inr (6, [.ref s0, .ref v0, .ref i0, .long tt, .long tg])), (s0, .inr (5, [.ref p0, .ref d0, .ref r0, .int ct, .int fp, .int fk, .int sk])), (r0, .inr (2, [.ref r1, .int (nI rn)])), (r1, .inl (cy 0, 70, .inl rf))]) [0, 1, 2, 3] (by decide) rfl
    exact W.zret (v := (oc_get rf rn i).toInt8.toInt32) hx hb hr (pk_nb _) (fun t ht hW => ⟨⟨(oc_get rf rn i).toInt8.toInt32, (), rfl, rfl, by rw [ht]; exact hP9, hD9⟩, hS.F ht⟩) hS.2.2 dX5_out_36
  · exact absurd c_11 hi


def pre3 (D : va_G) (cy : Nat → ClassId) (av : List Value) (ws : va_W) (sz : Nat) : Array Value → State → Prop := va_Pc av (fun U => U.heap.size = sz ∧ va_P D vwCl ws U.heap ∧ kk D cy U ∧ va_D (fun _ => True) ws ∧ OA U)
theorem pre3_blind {D : va_G} {cy : Nat → ClassId} {av : List Value} {ws : va_W} {sz : Nat} : FrameBlind (pre3 D cy av ws sz) := by
  intro a U g mk q
  obtain ⟨q0, q1, qP, qK, qD, qO⟩ := q
  exact ⟨q0, q1, qP, ⟨va_K.moved (u := U) (U := U.calling g mk a) (Vm.Alike.refl U.vm) qK.1, nw_same (u := U) (U := U.calling g mk a) rfl qK.2⟩, qD, OA_call qO⟩
def QTh (_ : Array Value) (st : State) (o : Outcome) (t : State) : Prop := ∃ (x : Addr) (ce : Cell), o = .threw x ∧ t.heap[x]? = some ce ∧ st.vm.findClass RJx00060 = some ce.cls ∧ ce.vm = .none ∧ st.vm.assignable ce.cls ce.cls = true ∧ st.WarmedH t.vm ∧ st.sameButNew ({ t with vm := st.vm } : State) [] 1 6
set_option maxHeartbeats 4000000 in
set_option maxRecDepth 100000 in
/-- out(i), where there is no such octet: it throws -/
theorem out_thr (l : Launch) (hfl : l.flags = flags0) (D : va_G) (cy : Nat → ClassId) (sz : Nat) (h0 : Nat) (s0 : Nat) (v0 : Nat) (i0 : Nat) (p0 : Nat) (d0 : Nat) (r0 : Nat) (r1 : Nat) (tt : Int64) (tg : Int64) (ct : Int32) (fp : Int32) (fk : Int32) (sk : Int32) (rf : Nat → Int32) (rn : Nat) (i : Int32) (hrn : rn ≤ 70) (hi : oc_has i rn = 0) : MetFree l yX5_out (headSpec wsX5_out ({ frames := 7, cells := 1, slots := 6, locals := 120 } : Room)) (pre3 D cy [.ref h0, .int i] [(h0, .inr (6, [.ref s0, .ref v0, .ref i0, .long tt, .long tg])), (s0, .inr (5, [.ref p0, .ref d0, .ref r0, .int ct, .int fp, .int fk, .int sk])), (r0, .inr (2, [.ref r1, .int (nI rn)])), (r1, .inl (cy 0, 70, .inl rf))] sz) (fun _ _ _ _ _ => True) QTh := by
  refine MetFree.of_bodyS (code := cX5_out) (maxLocals := 2) (ret := (some .byte)) (by decide) ?_ ?_
  · intro args s m h hn
    obtain ⟨meth, c, h1, h2, h3, h4, h5, h6, -, -⟩ := Cond.code_spec hn (atoms_spec (ws := wsX5_out) h _ List.mem_cons_self)
    exact ⟨meth, c, h1, h2, h3, h4, h5, h6⟩
  · intro p e s m args below meth c s₁ B hml hv _
    have hh0 : s₁.heap = s.heap := by rw [B.state]; rfl
    obtain ⟨rfl, hsz, hP, hkk, hD, hOA⟩ := hv
    have hx := B.exec
    have hb := B.bytes
    have hr := B.returns
    have hts := atoms_spec (ws := wsX5_out) B.pre
    have hown : s.vm.findClass RX5 = some m.cls := findClass_of_methodNamed B.named
    have hlocks := B.notSynchronized
    have hK := hkk.1
    have hcodeV := hts _ (List.mem_cons_self (a := Cond.code yX5_out cX5_out 2 (some .byte)))
    have hno := covers_of_empty (B.noHandlers hcodeV)
    subst hsz
    have hP : va_P D vwCl [(h0, .inr (6, [.ref s0, .ref v0, .ref i0, .long tt, .long tg])), (s0, .inr (5, [.ref p0, .ref d0, .ref r0, .int ct, .int fp, .int fk, .int sk])), (r0, .inr (2, [.ref r1, .int (nI rn)])), (r1, .inl (cy 0, 70, .inl rf))] s.heap := hP
    have Kw : W p l e (headSpec wsX5_out ({ frames := 7, cells := 1, slots := 6, locals := 120 } : Room)).room s m [Value.ref h0, .int i].toArray below meth c s.heap [] 0 0 (fun t => ∃ o, t.status = .running ∧ Ended t below o ∧ QTh [Value.ref h0, .int i].toArray s o t) (entryFrame m [Value.ref h0, .int i].toArray 2) := by
      have hl := lv_entry ([.ref h0, .int i]) (n := 2) (Nat.le_of_ble_eq_true rfl)
      rw [lg_entry_eq]
      generalize (lg_sl ([.ref h0, .int i]) ++ List.replicate (2 - (lg_sl ([.ref h0, .int i])).length) Slot.unset).toArray = ls at hl ⊢
      have hl : lv_has ls 2 [(0, .ref h0), (1, .int i)] := hl
      refine lv_aload_n hx hb dX5_out_0 rfl (lv_at hl 0 rfl) ?_
      refine va_get (D := D) (ci := 6) (v := .ref s0) (C := RX5) (T := TX5) (N := 5) hx hb hts iw_X5_out_X5 hown hK hP 0 rfl rfl 0 (by decide) (hts _ lk_X5_out_f18) (fun _ h9 => h9) rfl dX5_out_1 ?_
      refine va_getN (D := D) (ci := 5) (v := .ref r0) (C := RX4) (T := TX4) (N := 7) hx hb hts iw_X5_out_X4 hown hK hP 1 rfl rfl 2 (by decide) (nw_use 5 rfl rfl hkk.2) (fun _ h9 => h9) rfl dX5_out_4 ?_
      refine lv_iload_n hx hb dX5_out_7 rfl (lv_at hl 1 rfl) ?_
      have hPc := hP.sub (ws' := [(r0, .inr (2, [.ref r1, .int (nI rn)])), (r1, .inl (cy 0, 70, .inl rf))]) [2, 3] rfl
      have hDc := hD.sub (ws' := [(r0, .inr (2, [.ref r1, .int (nI rn)])), (r1, .inl (cy 0, 70, .inl rf))]) [2, 3] (by decide) rfl
      refine W.callR (W.runV (As := [.int i]) (rest := []) ⟨hx, hb, hml, hown, hts⟩ (r_X1_has l D cy s.heap.size r0 r1 rf rn i hrn) (cwV 1 hts gX5_out_X1_has rfl rfl rfl (by decide +kernel) ⟨Nat.le_of_ble_eq_true rfl, Nat.le_of_ble_eq_true rfl⟩) (pv_V (ci := 2) (q := (RX1, TX1, 2)) hkk hPc hDc rfl rfl rfl) rfl rfl hl.1 rfl (lv_room (Nat.le_of_ble_eq_true rfl)) dX5_out_8 ⟨Nat.le_of_ble_eq_true rfl, Nat.le_of_ble_eq_true rfl⟩) ?_
      refine W.eq (g2 := F0 m 11 ls [.int (oc_has i rn)]) rfl ?_
      refine lv_if_ne (tgt := 24) hx hb dX5_out_11 (by decide) (fun c_11 => absurd hi c_11) (fun c_11 => ?_)
      refine W.newc hx hb hown (OA_use hOA (w := .classLink RX5 59 RJx00060) (by decide +kernel)) (OA_use hOA (w := .instantiable RJx00060 6) (by decide +kernel)) (OA_use hOA (w := .initialized RJx00060) (by decide +kernel)) (g := F0 m 14 ls []) rfl dX5_out_14 (Nat.le_of_ble_eq_true rfl) (Nat.le_of_ble_eq_true rfl) (fun cC kC hfX hkX hkind hn6 => ?_)
      refine W.eq (g2 := F0 m 17 ls [.ref s.heap.size]) rfl ?_
      refine lv_dup hx hb dX5_out_17 rfl ?_
      obtain ⟨q, hq⟩ := hOA.2.2.2
      refine va_ldcS hx hb hown hq dX5_out_18 ?_
      intro T hT X
      have htr : e.platform.stackTraces = false := by
        rw [X.admits.platform]
        show (!l.flags.contains noTraceFlag) = false
        rw [hfl]
        decide
      obtain ⟨U, hsteps, hrun, hend, hW, hsame, ce, hce, K⟩ := X.ctorThrowS hx htr (own := RX5) (cls := RJx00060) (names := upN) (ic := 63) hown (by decide +kernel) (by decide +kernel) (OA_atoms hOA) (fun y hy => by cases hy) hfX hkX (a := s.heap.size) (by rw [hT]; simp [freshCell]) (Nat.le_refl _) (msg := .ref q) rfl (g := F0 m 20 ls [.ref q, .ref s.heap.size, .ref s.heap.size]) rfl (hl.1.trans hml.symm) rfl rfl (rest := []) rfl (by rw [hb]; exact dX5_out_20) (by rw [hb]; exact dX5_out_23) (hno _) (Nat.le_of_ble_eq_true rfl) (Nat.le_of_ble_eq_true rfl)
      exact ⟨U, hsteps, .threw s.heap.size, hrun, hend, s.heap.size, ce, rfl, hce, K.cls, K.vm, K.self, hW, hsame⟩
    obtain ⟨t, a1, o, b1, b2, b3⟩ := Kw s₁ hh0 (Stand.of_body B)
    exact ⟨t, o, a1, b1, b2, b3⟩
