/-! A call that throws, and whose throw is caught in the frame that called. -/
theorem ct_same {T U : State} {k n : Nat} (h : T.sameButNew U [] k n) : T.heap.size ≤ U.heap.size ∧ ∀ q : Nat, q < T.heap.size → U.heap[q]? = T.heap[q]? := by
  obtain ⟨-, h1, -, -, -, h2⟩ := h
  refine ⟨h1, fun q hq => ?_⟩
  obtain ⟨cell, hc⟩ : ∃ cell, T.heap[q]? = some cell := ⟨T.heap[q], by simp [hq]⟩
  obtain ⟨c', g1, g2, g3, g4⟩ := h2 q cell hc
  have he : c'.slots = cell.slots := Array.ext_getElem? (fun i => g4 i (by simp))
  rw [g1, hc, g2, he]
section CT
variable {p : Program} {l : Launch} {e : Env} {R : Room} {s : State} {m : MethodId} {args : Array Value} {below : List Frame} {meth : Method} {c : Code} {H : Heap} {locs : List Loc} {cells slots : Nat} {Q : State → Prop}
theorem ct_callV {y : MethodName} {bytes cc : ByteArray} {maxL nL n index : Nat} {ret : Option FieldType} {ws : List Cond} {rm : Room} {Pc : Array Value → State → Prop} {Ts : List Cond} {own C : String} {b : Addr} {As rest : List Value} {g : JFrame}
    (S : CallFix p m c cc nL s args Ts own) (hM : MetFree l y (headSpec ws rm) Pc (fun _ _ _ _ _ => True) QTh) (cw : CallW R s args own C index y bytes maxL ret ws rm 1 6 n) (hp : PreV s H C b Pc As)
    (hg : g.method = m) (hn : As.length = n) (hsize : g.locals.size = nL) (hstack : g.stack = As.reverse ++ .ref b :: rest) (hW : 2 * g.monitorRoom + (rest.map fun v => v.category).sum ≤ 8) (hdg : decode cc g.pc = .ok (.invokevirtual index, 3)) (hf : cells + 1 ≤ R.cells ∧ slots + 6 ≤ R.slots)
    {x : ExceptionTableEntry} (hsplit : c.exceptionTable.toList = [x]) (hcov : covers x g.pc = true) (h0 : x.catchType ≠ 0) (hcl : (Cond.classLink own x.catchType RJx00060).before args s = true)
    (kk : ∀ (a : Addr) (H1 : Heap), H.size ≤ H1.size → (∀ q : Nat, q < H.size → H1[q]? = H[q]?) → W p l e R s m args below meth c H1 locs (cells + 1) (slots + 6) Q { g with pc := x.handlerPc, stack := [.ref a] }) :
    W p l e R s m args below meth c H locs cells slots Q g := by
  obtain ⟨⟨hrc, hrs, hfr, hlo, hws, hcw, hcode, hini, hy, hlen, hl⟩, hin, hse⟩ := cw
  obtain ⟨hexec, hb, hml, ho, -⟩ := S
  obtain ⟨hbl, ⟨cellB, hcB, hoB, hclB⟩, hPc⟩ := hp
  intro T hT X
  have hcell : T.heap[b]? = some cellB := by rw [hT]; exact hcB
  obtain ⟨mk, methM, hnamed, hmethM, hstM, habM⟩ := Cond.instanceMethod_spec hin
  obtain ⟨methM', cM, hmethM', -, -, -, -, -, -, hsigM⟩ := Cond.code_spec hnamed hcode
  cases hmethM.symm.trans hmethM'
  obtain ⟨c2, r2, m2, q1, q2, q3, q4, kP, hkP, hkPi⟩ := Cond.selects_spec hse
  cases hclB.symm.trans q1
  cases (State.methodFound?_of_named hnamed hy).symm.trans q2
  cases hnamed.symm.trans q3
  have hselP : selectMethod e.platform s.vm cellB.cls mk = .method mk := by rw [Launch.admits_selectMethod X.admits]; exact q4
  have hdg' : decode c.code g.pc = .ok (.invokevirtual index, 3) := by rw [hb]; exact hdg
  obtain ⟨vm₁, X₁, hstep₁⟩ := X.invokevirtual hexec ho hl hnamed hmethM hstM hkP hkPi hy (a := b) (cell := cellB) hcell
    (fun z h => by rw [h] at hoB; cases hoB) hselP hmethM habM hkP hkPi (g := g) hg (argsL := As) (rest := rest) (hn.trans (hlen _ hsigM)) hstack hdg'
  have hn₁ := X₁.named hnamed
  have hcode₁ : (Cond.code y bytes maxL ret).before (Value.ref b :: As).toArray (T.setVm vm₁) = true := hws _ hcw _ _ X₁.warmed
  obtain ⟨methY, cY, hmY, hcY, -, hlY, -, -, -, -⟩ := Cond.code_spec hn₁ hcode₁
  obtain ⟨kY, hkY, -⟩ := className_of_methodNamed hn₁
  have hini₁ : (Cond.initialized y.cls).before (Value.ref b :: As).toArray (T.setVm vm₁) = true := word_at X₁.warmed (Or.inl (by first | rfl | simp [Cond.onTables, Cond.keeps, Cond.steady])) hini
  have hinitY : kY.init = .initialized := Cond.initialized_spec (findClass_of_methodNamed hn₁) hkY hini₁
  obtain ⟨gR, hgR⟩ : ∃ gR : JFrame, gR = { g with stack := rest } := ⟨_, rfl⟩
  have hgRm : gR.method = m := by rw [hgR]; exact hg
  have h : At (T.setVm vm₁) gR.method c below := by rw [hgRm]; exact X₁.here
  have hdgR : decode c.code gR.pc = .ok (.invokevirtual index, 3) := by rw [hgR]; exact hdg'
  have hsizeR : gR.locals.size = c.maxLocals := by rw [hgR]; exact hsize.trans hml.symm
  have hWR : 2 * gR.monitorRoom + (gR.stack.map fun v => v.category).sum ≤ 8 := by rw [hgR]; exact hW
  have happ : (headSpec ws rm).appliesLoose y e.platform ((T.setVm vm₁).calling gR mk (Value.ref b :: As).toArray) = true :=
    Spec.appliesLoose_calling (g := gR) h hdgR hn₁ hkY hinitY
      (X₁.room_calling (g := gR) (R' := (headSpec ws rm).room) hsizeR hmY hcY hfr (by rw [hlY]; have := hlo; show _ + rm.locals ≤ _; omega) (by show cells + rm.cells ≤ _; rw [hrc]; exact hf.1) (by show slots + rm.slots ≤ _; rw [hrs]; exact hf.2)) (atoms_intro fun w hw => hws w hw _ _ X₁.warmed)
  obtain ⟨mid, hmid⟩ := h.above
  have hfrs : ((T.setVm vm₁).setTop gR).frames = (.java gR :: mid) ++ below := by rw [State.frames_setTop' gR h.top, hmid]; rfl
  obtain ⟨o, s₂, hsteps, -, hend, hq⟩ := Steps.callFree hM p X.admits X.cas X.clock (acts := []) hfrs happ (hbl _ _ _ _ (hPc (T.setVm vm₁) hT X₁.warmed)) trivial
  obtain ⟨x₀, ce, rfl, hce, hfX, hvm, hself, hW₂, hsame⟩ := hq
  rw [State.frames_setTop' gR h.top, X₁.tail] at hend
  obtain ⟨T', X₂, hW', hsame', ht⟩ := X₁.outOfThrown hgRm hend hW₂ hsame
  rw [List.append_nil] at X₂
  have hheap : s₂.heap = T'.heap := by rw [ht]; exact Stand.throwing_heap T' gR x₀
  have hcT : s.vm.findClass RJx00060 = some ce.cls := by rw [← X₁.warmed.alike.findClass]; exact hfX
  have hfit : s.vm.assignable ce.cls ce.cls = true := by rw [← X₁.warmed.alike.assignable]; exact hself
  obtain ⟨vm₂, X₃, hstep₃⟩ := ct_stand X₂ x₀ hgRm ho hsplit (by rw [hgR]; exact hcov) h0 hcl hcT (cell := ce) (by rw [← hheap]; exact hce) (fun k hk => by rw [hvm] at hk; cases hk) rfl hfit
  obtain ⟨z1, z2⟩ := ct_same hsame'
  obtain ⟨t2, a1, b1⟩ := kk x₀ T'.heap (by rw [← hT]; exact z1) (fun q hq => by rw [← hT] at hq ⊢; exact z2 q hq) (T'.setVm vm₂) rfl X₃
  refine ⟨t2, hstep₁ _ fun acts => ?_, b1⟩
  rw [doInvoke_state]
  have h5 := hstep₃ t2 (by rw [hgR]; exact a1)
  rw [← ht] at h5
  rw [hgR] at hsteps
  exact hsteps.trans h5
end CT
theorem lk_L_out_x : ∀ w ∈ wsX5_out, w ∈ wsL_out := fun w h => (ggL_out_X5_out w h).1
set_option maxHeartbeats 4000000 in
set_option maxRecDepth 100000 in
/-- the law's own out: 0 and the octet, or 1 where out throws -/
theorem c_L_out (l : Launch) (hfl : l.flags = flags0) (D : va_G) (cy : Nat → ClassId) (sz : Nat) (h0 s0 v0 i0 p0 d0 r0 r1 o0 : Nat) (tt tg : Int64) (ct fp fk sk : Int32) (rf : Nat → Int32) (rn : Nat) (i : Int32) (ov : Nat → Int64) (hrn : rn ≤ 70) : Met l yL_out wsL_out ({ frames := 8, cells := 1, slots := 6, locals := 141 } : Room) (pre3 D cy [.ref h0, .int i, .ref o0] [(h0, .inr (6, [.ref s0, .ref v0, .ref i0, .long tt, .long tg])), (s0, .inr (5, [.ref p0, .ref d0, .ref r0, .int ct, .int fp, .int fk, .int sk])), (r0, .inr (2, [.ref r1, .int (nI rn)])), (r1, .inl (cy 0, 70, .inl rf)), (o0, .inl (cy 3, 1, .inr (.inl ov)))] sz) (va_Qi (fun (r : Int32) (ov2 : Nat → Int64) => lout i rn rf r (ov2 0)) (fun ov2 t => va_P D vwCl [(h0, .inr (6, [.ref s0, .ref v0, .ref i0, .long tt, .long tg])), (s0, .inr (5, [.ref p0, .ref d0, .ref r0, .int ct, .int fp, .int fk, .int sk])), (r0, .inr (2, [.ref r1, .int (nI rn)])), (r1, .inl (cy 0, 70, .inl rf)), (o0, .inl (cy 3, 1, .inr (.inl ov2)))] t.heap ∧ va_D (va_A [(h0, .inr (6, [.ref s0, .ref v0, .ref i0, .long tt, .long tg])), (s0, .inr (5, [.ref p0, .ref d0, .ref r0, .int ct, .int fp, .int fk, .int sk])), (r0, .inr (2, [.ref r1, .int (nI rn)])), (r1, .inl (cy 0, 70, .inl rf)), (o0, .inl (cy 3, 1, .inr (.inl ov)))] sz) [(h0, .inr (6, [.ref s0, .ref v0, .ref i0, .long tt, .long tg])), (s0, .inr (5, [.ref p0, .ref d0, .ref r0, .int ct, .int fp, .int fk, .int sk])), (r0, .inr (2, [.ref r1, .int (nI rn)])), (r1, .inl (cy 0, 70, .inl rf)), (o0, .inl (cy 3, 1, .inr (.inl ov2)))]) (va_A [(h0, .inr (6, [.ref s0, .ref v0, .ref i0, .long tt, .long tg])), (s0, .inr (5, [.ref p0, .ref d0, .ref r0, .int ct, .int fp, .int fk, .int sk])), (r0, .inr (2, [.ref r1, .int (nI rn)])), (r1, .inl (cy 0, 70, .inl rf)), (o0, .inl (cy 3, 1, .inr (.inl ov)))] sz)) 1 6 (va_A [(h0, .inr (6, [.ref s0, .ref v0, .ref i0, .long tt, .long tg])), (s0, .inr (5, [.ref p0, .ref d0, .ref r0, .int ct, .int fp, .int fk, .int sk])), (r0, .inr (2, [.ref r1, .int (nI rn)])), (r1, .inl (cy 0, 70, .inl rf)), (o0, .inl (cy 3, 1, .inr (.inl ov)))] sz) := by
  refine va_MetW (cc := cL_out) (maxL := 4) (ret := (some .int)) (hh := [(0, 9, 12, 13)]) (by decide) rfl ?_
  intro p e s m args below meth c s₁ B hml hv
  obtain ⟨rfl, hsz, hP, hkk, hD0, hOA⟩ := hv
  have hx := B.exec
  have hb := B.bytes
  have hr := B.returns
  have hts := atoms_spec (ws := wsL_out) B.pre
  have hown : s.vm.findClass RL = some m.cls := findClass_of_methodNamed B.named
  have hlocks := B.notSynchronized
  have hK := hkk.1
  obtain ⟨m9, meth9, c9, hn9, hm9, hc9, -, -, htab, -, -, -⟩ := Cond.codeWith_spec (hts _ (List.mem_cons_self (a := Cond.codeWith yL_out cL_out 4 (some .int) [(0, 9, 12, 13)])))
  cases B.named.symm.trans hn9
  cases B.method.symm.trans hm9
  cases (Stand.of_body B).code.symm.trans hc9
  obtain ⟨x9, hsplit, hx9⟩ : ∃ x9 : ExceptionTableEntry, c.exceptionTable.toList = [x9] ∧ (x9.startPc, x9.endPc, x9.handlerPc, x9.catchType) = (0, 9, 12, 13) := by
    cases hl9 : c.exceptionTable.toList with
    | nil => rw [hl9] at htab; cases htab
    | cons x9 t9 =>
      rw [hl9] at htab
      cases t9 with
      | nil => exact ⟨x9, rfl, (List.cons.inj htab).1⟩
      | cons y9 z9 => cases (List.cons.inj htab).2
  obtain ⟨xs1, hx9⟩ := Prod.mk.inj hx9
  obtain ⟨xs2, hx9⟩ := Prod.mk.inj hx9
  obtain ⟨xs3, xs4⟩ := Prod.mk.inj hx9
  subst hsz
  have hD := hD0.self (sz := s.heap.size)
  generalize hAe : va_A [(h0, .inr (6, [.ref s0, .ref v0, .ref i0, .long tt, .long tg])), (s0, .inr (5, [.ref p0, .ref d0, .ref r0, .int ct, .int fp, .int fk, .int sk])), (r0, .inr (2, [.ref r1, .int (nI rn)])), (r1, .inl (cy 0, 70, .inl rf)), (o0, .inl (cy 3, 1, .inr (.inl ov)))] s.heap.size = A at hD ⊢
  have hA : ∀ q : Nat, s.heap.size ≤ q → A q := fun q h => by rw [← hAe]; exact Or.inr h
  have hS : va_S A s.heap s.heap [] := va_S.rf
  have hP : va_P D vwCl [(h0, .inr (6, [.ref s0, .ref v0, .ref i0, .long tt, .long tg])), (s0, .inr (5, [.ref p0, .ref d0, .ref r0, .int ct, .int fp, .int fk, .int sk])), (r0, .inr (2, [.ref r1, .int (nI rn)])), (r1, .inl (cy 0, 70, .inl rf)), (o0, .inl (cy 3, 1, .inr (.inl ov)))] s.heap := hP
  have hl := lv_entry ([.ref h0, .int i, .ref o0]) (n := 4) (Nat.le_of_ble_eq_true rfl)
  rw [lg_entry_eq]
  generalize (lg_sl ([.ref h0, .int i, .ref o0]) ++ List.replicate (4 - (lg_sl ([.ref h0, .int i, .ref o0])).length) Slot.unset).toArray = ls at hl ⊢
  have hl : lv_has ls 4 [(0, .ref h0), (1, .int i), (2, .ref o0)] := hl
  refine lv_aload_n hx hb dL_out_0 rfl (lv_at hl 2 rfl) ?_
  refine lv_iconst (v := 0) hx hb dL_out_1 (by decide) ?_
  refine lv_aload_n hx hb dL_out_2 rfl (lv_at hl 0 rfl) ?_
  refine lv_iload_n hx hb dL_out_3 rfl (lv_at hl 1 rfl) ?_
  have hPc := hP.sub (ws' := [(h0, .inr (6, [.ref s0, .ref v0, .ref i0, .long tt, .long tg])), (s0, .inr (5, [.ref p0, .ref d0, .ref r0, .int ct, .int fp, .int fk, .int sk])), (r0, .inr (2, [.ref r1, .int (nI rn)])), (r1, .inl (cy 0, 70, .inl rf))]) [0, 1, 2, 3] rfl
  have hDc := hD.sub (ws' := [(h0, .inr (6, [.ref s0, .ref v0, .ref i0, .long tt, .long tg])), (s0, .inr (5, [.ref p0, .ref d0, .ref r0, .int ct, .int fp, .int fk, .int sk])), (r0, .inr (2, [.ref r1, .int (nI rn)])), (r1, .inl (cy 0, 70, .inl rf))]) [0, 1, 2, 3] (by decide) rfl
  by_cases hi : oc_has i rn = 0
  · have hcl : (Cond.classLink RL x9.catchType RJx00060).before [.ref h0, .int i, .ref o0].toArray s = true := by
      rw [xs4]
      exact OA_use hOA (w := .classLink RL 13 RJx00060) (by decide +kernel)
    refine ct_callV (As := [.int i]) (rest := [.int 0, .ref o0]) ⟨hx, hb, hml, hown, hts⟩ (out_thr l hfl D cy s.heap.size h0 s0 v0 i0 p0 d0 r0 r1 tt tg ct fp fk sk rf rn i hrn hi) (cwV 1 hts gL_out_X5_out rfl rfl rfl (by decide +kernel) ⟨Nat.le_of_ble_eq_true rfl, Nat.le_of_ble_eq_true rfl⟩) ⟨pre3_blind, va_recv (ci := 6) (q0 := 0) (q := (RX5, TX5, 5)) hK hPc rfl rfl, fun U hU hW => ⟨rfl, by rw [hU], by rw [hU]; exact hPc, kk_warm hW hkk, hDc.weaken (fun _ _ _ _ => trivial), OA_mv hW (fun a cell h1 _ => by rw [hU]; exact h1) hOA⟩⟩ rfl rfl hl.1 rfl (lv_room (Nat.le_of_ble_eq_true rfl)) dL_out_4 ⟨Nat.le_of_ble_eq_true rfl, Nat.le_of_ble_eq_true rfl⟩ hsplit (by simp [covers, xs1, xs2]) (by rw [xs4]; decide) hcl (fun a H1 hz1 hk1 => ?_)
    have hS : va_S A s.heap H1 [] := ⟨hz1, fun q h1 _ => hk1 q h1, fun q h => by cases h⟩
    have hP : va_P D vwCl [(h0, .inr (6, [.ref s0, .ref v0, .ref i0, .long tt, .long tg])), (s0, .inr (5, [.ref p0, .ref d0, .ref r0, .int ct, .int fp, .int fk, .int sk])), (r0, .inr (2, [.ref r1, .int (nI rn)])), (r1, .inl (cy 0, 70, .inl rf)), (o0, .inl (cy 3, 1, .inr (.inl ov)))] H1 := fun k q hq => (hP k q hq).kept (hk1 q.1 (hP k q hq).lt)
    refine W.eq (g2 := F0 m 12 ls [.ref a]) (by rw [xs3]) ?_
    refine lv_astore_n (lv' := [(3, .ref a), (0, .ref h0), (1, .int i), (2, .ref o0)]) hx hb dL_out_12 rfl hl (by decide) rfl (fun ls hl => ?_)
    refine lv_iconst (v := 1) hx hb dL_out_13 (by decide) ?_
    exact W.zret (v := 1) hx hb hr rfl (fun t ht hW => ⟨⟨1, ov, rfl, Or.inr ⟨oc_has_no hi, rfl⟩, by rw [ht]; exact hP, hD⟩, hS.F ht⟩) hS.2.2 dL_out_14
  · have hFc := va_free (wc := [(h0, .inr (6, [.ref s0, .ref v0, .ref i0, .long tt, .long tg])), (s0, .inr (5, [.ref p0, .ref d0, .ref r0, .int ct, .int fp, .int fk, .int sk])), (r0, .inr (2, [.ref r1, .int (nI rn)])), (r1, .inl (cy 0, 70, .inl rf))]) hD hS hA [0, 1, 2, 3] rfl
    refine va_calli (va_runV (As := [.int i]) (rest := [.int 0, .ref o0]) ⟨hx, hb, hml, hown, hts⟩ (c_X5_out l D cy s.heap.size h0 s0 v0 i0 p0 d0 r0 r1 tt tg ct fp fk sk rf rn i hrn hi) (cwV 1 hts gL_out_X5_out rfl rfl rfl (by decide +kernel) ⟨Nat.le_of_ble_eq_true rfl, Nat.le_of_ble_eq_true rfl⟩) (pv_V (ci := 6) (q := (RX5, TX5, 5)) hkk hPc hDc rfl rfl rfl) rfl rfl hl.1 rfl (lv_room (Nat.le_of_ble_eq_true rfl)) dL_out_4 ⟨Nat.le_of_ble_eq_true rfl, Nat.le_of_ble_eq_true rfl⟩) hS (fun q _ h => hFc q h) hFc (fun r_4 u t H1 locs ht hvm hw hB hz1 hk1 hS => ?_)
    obtain ⟨hP1, hD1⟩ := hB
    rw [ht] at hP1
    try dsimp only at hw hP1 hD1
    obtain ⟨hP, hD⟩ := va_join (wr := [(o0, .inl (cy 3, 1, .inr (.inl ov)))]) (w1 := [(h0, .inr (6, [.ref s0, .ref v0, .ref i0, .long tt, .long tg])), (s0, .inr (5, [.ref p0, .ref d0, .ref r0, .int ct, .int fp, .int fk, .int sk])), (r0, .inr (2, [.ref r1, .int (nI rn)])), (r1, .inl (cy 0, 70, .inl rf))]) hP hD [0, 1, 2, 3] [4] rfl rfl (by decide) (by decide) hk1 hFc hP1 hD1
    clear hPc hDc hFc hP1 hD1 hz1 hk1
    generalize H1 = H at hP hS ⊢
    obtain rfl := hw
    refine lv_i2l (v := ((oc_get rf rn i).toInt8.toInt32).toInt64) hx hb dL_out_7 rfl ?_
    refine va_last hx hb hK hP hD hS 0 3 rfl rfl (by unfold vp_in; decide) dL_out_8 (fun H locs hP hD hS => ?_)
    refine lv_goto (tgt := 15) hx hb dL_out_9 (by decide) ?_
    refine lv_iconst (v := 0) hx hb dL_out_15 (by decide) ?_
    have hP9 := hP.sub (ws' := [(h0, .inr (6, [.ref s0, .ref v0, .ref i0, .long tt, .long tg])), (s0, .inr (5, [.ref p0, .ref d0, .ref r0, .int ct, .int fp, .int fk, .int sk])), (r0, .inr (2, [.ref r1, .int (nI rn)])), (r1, .inl (cy 0, 70, .inl rf)), (o0, .inl (cy 3, 1, .inr (.inl (vp_updL ov (0 : Int32).toNatClampNeg ((oc_get rf rn i).toInt8.toInt32).toInt64))))]) [1, 2, 3, 4, 0] rfl
    have hD9 := hD.sub (ws' := [(h0, .inr (6, [.ref s0, .ref v0, .ref i0, .long tt, .long tg])), (s0, .inr (5, [.ref p0, .ref d0, .ref r0, .int ct, .int fp, .int fk, .int sk])), (r0, .inr (2, [.ref r1, .int (nI rn)])), (r1, .inl (cy 0, 70, .inl rf)), (o0, .inl (cy 3, 1, .inr (.inl (vp_updL ov (0 : Int32).toNatClampNeg ((oc_get rf rn i).toInt8.toInt32).toInt64))))]) [1, 2, 3, 4, 0] (by decide) rfl
    refine W.widen (k := 1) (n := 6) (by decide) (by decide) ?_
    exact W.zret (v := 0) hx hb hr rfl (fun t ht hW => ⟨⟨0, vp_updL ov (0 : Int32).toNatClampNeg ((oc_get rf rn i).toInt8.toInt32).toInt64, rfl, Or.inl ⟨oc_has_yes hi, rfl, rfl⟩, by rw [ht]; exact hP9, hD9⟩, hS.F ht⟩) hS.2.2 dL_out_16
