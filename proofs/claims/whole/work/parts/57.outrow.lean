section CTS
variable {p : Program} {l : Launch} {e : Env} {R : Room} {s : State} {m : MethodId} {args : Array Value} {below : List Frame} {meth : Method} {c : Code} {H : Heap} {locs : List Loc} {cells slots : Nat} {Q : State → Prop}
/-- invokestatic of a method that has handlers of its own -/
theorem ct_runS {y : MethodName} {bytes cc : ByteArray} {maxL nL mc ms n index : Nat} {ret : Option FieldType} {hh : List (Nat × Nat × Nat × Nat)} {ws ws' : List Cond} {rm : Room} {Pc : Array Value → State → Prop} {Qc : Array Value → State → Outcome → State → Prop} {free : Addr → Prop} {Ts : List Cond} {own : String} {As rest : List Value} {g : JFrame}
    (S : CallFix p m c cc nL s args Ts own) (hM : Met l y ws rm Pc Qc mc ms free) (hT : GoodIn Ts (va_wsS own index y ws)) (hw : ws = Cond.codeWith y bytes maxL ret hh :: ws') (hrc : rm.cells = mc) (hrs : rm.slots = ms)
    (hd : y.cls ≠ "java/lang/invoke/MethodHandle" ∧ y.cls ≠ "java/lang/invoke/VarHandle" ∧ (parseMethodDescriptor y.desc).map (fun d => d.parameters.length) = some n) (hR : rm.frames + 1 ≤ R.frames ∧ 8 + (maxL + 11) + rm.locals ≤ R.locals) (hp : PreS s H Pc As)
    (hg : g.method = m) (hn : As.length = n) (hsize : g.locals.size = nL) (hstack : g.stack = As.reverse ++ rest) (hW : 2 * g.monitorRoom + (rest.map fun v => v.category).sum ≤ 8) (hdg : decode cc g.pc = .ok (.invokestatic index, 3)) (hf : cells + mc ≤ R.cells ∧ slots + ms ≤ R.slots) :
    va_Run p l e R s m args below meth c H locs cells slots mc ms g rest (Qc As.toArray) (free) := by
  obtain ⟨hx, hb, hml, ho, ht⟩ := S
  have ok : ∀ w ∈ va_wsS own index y ws, w.before args s = true := fun w h => ht w (hT w h).1
  have hG : GoodIn Ts ws := fun w h => hT w (by unfold va_wsS; exact List.mem_append_right _ h)
  have hcw : Cond.codeWith y bytes maxL ret hh ∈ ws := by rw [hw]; exact List.mem_cons_self
  have hcode := ht _ (hG _ hcw).1
  have hl : (Cond.methodLink own index y).before args s = true := ok _ (by simp [va_wsS])
  have hstat : (Cond.static y).before args s = true := ok _ (by simp [va_wsS])
  have hini : (Cond.initialized y.cls).before args s = true := ok _ (by simp [va_wsS])
  have hK : Back l R p e below s args y 3 8 (PreOf R mc ms Pc) (PostOf Qc mc ms free) := va_backW (bytes := bytes) (maxL := maxL) (ret := ret) (hh := hh) hM hp.1 hrc hrs hR.1 hR.2 (pay_in ht hG) hcw (fun a' U hW => word_at hW (Or.inl (by first | rfl | simp [Cond.onTables, Cond.keeps, Cond.steady])) hini)
  intro T hT X
  obtain ⟨mk, methM, cM, hnamed, hmethM, -, -, -, -, -, -, hsigM⟩ := Cond.codeWith_spec hcode
  have hlen : As.length = methM.sig.parameters.length := by
    have h2 := hd.2.2
    rw [hsigM] at h2
    exact hn.trans (Option.some.inj h2).symm
  have hstatic : methM.isStatic = true := Cond.static_spec hnamed hmethM hstat
  obtain ⟨kP, hkP, -⟩ := className_of_methodNamed hnamed
  have hinitP : kP.init = .initialized := Cond.initialized_spec (findClass_of_methodNamed hnamed) hkP hini
  have hdg' : decode c.code g.pc = .ok (.invokestatic index, 3) := by rw [hb]; exact hdg
  obtain ⟨vm₁, X₁, hstep₁⟩ := X.invokestatic hx ho hl hnamed hmethM hstatic hkP hinitP ⟨hd.1, hd.2.1⟩ (g := g) hg (argsL := As) (rest := rest) hlen hstack hdg'
  obtain ⟨v, ⟨U', l2, c2, s2⟩, X', ⟨g', mk', t, L, e1, e2, hq, h1, hL, h2, h3⟩, hsteps⟩ := hK m meth c ⟨T.setVm vm₁, locs, cells, slots⟩ { g with stack := rest } (.invokestatic index) mk As.toArray X₁ hg (hsize.trans hml.symm) hdg' hW (X₁.named hnamed) ⟨hf.1, hf.2, hp.2 (T.setVm vm₁) hT X₁.warmed⟩
  dsimp only [Pt.U, Pt.locs, Pt.cells, Pt.slots] at X' e1 e2 h1 h2 h3 hsteps
  subst h1; subst h2; subst h3
  exact ⟨v, (T.setVm vm₁).calling g' mk' As.toArray, t, U', L, hT, X', hL, e1, e2, hq, fun target h => hstep₁ _ fun acts => by rw [doInvoke_state]; exact hsteps.trans h⟩
end CTS
set_option maxRecDepth 20000 in
theorem oa_l1 : (Cond.laysStatic Bundle.tN "UNASSIGNED_STACK" Bundle.steD) ∈ lw_tbl := by decide +kernel
set_option maxRecDepth 20000 in
theorem oa_l2 : (Cond.laysStatic Bundle.tN "SUPPRESSED_SENTINEL" Bundle.listD) ∈ lw_tbl := by decide +kernel
set_option maxRecDepth 20000 in
theorem oa_l3 : (Cond.stringRef RX5 61 "the last row has no such octet") ∈ lw_tbl := by decide +kernel
theorem oa_s1 : (Cond.isRef (.static Bundle.tN "UNASSIGNED_STACK" Bundle.steD)) ∈ flatC (Jvm.Cond.and given_1 narrow_1) := by decide +kernel
theorem oa_s2 : (Cond.isRef (.static Bundle.tN "SUPPRESSED_SENTINEL" Bundle.listD)) ∈ flatC (Jvm.Cond.and given_1 narrow_1) := by decide +kernel
theorem oa_start {D : va_G} {cy : Nat → ClassId} {s : State} {b : Nat} (hts0 : ∀ w ∈ lw_tbl, w.before #[Value.ref b] s = true) (hgv : (Jvm.Cond.and given_1 narrow_1).before #[Value.ref b] s = true) (hkk : kk D cy s) : OA s := by
  have hf5 : s.vm.findClass RX5 = some _ := (hkk.1.1 6 (RX5, TX5, 5) rfl).2.1
  have hs := hts0 _ oa_l3
  obtain ⟨k, cf, i, a, -, -, -, -, -, hev⟩ := Cond.stringRef_spec hf5 hs
  exact ⟨fun w hw => va_Nw.of (oaW_t w hw) (hts0 w (oaW_in w hw)), oaZ_of (hts0 _ oa_l1) (flat_of_before _ hgv _ oa_s1), oaZ_of (hts0 _ oa_l2) (flat_of_before _ hgv _ oa_s2), a, vk_R.of hs hev⟩
set_option maxHeartbeats 4000000 in
set_option maxRecDepth 100000 in
theorem out_row {p : Program} {l : Launch} {e : Env} {s : State} {m : MethodId} {below : List Frame} {meth : Method} {c : Code} {D : va_G} {cy : Nat → ClassId} {b L : Nat} {xs : Nat → Int32} (hfl : l.flags = flags0) (hL : L ≤ 2049) (C0 : lw_At p s m meth c b L xs) (hkk : kk D cy s) (A : Nat → Prop) (hA : ∀ q, s.heap.size ≤ q → A q) (hA2 : ∀ q, A q → s.heap.size ≤ q) (h0 s0 v0 i0 p0 d0 d1 r0 r1 e0 e1 i1 k0 a0 a1 a2 a3 a4 o0 pr pB pS pG pE pC pO : Nat) : OutRow p l e s m below meth c D cy b A h0 s0 v0 i0 p0 d0 d1 r0 r1 e0 e1 i1 k0 a0 a1 a2 a3 a4 o0 pr pB pS pG pE pC pO := by
  obtain ⟨hx, hb, hr, hml, hown0, hts0, hX, hbl, hlocks, hgv⟩ := C0
  have hown : s.vm.findClass RL = some m.cls := hown0
  have hts : ∀ w ∈ wsL_law, w.before #[Value.ref b] s = true := fun w h => hts0 w (wsL_law_in w h)
  have hOA : OA s := oa_start hts0 hgv hkk
  intro H locs cells slots ls i tt tg ct fp fk sk f n rf rn tm cbf ef en hf w gr bt jo co0 df rm fa fl cm tf lf bf ov hc9 hs9 hrn hls hP hD hS kont
  have hPc := hP.sub (ws' := [(h0, .inr (6, [.ref s0, .ref v0, .ref i0, .long tt, .long tg])), (s0, .inr (5, [.ref p0, .ref d0, .ref r0, .int (nI ct), .int (nI fp), .int fk, .int (nI sk)])), (r0, .inr (2, [.ref r1, .int (nI rn)])), (r1, .inl (cy 0, 70, .inl rf)), (o0, .inl (cy 3, 1, .inr (.inl ov)))]) [0, 1, 5, 6, 18] rfl
  have hDc := hD.sub (ws' := [(h0, .inr (6, [.ref s0, .ref v0, .ref i0, .long tt, .long tg])), (s0, .inr (5, [.ref p0, .ref d0, .ref r0, .int (nI ct), .int (nI fp), .int fk, .int (nI sk)])), (r0, .inr (2, [.ref r1, .int (nI rn)])), (r1, .inl (cy 0, 70, .inl rf)), (o0, .inl (cy 3, 1, .inr (.inl ov)))]) [0, 1, 5, 6, 18] (by decide) rfl
  have hFc := va_free (wc := [(h0, .inr (6, [.ref s0, .ref v0, .ref i0, .long tt, .long tg])), (s0, .inr (5, [.ref p0, .ref d0, .ref r0, .int (nI ct), .int (nI fp), .int fk, .int (nI sk)])), (r0, .inr (2, [.ref r1, .int (nI rn)])), (r1, .inl (cy 0, 70, .inl rf)), (o0, .inl (cy 3, 1, .inr (.inl ov)))]) hD hS hA [0, 1, 5, 6, 18] rfl
  refine va_calli (ct_runS (As := [.ref h0, .int i, .ref o0]) (rest := []) (n := 3) ⟨hx, hb, hml, hown, hts⟩ (c_L_out l hfl D cy H.size h0 s0 v0 i0 p0 d0 r0 r1 o0 tt tg (nI ct) (nI fp) fk (nI sk) rf rn i ov hrn) gL_law_L_out rfl rfl rfl (by decide +kernel) ⟨Nat.le_of_ble_eq_true rfl, Nat.le_of_ble_eq_true rfl⟩ ⟨pre3_blind, fun U hU hW => ⟨rfl, by rw [hU], by rw [hU]; exact hPc, kk_warm hW hkk, hDc.weaken (fun _ _ _ _ => trivial), OA_mv hW (fun q cell h1 _ => by
    have hlt : q < s.heap.size := (Array.getElem?_eq_some_iff.mp h1).1
    rw [hU, hS.2.1 q hlt (fun h => absurd (hA2 q h) (Nat.not_le.mpr hlt))]; exact h1) hOA⟩⟩ rfl rfl hls rfl (lv_room (Nat.le_of_ble_eq_true rfl)) dL_law_170 ⟨hc9, hs9⟩) hS (fun q _ h => hFc q h) hFc (fun r_170 u t H1 locs1 ht hvm hw hB hz1 hk1 hS1 => ?_)
  obtain ⟨hP1, hD1⟩ := hB
  rw [ht] at hP1
  try dsimp only at hw hP1 hD1
  obtain ⟨hP2, hD2⟩ := va_join (wr := [(p0, .inr (3, [.int (nI pB), .int (nI pS), .int (nI pG), .int (nI pE), .int (nI pC), .int (nI pO)])), (d0, .inr (2, [.ref d1, .int (nI n)])), (d1, .inl (cy 0, 70, .inl f)), (v0, .inr (4, [.ref p0, .ref e0, .int tm, .int cbf])), (e0, .inr (2, [.ref e1, .int (nI en)])), (e1, .inl (cy 0, 70, .inl ef)), (i0, .inr (1, [.ref i1, .int (nI w), .int gr, .int bt, .int jo])), (i1, .inl (cy 1, 10, .inl hf)), (k0, .inr (7, [.int co0, .int (nI pr), .int (nI pB), .int (nI pC), .int (nI pO), .int (nI n), .ref a0, .int (nI rn), .ref a1, .int (nI ct), .int fa, .int fl, .int (nI sk), .int (nI cm), .ref a2, .int cbf, .int (nI w), .ref a3, .int jo, .int gr, .ref a4, .long tt, .long tg])), (a0, .inl (cy 1, 64, .inl df)), (a1, .inl (cy 1, 80, .inl rm)), (a2, .inl (cy 1, 70, .inl tf)), (a3, .inl (cy 1, 10, .inl lf)), (a4, .inl (cy 2, 6, .inl bf))]) (w1 := [(h0, .inr (6, [.ref s0, .ref v0, .ref i0, .long tt, .long tg])), (s0, .inr (5, [.ref p0, .ref d0, .ref r0, .int (nI ct), .int (nI fp), .int fk, .int (nI sk)])), (r0, .inr (2, [.ref r1, .int (nI rn)])), (r1, .inl (cy 0, 70, .inl rf)), (o0, .inl (cy 3, 1, .inr (.inl u)))]) hP hD [0, 1, 5, 6, 18] [2, 3, 4, 7, 8, 9, 10, 11, 12, 13, 14, 15, 16, 17] rfl rfl (by decide) (by decide) hk1 hFc hP1 hD1
  have hP9 := hP2.sub (ws' := [(h0, .inr (6, [.ref s0, .ref v0, .ref i0, .long tt, .long tg])), (s0, .inr (5, [.ref p0, .ref d0, .ref r0, .int (nI ct), .int (nI fp), .int fk, .int (nI sk)])), (p0, .inr (3, [.int (nI pB), .int (nI pS), .int (nI pG), .int (nI pE), .int (nI pC), .int (nI pO)])), (d0, .inr (2, [.ref d1, .int (nI n)])), (d1, .inl (cy 0, 70, .inl f)), (r0, .inr (2, [.ref r1, .int (nI rn)])), (r1, .inl (cy 0, 70, .inl rf)), (v0, .inr (4, [.ref p0, .ref e0, .int tm, .int cbf])), (e0, .inr (2, [.ref e1, .int (nI en)])), (e1, .inl (cy 0, 70, .inl ef)), (i0, .inr (1, [.ref i1, .int (nI w), .int gr, .int bt, .int jo])), (i1, .inl (cy 1, 10, .inl hf)), (k0, .inr (7, [.int co0, .int (nI pr), .int (nI pB), .int (nI pC), .int (nI pO), .int (nI n), .ref a0, .int (nI rn), .ref a1, .int (nI ct), .int fa, .int fl, .int (nI sk), .int (nI cm), .ref a2, .int cbf, .int (nI w), .ref a3, .int jo, .int gr, .ref a4, .long tt, .long tg])), (a0, .inl (cy 1, 64, .inl df)), (a1, .inl (cy 1, 80, .inl rm)), (a2, .inl (cy 1, 70, .inl tf)), (a3, .inl (cy 1, 10, .inl lf)), (a4, .inl (cy 2, 6, .inl bf)), (o0, .inl (cy 3, 1, .inr (.inl u)))]) [14, 15, 0, 1, 2, 16, 17, 3, 4, 5, 6, 7, 8, 9, 10, 11, 12, 13, 18] rfl
  have hD9 := hD2.sub (ws' := [(h0, .inr (6, [.ref s0, .ref v0, .ref i0, .long tt, .long tg])), (s0, .inr (5, [.ref p0, .ref d0, .ref r0, .int (nI ct), .int (nI fp), .int fk, .int (nI sk)])), (p0, .inr (3, [.int (nI pB), .int (nI pS), .int (nI pG), .int (nI pE), .int (nI pC), .int (nI pO)])), (d0, .inr (2, [.ref d1, .int (nI n)])), (d1, .inl (cy 0, 70, .inl f)), (r0, .inr (2, [.ref r1, .int (nI rn)])), (r1, .inl (cy 0, 70, .inl rf)), (v0, .inr (4, [.ref p0, .ref e0, .int tm, .int cbf])), (e0, .inr (2, [.ref e1, .int (nI en)])), (e1, .inl (cy 0, 70, .inl ef)), (i0, .inr (1, [.ref i1, .int (nI w), .int gr, .int bt, .int jo])), (i1, .inl (cy 1, 10, .inl hf)), (k0, .inr (7, [.int co0, .int (nI pr), .int (nI pB), .int (nI pC), .int (nI pO), .int (nI n), .ref a0, .int (nI rn), .ref a1, .int (nI ct), .int fa, .int fl, .int (nI sk), .int (nI cm), .ref a2, .int cbf, .int (nI w), .ref a3, .int jo, .int gr, .ref a4, .long tt, .long tg])), (a0, .inl (cy 1, 64, .inl df)), (a1, .inl (cy 1, 80, .inl rm)), (a2, .inl (cy 1, 70, .inl tf)), (a3, .inl (cy 1, 10, .inl lf)), (a4, .inl (cy 2, 6, .inl bf)), (o0, .inl (cy 3, 1, .inr (.inl u)))]) [14, 15, 0, 1, 2, 16, 17, 3, 4, 5, 6, 7, 8, 9, 10, 11, 12, 13, 18] (by decide) rfl
  exact kont r_170 u H1 locs1 hw hP9 hD9 hS1
