/-! The words that all contracts share: the array classes, the nest mates' links, a contract's start. -/
abbrev TY (cy : Nat → ClassId) : List (ClassId × FieldType) := [(cy 0, .byte), (cy 1, .int), (cy 2, .boolean), (cy 3, .long)]
def nwL : List Cond := [.fieldLinkNest RX3 67 "DataGuards$Profile" "counters" "I" "DataGuards", .fieldLinkNest RX3 56 "DataGuards$Profile" "counterOctets" "I" "DataGuards", .fieldLinkNest RX4 54 "DataGuards$Profile" "counterOctets" "I" "DataGuards", .fieldLinkNest RX4 25 "DataGuards$Octets" "length" "I" "DataGuards", .fieldLinkNest RX3 48 "DataGuards$Octets" "length" "I" "DataGuards", .fieldLinkNest RX5 50 "DataGuards$Sender" "row" "LDataGuards$Octets;" "DataGuards", .fieldLinkNest RX5 73 "DataGuards$Sender" "nextCounter" "I" "DataGuards", .fieldLinkNest RX5 91 "DataGuards$History" "goodRows" "I" "DataGuards", .fieldLinkNest RX5 77 "DataGuards$History" "joined" "I" "DataGuards", .methodLinkNest RX4 11 yX1_init "DataGuards", .methodLinkNest RX3 11 yX1_init "DataGuards", .methodLinkNest RX5 33 yX0_init "DataGuards", .methodLinkNest RX0 28 yX5_sideOf "DataGuards"]
def nw (U : State) : Prop := ∀ w ∈ nwL, va_Nw w U
theorem nwL_tab : ∀ w ∈ nwL, w.onTables = true := by decide
theorem nw_get (i : Nat) {w : Cond} (hi : nwL[i]? = some w) {U : State} (h : nw U) : va_Nw w U := h w (List.mem_of_getElem? hi)
theorem nw_use (i : Nat) {w : Cond} (hi : nwL[i]? = some w) (ho : w.onTables = true) {A : Array Value} {U : State} (h : nw U) : w.before A U = true := va_Nw.use ho (nw_get i hi h)
theorem nw_warm {s U : State} (hW : s.WarmedH U.vm) (h : nw s) : nw U := by
  intro w hw
  have hz := h w hw
  simp only [nwL, List.mem_cons, List.not_mem_nil, or_false] at hw
  rcases hw with rfl | rfl | rfl | rfl | rfl | rfl | rfl | rfl | rfl | rfl | rfl | rfl | rfl <;> first | exact va_Nw.warmF hW hz | exact va_Nw.warmM hW hz
theorem nw_same {u U : State} (h : u.vm = U.vm) (hn : nw u) : nw U := fun w hw => va_Nw.same (nwL_tab w hw) h (hn w hw)
def kk (D : va_G) (cy : Nat → ClassId) (U : State) : Prop := va_K D vwCl (TY cy) U ∧ nw U
theorem kk_warm {D : va_G} {cy : Nat → ClassId} {s U : State} (hW : s.WarmedH U.vm) (h : kk D cy s) : kk D cy U := ⟨va_K.moved hW.alike h.1, nw_warm hW h.2⟩
theorem kk_same {D : va_G} {cl : List vw_C} {tys : List (ClassId × FieldType)} {s : State} {c1 c2 : ClassId} {ty : FieldType} (hK : va_K D cl tys s) (i j : Nat) (hi : tys[i]? = some (c1, ty)) (hj : tys[j]? = some (c2, ty)) (hp : ∀ C, ty ≠ .object C) : c2 = c1 := by
  have h1 := (hK.2 i _ hi).2
  have h2 := (hK.2 j _ hj).2
  cases ty <;> first | exact absurd rfl (hp _) | exact Option.some.inj (h2.symm.trans h1)
def pre1 (D : va_G) (cy : Nat → ClassId) (av : List Value) (ws : va_W) (sz : Nat) : Array Value → State → Prop := va_Pc av (fun U => U.heap.size = sz ∧ va_P D vwCl ws U.heap ∧ kk D cy U ∧ va_D (fun _ => True) ws)
theorem pre1_blind {D : va_G} {cy : Nat → ClassId} {av : List Value} {ws : va_W} {sz : Nat} : FrameBlind (pre1 D cy av ws sz) := by
  intro a U g mk q
  obtain ⟨q0, q1, qP, qK, qD⟩ := q
  exact ⟨q0, q1, qP, ⟨va_K.moved (u := U) (U := U.calling g mk a) (Vm.Alike.refl U.vm) qK.1, nw_same (u := U) (U := U.calling g mk a) rfl qK.2⟩, qD⟩
theorem pv_S {s : State} {H : Heap} {D : va_G} {cy : Nat → ClassId} {ws : va_W} {sz : Nat} {As : List Value} {A : Nat → Prop} (hk : kk D cy s) (hP : va_P D vwCl ws H) (hD : va_D A ws) (hz : H.size = sz) : PreS s H (pre1 D cy As ws sz) As :=
  ⟨pre1_blind, fun U hU hW => ⟨rfl, by rw [hU]; exact hz, by rw [hU]; exact hP, kk_warm hW hk, hD.weaken (fun _ _ _ _ => trivial)⟩⟩
theorem pv_V {s : State} {H : Heap} {D : va_G} {cy : Nat → ClassId} {ws : va_W} {sz b ci : Nat} {As : List Value} {A : Nat → Prop} {fs : List Value} {q : vw_C} (hk : kk D cy s) (hP : va_P D vwCl ws H) (hD : va_D A ws) (hz : H.size = sz) (hc : vwCl[ci]? = some q) (he : ws[0]? = some (b, .inr (ci, fs))) : PreV s H q.1 b (pre1 D cy (.ref b :: As) ws sz) As :=
  ⟨pre1_blind, va_recv hk.1 hP hc he, fun U hU hW => ⟨rfl, by rw [hU]; exact hz, by rw [hU]; exact hP, kk_warm hW hk, hD.weaken (fun _ _ _ _ => trivial)⟩⟩
