/-! What a throw of the class's own asks of the state: words of the tables, two statics, one text. -/
def upN : List String := ["java/lang/IndexOutOfBoundsException", "java/lang/RuntimeException", "java/lang/Exception"]
def oaK (w : Cond) : Bool := match w with
  | .isRef _ => false
  | .laysStatic .. => false
  | _ => true
def oaD (w : Cond) : Bool := match w with
  | .declares _ => true
  | _ => false
def oaC (w : Cond) : Bool := match w with
  | .castable .. => true
  | _ => false
def oaW : List Cond := (Bundle.ownAtoms RX5 63 RJx00060 upN).filter oaK ++ [.classLink RX5 59 RJx00060, .initialized RJx00060, .classLink RL 13 RJx00060]
set_option maxRecDepth 20000 in
theorem oaW_t : ∀ w ∈ oaW, w.onTables = true := by decide +kernel
set_option maxRecDepth 20000 in
theorem oaW_k : ∀ w ∈ oaW, (w.onTables && w.keeps) = true ∨ oaD w = true ∨ oaC w = true := by decide +kernel
set_option maxRecDepth 20000 in
theorem oaW_a : ∀ w ∈ Bundle.ownAtoms RX5 63 RJx00060 upN, w ∈ oaW ∨ w = .laysStatic Bundle.tN "UNASSIGNED_STACK" Bundle.steD ∨ w = .laysStatic Bundle.tN "SUPPRESSED_SENTINEL" Bundle.listD ∨ w = .isRef (.static Bundle.tN "UNASSIGNED_STACK" Bundle.steD) ∨ w = .isRef (.static Bundle.tN "SUPPRESSED_SENTINEL" Bundle.listD) := by decide +kernel
def oaZ (n d : String) (U : State) : Prop := ∃ (c : ClassId) (k : Class) (i : Nat) (f : Field) (a : Addr) (cell : Cell) (v : Value), U.vm.findClass Bundle.tN = some c ∧ U.fieldFound? Bundle.tN n d = some (c, k, i, f) ∧ f.isStatic = true ∧ k.statics = some a ∧ U.heap[a]? = some cell ∧ cell.vm.isStatics = true ∧ cell.cls = c ∧ f.slot < cell.slots.size ∧ k.staticTypes[f.slot]? = some f.type ∧ cell.slots[f.slot]? = some v ∧ (v = .null ∨ ∃ q, v = .ref q)
theorem oaZ_of {args : Array Value} {s : State} {n d : String} (h1 : (Cond.laysStatic Bundle.tN n d).before args s = true) (h2 : (Cond.isRef (.static Bundle.tN n d)).before args s = true) : oaZ n d s := by
  obtain ⟨c, k, i, f, a, cell, hc, hi, hst, ha, hcell, hs, hcls, hlt, hty⟩ := Cond.laysStatic_spec h1
  cases hv : (Term.static Bundle.tN n d).eval args s none [] s with
  | none => simp [Cond.before, Cond.holds, Cond.value, hv] at h2
  | some w =>
    obtain ⟨hst', a', cell', ha', hcell', -, hslot⟩ := Term.static_spec hi hv
    cases ha.symm.trans ha'
    cases hcell.symm.trans hcell'
    refine ⟨c, k, i, f, a, cell, w, hc, hi, hst, ha, hcell, hs, hcls, hlt, hty, hslot, ?_⟩
    simp only [Cond.before, Cond.holds, Cond.value, hv] at h2
    cases w with
    | null => exact Or.inl rfl
    | ref t => exact Or.inr ⟨t, rfl⟩
    | _ => simp at h2
theorem oaZ_mv {s U : State} {n d : String} (hvm : s.vm.Alike U.vm) (hh : ∀ (a : Nat) (cell : Cell), s.heap[a]? = some cell → cell.vm.isStatics = true → U.heap[a]? = some cell) (h : oaZ n d s) : oaZ n d U := by
  obtain ⟨c, k, i, f, a, cell, v, hc, hi, hst, ha, hcell, hs, hrest⟩ := h
  obtain ⟨k', hi', he⟩ := State.fieldFound?_setVm hvm hi
  refine ⟨c, k', i, f, a, cell, v, by rw [hvm.findClass]; exact hc, hi', hst, by rw [he]; exact ha, hh a cell hcell hs, hs, hrest.1, hrest.2.1, by rw [he]; exact hrest.2.2.1, hrest.2.2.2⟩
theorem oaZ_lay {args : Array Value} {U : State} {n d : String} (h : oaZ n d U) : (Cond.laysStatic Bundle.tN n d).before args U = true := by
  obtain ⟨c, k, i, f, a, cell, v, hc, hi, hst, ha, hcell, hs, hcls, hlt, hty, hv, hr⟩ := h
  simp [Cond.before, Cond.holds, Cond.value, hc, hi, hst, ha, hcell, hs, hcls, hlt, hty]
theorem oaZ_ref {args : Array Value} {U : State} {n d : String} (h : oaZ n d U) : (Cond.isRef (.static Bundle.tN n d)).before args U = true := by
  obtain ⟨c, k, i, f, a, cell, v, hc, hi, hst, ha, hcell, hs, hcls, hlt, hty, hv, hr⟩ := h
  have he : (Term.static Bundle.tN n d).eval args U none [] U = some v := Term.static_eval hi hst ha hcell hs hv
  simp only [Cond.before, Cond.holds, Cond.value, he]
  rcases hr with rfl | ⟨q, rfl⟩ <;> rfl
def OA (U : State) : Prop := (∀ w ∈ oaW, va_Nw w U) ∧ oaZ "UNASSIGNED_STACK" Bundle.steD U ∧ oaZ "SUPPRESSED_SENTINEL" Bundle.listD U ∧ ∃ q, vk_R RX5 61 "the last row has no such octet" q U
theorem oa_nw {s U : State} (hW : s.WarmedH U.vm) {w : Cond} (hk : (w.onTables && w.keeps) = true ∨ oaD w = true ∨ oaC w = true) (h : va_Nw w s) : va_Nw w U := by
  rcases hk with hk | hk | hk
  · exact word_at hW (Or.inl hk) h
  · unfold oaD at hk
    split at hk
    · exact va_Nw.warmD hW h
    · cases hk
  · unfold oaC at hk
    split at hk
    · exact va_Nw.warmC hW h
    · cases hk
theorem OA_mv {s U : State} (hW : s.WarmedH U.vm) (hh : ∀ (a : Nat) (cell : Cell), s.heap[a]? = some cell → cell.vm.isStatics = true → U.heap[a]? = some cell) (h : OA s) : OA U := by
  obtain ⟨h1, h2, h3, q, h4⟩ := h
  exact ⟨fun w hw => oa_nw hW (oaW_k w hw) (h1 w hw), oaZ_mv hW.alike hh h2, oaZ_mv hW.alike hh h3, q, vk_R.warm hW h4⟩
theorem OA_call {U : State} {g : JFrame} {mk : MethodId} {a : Array Value} (h : OA U) : OA (U.calling g mk a) := by
  obtain ⟨h1, h2, h3, q, h4⟩ := h
  exact ⟨fun w hw => va_Nw.same (u := U) (U := U.calling g mk a) (oaW_t w hw) rfl (h1 w hw), oaZ_mv (s := U) (U := U.calling g mk a) (Vm.Alike.refl U.vm) (fun _ _ hc _ => hc) h2, oaZ_mv (s := U) (U := U.calling g mk a) (Vm.Alike.refl U.vm) (fun _ _ hc _ => hc) h3, q, vk_R.same (u := U) (U := U.calling g mk a) rfl h4⟩
theorem OA_use {args : Array Value} {U : State} (h : OA U) {w : Cond} (hw : w ∈ oaW) : w.before args U = true := va_Nw.use (oaW_t w hw) (h.1 w hw)
theorem OA_atoms {args : Array Value} {U : State} (h : OA U) : ∀ w ∈ Bundle.ownAtoms RX5 63 RJx00060 upN, w.before args U = true := by
  intro w hw
  rcases oaW_a w hw with q | rfl | rfl | rfl | rfl
  · exact OA_use h q
  · exact oaZ_lay h.2.1
  · exact oaZ_lay h.2.2.1
  · exact oaZ_ref h.2.1
  · exact oaZ_ref h.2.2.1
set_option maxRecDepth 20000 in
theorem oaW_in : ∀ w ∈ oaW, w ∈ lw_tbl := by decide +kernel
