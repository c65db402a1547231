theorem iw_X6_add_X6 : ∀ w ∈ wsX60, w ∈ wsX6_add := by decide +kernel
theorem lk_X6_add_f36 : (.fieldLink RX6 36 "DataGuardsModel" "bits" "I" : Cond) ∈ wsX6_add := by decide +kernel
theorem lk_X6_add_k55 : (.constantLong RX6 55 (2) : Cond) ∈ wsX6_add := by decide +kernel
theorem lk_X6_add_f33 : (.fieldLink RX6 33 "DataGuardsModel" "profile" "I" : Cond) ∈ wsX6_add := by decide +kernel
theorem lk_X6_add_k53 : (.constantLong RX6 53 (4104978195) : Cond) ∈ wsX6_add := by decide +kernel
theorem lk_X6_add_k51 : (.constantLong RX6 51 (4129) : Cond) ∈ wsX6_add := by decide +kernel
theorem lk_X6_add_k49 : (.constantLong RX6 49 (29) : Cond) ∈ wsX6_add := by decide +kernel
set_option maxHeartbeats 4000000 in
set_option maxRecDepth 100000 in
/-- the reference: add(register, octet) -/
theorem c_X6_add (l : Launch) (D : va_G) (cy : Nat → ClassId) (sz : Nat) (h0 : Nat) (a0 : Nat) (a1 : Nat) (a2 : Nat) (a3 : Nat) (a4 : Nat) (co0 : Int32) (pr : Nat) (pB : Nat) (pS : Nat) (pG : Nat) (pE : Nat) (pC : Nat) (pO : Nat) (n : Nat) (df : Nat → Int32) (rn : Nat) (rf : Nat → Int32) (ct : Nat) (fa : Int32) (fl : Int32) (sk : Nat) (cm : Nat) (tf : Nat → Int32) (cbf : Int32) (w : Nat) (lf : Nat → Int32) (jo : Int32) (gr : Int32) (bf : Nat → Int32) (tt : Int64) (tg : Int64) (rg : Nat) (o : Nat) (hmp : mpr pr pB pS pG pE pC pO) (hr1 : rg < 2 ^ pB) (ho : o < 2 ^ 31) : Met l yX6_add wsX6_add ({ frames := 0, cells := 0, slots := 0, locals := 0 } : Room) (pre1 D cy [.ref h0, .long (lN rg), .int (nI o)] [(h0, .inr (7, [.int co0, .int (nI pr), .int (nI pB), .int (nI pC), .int (nI pO), .int (nI n), .ref a0, .int (nI rn), .ref a1, .int (nI ct), .int fa, .int fl, .int (nI sk), .int (nI cm), .ref a2, .int cbf, .int (nI w), .ref a3, .int jo, .int gr, .ref a4, .long tt, .long tg])), (a0, .inl (cy 1, 64, .inl df)), (a1, .inl (cy 1, 80, .inl rf)), (a2, .inl (cy 1, 70, .inl tf)), (a3, .inl (cy 1, 10, .inl lf)), (a4, .inl (cy 2, 6, .inl bf))] sz) (va_Ql (fun (r : Int64) (u : Unit) => r = lN (co pB pS o 8 rg)) (fun u t => va_P D vwCl [(h0, .inr (7, [.int co0, .int (nI pr), .int (nI pB), .int (nI pC), .int (nI pO), .int (nI n), .ref a0, .int (nI rn), .ref a1, .int (nI ct), .int fa, .int fl, .int (nI sk), .int (nI cm), .ref a2, .int cbf, .int (nI w), .ref a3, .int jo, .int gr, .ref a4, .long tt, .long tg])), (a0, .inl (cy 1, 64, .inl df)), (a1, .inl (cy 1, 80, .inl rf)), (a2, .inl (cy 1, 70, .inl tf)), (a3, .inl (cy 1, 10, .inl lf)), (a4, .inl (cy 2, 6, .inl bf))] t.heap ∧ va_D (va_A [(h0, .inr (7, [.int co0, .int (nI pr), .int (nI pB), .int (nI pC), .int (nI pO), .int (nI n), .ref a0, .int (nI rn), .ref a1, .int (nI ct), .int fa, .int fl, .int (nI sk), .int (nI cm), .ref a2, .int cbf, .int (nI w), .ref a3, .int jo, .int gr, .ref a4, .long tt, .long tg])), (a0, .inl (cy 1, 64, .inl df)), (a1, .inl (cy 1, 80, .inl rf)), (a2, .inl (cy 1, 70, .inl tf)), (a3, .inl (cy 1, 10, .inl lf)), (a4, .inl (cy 2, 6, .inl bf))] sz) [(h0, .inr (7, [.int co0, .int (nI pr), .int (nI pB), .int (nI pC), .int (nI pO), .int (nI n), .ref a0, .int (nI rn), .ref a1, .int (nI ct), .int fa, .int fl, .int (nI sk), .int (nI cm), .ref a2, .int cbf, .int (nI w), .ref a3, .int jo, .int gr, .ref a4, .long tt, .long tg])), (a0, .inl (cy 1, 64, .inl df)), (a1, .inl (cy 1, 80, .inl rf)), (a2, .inl (cy 1, 70, .inl tf)), (a3, .inl (cy 1, 10, .inl lf)), (a4, .inl (cy 2, 6, .inl bf))]) (va_A [(h0, .inr (7, [.int co0, .int (nI pr), .int (nI pB), .int (nI pC), .int (nI pO), .int (nI n), .ref a0, .int (nI rn), .ref a1, .int (nI ct), .int fa, .int fl, .int (nI sk), .int (nI cm), .ref a2, .int cbf, .int (nI w), .ref a3, .int jo, .int gr, .ref a4, .long tt, .long tg])), (a0, .inl (cy 1, 64, .inl df)), (a1, .inl (cy 1, 80, .inl rf)), (a2, .inl (cy 1, 70, .inl tf)), (a3, .inl (cy 1, 10, .inl lf)), (a4, .inl (cy 2, 6, .inl bf))] sz)) 0 0 (va_A [(h0, .inr (7, [.int co0, .int (nI pr), .int (nI pB), .int (nI pC), .int (nI pO), .int (nI n), .ref a0, .int (nI rn), .ref a1, .int (nI ct), .int fa, .int fl, .int (nI sk), .int (nI cm), .ref a2, .int cbf, .int (nI w), .ref a3, .int jo, .int gr, .ref a4, .long tt, .long tg])), (a0, .inl (cy 1, 64, .inl df)), (a1, .inl (cy 1, 80, .inl rf)), (a2, .inl (cy 1, 70, .inl tf)), (a3, .inl (cy 1, 10, .inl lf)), (a4, .inl (cy 2, 6, .inl bf))] sz) := by
  refine Met.ofW (cc := cX6_add) (maxL := 13) (ret := (some .long)) (by decide) rfl ?_
  intro p e s m args below meth c s₁ B hml hv
  obtain ⟨rfl, hsz, hP, hkk, hD0⟩ := hv
  have hx := B.exec
  have hb := B.bytes
  have hr := B.returns
  have hts := atoms_spec (ws := wsX6_add) B.pre
  have hown : s.vm.findClass RX6 = some m.cls := findClass_of_methodNamed B.named
  have hlocks := B.notSynchronized
  have hin : meth.name = _ := (name_of_methodNamed B.named B.method).1
  have hK := hkk.1
  subst hsz
  have hD := hD0.self (sz := s.heap.size)
  generalize hAe : va_A [(h0, .inr (7, [.int co0, .int (nI pr), .int (nI pB), .int (nI pC), .int (nI pO), .int (nI n), .ref a0, .int (nI rn), .ref a1, .int (nI ct), .int fa, .int fl, .int (nI sk), .int (nI cm), .ref a2, .int cbf, .int (nI w), .ref a3, .int jo, .int gr, .ref a4, .long tt, .long tg])), (a0, .inl (cy 1, 64, .inl df)), (a1, .inl (cy 1, 80, .inl rf)), (a2, .inl (cy 1, 70, .inl tf)), (a3, .inl (cy 1, 10, .inl lf)), (a4, .inl (cy 2, 6, .inl bf))] s.heap.size = A at hD ⊢
  have hA : ∀ q : Nat, s.heap.size ≤ q → A q := fun q h => by rw [← hAe]; exact Or.inr h
  have hS : va_S A s.heap s.heap [] := va_S.rf
  have hP : va_P D vwCl [(h0, .inr (7, [.int co0, .int (nI pr), .int (nI pB), .int (nI pC), .int (nI pO), .int (nI n), .ref a0, .int (nI rn), .ref a1, .int (nI ct), .int fa, .int fl, .int (nI sk), .int (nI cm), .ref a2, .int cbf, .int (nI w), .ref a3, .int jo, .int gr, .ref a4, .long tt, .long tg])), (a0, .inl (cy 1, 64, .inl df)), (a1, .inl (cy 1, 80, .inl rf)), (a2, .inl (cy 1, 70, .inl tf)), (a3, .inl (cy 1, 10, .inl lf)), (a4, .inl (cy 2, 6, .inl bf))] s.heap := hP
  have hl := lv_entry ([.ref h0, .long (lN rg), .int (nI o)]) (n := 13) (Nat.le_of_ble_eq_true rfl)
  rw [lg_entry_eq]
  generalize (lg_sl ([.ref h0, .long (lN rg), .int (nI o)]) ++ List.replicate (13 - (lg_sl ([.ref h0, .long (lN rg), .int (nI o)])).length) Slot.unset).toArray = ls at hl ⊢
  have hl : lv_has ls 13 [(0, .ref h0), (1, .long (lN rg)), (3, .int (nI o))] := hl
  have hpv := mpr_pvd hmp
  have hB := hpv.1
  refine lv_lconst (v := 1) hx hb dX6_add_0 (by decide) ?_
  refine lv_aload_n hx hb dX6_add_1 rfl (lv_at hl 0 rfl) ?_
  refine va_get (D := D) (ci := 7) (v := .int (nI pB)) (C := RX6) (T := TX6) (N := 23) hx hb hts iw_X6_add_X6 hown hK hP 0 rfl rfl 2 (by decide) (hts _ lk_X6_add_f36) (fun _ h9 => h9) rfl dX6_add_2 ?_
  refine lv_iconst (v := 1) hx hb dX6_add_5 (by decide) ?_
  refine lv_isub hx hb dX6_add_6 ?_
  refine lv_lshl (v := (1 : Int64) <<< (((nI pB) - 1).toInt64 &&& 63)) hx hb dX6_add_7 rfl ?_
  refine lv_topl (fun x_7 ex_7 => ?_)
  obtain rfl : x_7 = lN (2 ^ (pB - 1)) := by rw [ex_7]; exact mp_top hB
  refine lv_lstore (lv' := [(4, .long (lN (2 ^ (pB - 1)))), (0, .ref h0), (1, .long (lN rg)), (3, .int (nI o))]) hx hb dX6_add_8 hl (by decide) rfl (fun ls hl => ?_)
  have cut_41 : ∀  (H : Heap) (locs : List Loc), va_P D vwCl [(h0, .inr (7, [.int co0, .int (nI pr), .int (nI pB), .int (nI pC), .int (nI pO), .int (nI n), .ref a0, .int (nI rn), .ref a1, .int (nI ct), .int fa, .int fl, .int (nI sk), .int (nI cm), .ref a2, .int cbf, .int (nI w), .ref a3, .int jo, .int gr, .ref a4, .long tt, .long tg])), (a0, .inl (cy 1, 64, .inl df)), (a1, .inl (cy 1, 80, .inl rf)), (a2, .inl (cy 1, 70, .inl tf)), (a3, .inl (cy 1, 10, .inl lf)), (a4, .inl (cy 2, 6, .inl bf))] H → va_D A [(h0, .inr (7, [.int co0, .int (nI pr), .int (nI pB), .int (nI pC), .int (nI pO), .int (nI n), .ref a0, .int (nI rn), .ref a1, .int (nI ct), .int fa, .int fl, .int (nI sk), .int (nI cm), .ref a2, .int cbf, .int (nI w), .ref a3, .int jo, .int gr, .ref a4, .long tt, .long tg])), (a0, .inl (cy 1, 64, .inl df)), (a1, .inl (cy 1, 80, .inl rf)), (a2, .inl (cy 1, 70, .inl tf)), (a3, .inl (cy 1, 10, .inl lf)), (a4, .inl (cy 2, 6, .inl bf))] → va_S A s.heap H locs → ∀ (ls : Array Slot), lv_has ls 13 [(0, .ref h0), (1, .long (lN rg)), (3, .int (nI o)), (4, .long (lN (2 ^ (pB - 1))))] → W p l e (headSpec wsX6_add ({ frames := 0, cells := 0, slots := 0, locals := 0 } : Room)).room s m [.ref h0, .long (lN rg), .int (nI o)].toArray below meth c H locs 0 0 (MQ below (va_Ql (fun (r : Int64) (u : Unit) => r = lN (co pB pS o 8 rg)) (fun u t => va_P D vwCl [(h0, .inr (7, [.int co0, .int (nI pr), .int (nI pB), .int (nI pC), .int (nI pO), .int (nI n), .ref a0, .int (nI rn), .ref a1, .int (nI ct), .int fa, .int fl, .int (nI sk), .int (nI cm), .ref a2, .int cbf, .int (nI w), .ref a3, .int jo, .int gr, .ref a4, .long tt, .long tg])), (a0, .inl (cy 1, 64, .inl df)), (a1, .inl (cy 1, 80, .inl rf)), (a2, .inl (cy 1, 70, .inl tf)), (a3, .inl (cy 1, 10, .inl lf)), (a4, .inl (cy 2, 6, .inl bf))] t.heap ∧ va_D A [(h0, .inr (7, [.int co0, .int (nI pr), .int (nI pB), .int (nI pC), .int (nI pO), .int (nI n), .ref a0, .int (nI rn), .ref a1, .int (nI ct), .int fa, .int fl, .int (nI sk), .int (nI cm), .ref a2, .int cbf, .int (nI w), .ref a3, .int jo, .int gr, .ref a4, .long tt, .long tg])), (a0, .inl (cy 1, 64, .inl df)), (a1, .inl (cy 1, 80, .inl rf)), (a2, .inl (cy 1, 70, .inl tf)), (a3, .inl (cy 1, 10, .inl lf)), (a4, .inl (cy 2, 6, .inl bf))]) A) [.ref h0, .long (lN rg), .int (nI o)].toArray s 0 0 A) (F0 m 41 ls [.long (lN pS)]) := by
    intro  H locs  hP hD hS ls hl
    refine lv_lstore (lv' := [(6, .long (lN pS)), (0, .ref h0), (1, .long (lN rg)), (3, .int (nI o)), (4, .long (lN (2 ^ (pB - 1))))]) hx hb dX6_add_41 hl (by decide) rfl (fun ls hl => ?_)
    refine lv_lload_n hx hb dX6_add_43 rfl (lv_at hl 2 rfl) ?_
    refine lv_lstore (lv' := [(8, .long (lN rg)), (6, .long (lN pS)), (0, .ref h0), (1, .long (lN rg)), (3, .int (nI o)), (4, .long (lN (2 ^ (pB - 1))))]) hx hb dX6_add_44 hl (by decide) rfl (fun ls hl => ?_)
    refine lv_bipush (v := 7) hx hb dX6_add_46 (by decide) ?_
    refine lv_topi (fun x_46 ex_46 => ?_)
    obtain rfl : x_46 = nI 8 - 1 := by rw [ex_46]; decide
    refine lv_istore (lv' := [(10, .int (nI 8 - 1)), (8, .long (lN rg)), (6, .long (lN pS)), (0, .ref h0), (1, .long (lN rg)), (3, .int (nI o)), (4, .long (lN (2 ^ (pB - 1))))]) hx hb dX6_add_48 hl (by decide) rfl (fun ls hl => ?_)
    have cut_50 : ∀ (N : Nat) (k : Nat) (r1 : Nat) (H : Heap) (locs : List Loc), k < N → r1 < 2 ^ pB → k ≤ 8 → co pB pS o k r1 = co pB pS o 8 rg → va_P D vwCl [(h0, .inr (7, [.int co0, .int (nI pr), .int (nI pB), .int (nI pC), .int (nI pO), .int (nI n), .ref a0, .int (nI rn), .ref a1, .int (nI ct), .int fa, .int fl, .int (nI sk), .int (nI cm), .ref a2, .int cbf, .int (nI w), .ref a3, .int jo, .int gr, .ref a4, .long tt, .long tg])), (a0, .inl (cy 1, 64, .inl df)), (a1, .inl (cy 1, 80, .inl rf)), (a2, .inl (cy 1, 70, .inl tf)), (a3, .inl (cy 1, 10, .inl lf)), (a4, .inl (cy 2, 6, .inl bf))] H → va_D A [(h0, .inr (7, [.int co0, .int (nI pr), .int (nI pB), .int (nI pC), .int (nI pO), .int (nI n), .ref a0, .int (nI rn), .ref a1, .int (nI ct), .int fa, .int fl, .int (nI sk), .int (nI cm), .ref a2, .int cbf, .int (nI w), .ref a3, .int jo, .int gr, .ref a4, .long tt, .long tg])), (a0, .inl (cy 1, 64, .inl df)), (a1, .inl (cy 1, 80, .inl rf)), (a2, .inl (cy 1, 70, .inl tf)), (a3, .inl (cy 1, 10, .inl lf)), (a4, .inl (cy 2, 6, .inl bf))] → va_S A s.heap H locs → ∀ (ls : Array Slot), lv_has ls 13 [(0, .ref h0), (3, .int (nI o)), (4, .long (lN (2 ^ (pB - 1)))), (6, .long (lN pS)), (8, .long (lN r1)), (10, .int (nI k - 1))] → W p l e (headSpec wsX6_add ({ frames := 0, cells := 0, slots := 0, locals := 0 } : Room)).room s m [.ref h0, .long (lN rg), .int (nI o)].toArray below meth c H locs 0 0 (MQ below (va_Ql (fun (r : Int64) (u : Unit) => r = lN (co pB pS o 8 rg)) (fun u t => va_P D vwCl [(h0, .inr (7, [.int co0, .int (nI pr), .int (nI pB), .int (nI pC), .int (nI pO), .int (nI n), .ref a0, .int (nI rn), .ref a1, .int (nI ct), .int fa, .int fl, .int (nI sk), .int (nI cm), .ref a2, .int cbf, .int (nI w), .ref a3, .int jo, .int gr, .ref a4, .long tt, .long tg])), (a0, .inl (cy 1, 64, .inl df)), (a1, .inl (cy 1, 80, .inl rf)), (a2, .inl (cy 1, 70, .inl tf)), (a3, .inl (cy 1, 10, .inl lf)), (a4, .inl (cy 2, 6, .inl bf))] t.heap ∧ va_D A [(h0, .inr (7, [.int co0, .int (nI pr), .int (nI pB), .int (nI pC), .int (nI pO), .int (nI n), .ref a0, .int (nI rn), .ref a1, .int (nI ct), .int fa, .int fl, .int (nI sk), .int (nI cm), .ref a2, .int cbf, .int (nI w), .ref a3, .int jo, .int gr, .ref a4, .long tt, .long tg])), (a0, .inl (cy 1, 64, .inl df)), (a1, .inl (cy 1, 80, .inl rf)), (a2, .inl (cy 1, 70, .inl tf)), (a3, .inl (cy 1, 10, .inl lf)), (a4, .inl (cy 2, 6, .inl bf))]) A) [.ref h0, .long (lN rg), .int (nI o)].toArray s 0 0 A) (F0 m 50 ls []) := by
      intro N
      induction N with
      | zero => intro k r1 H locs hN; exact absurd hN (Nat.not_lt_zero _)
      | succ N ih =>
        intro k r1 H locs hN hr2 hk hco hP hD hS ls hl
        refine lv_iload hx hb dX6_add_50 (lv_at hl 5 rfl) ?_
        refine lv_if_lt (tgt := 123) hx hb dX6_add_52 (by decide) (fun c_52 => ?_) (fun c_52 => ?_)
        · obtain rfl := oc_pred_neg (by omega) c_52
          refine lv_lload hx hb dX6_add_123 (lv_at hl 4 rfl) ?_
          have hP9 := hP.sub (ws' := [(h0, .inr (7, [.int co0, .int (nI pr), .int (nI pB), .int (nI pC), .int (nI pO), .int (nI n), .ref a0, .int (nI rn), .ref a1, .int (nI ct), .int fa, .int fl, .int (nI sk), .int (nI cm), .ref a2, .int cbf, .int (nI w), .ref a3, .int jo, .int gr, .ref a4, .long tt, .long tg])), (a0, .inl (cy 1, 64, .inl df)), (a1, .inl (cy 1, 80, .inl rf)), (a2, .inl (cy 1, 70, .inl tf)), (a3, .inl (cy 1, 10, .inl lf)), (a4, .inl (cy 2, 6, .inl bf))]) [0, 1, 2, 3, 4, 5] rfl
          have hD9 := hD.sub (ws' := [(h0, .inr (7, [.int co0, .int (nI pr), .int (nI pB), .int (nI pC), .int (nI pO), .int (nI n), .ref a0, .int (nI rn), .ref a1, .int (nI ct), .int fa, .int fl, .int (nI sk), .int (nI cm), .ref a2, .int cbf, .int (nI w), .ref a3, .int jo, .int gr, .ref a4, .long tt, .long tg])), (a0, .inl (cy 1, 64, .inl df)), (a1, .inl (cy 1, 80, .inl rf)), (a2, .inl (cy 1, 70, .inl tf)), (a3, .inl (cy 1, 10, .inl lf)), (a4, .inl (cy 2, 6, .inl bf))]) [0, 1, 2, 3, 4, 5] (by decide) rfl
          exact W.lret (v := lN r1) hx hb hr (fun t ht hW => ⟨⟨lN r1, (), rfl, congrArg lN hco, by rw [ht]; exact hP9, hD9⟩, hS.F ht⟩) hS.2.2 dX6_add_125
        · obtain ⟨z, rfl⟩ := oc_pred_ok c_52
          refine lv_iload_n hx hb dX6_add_55 rfl (lv_at hl 1 rfl) ?_
          refine lv_iload hx hb dX6_add_56 (lv_at hl 5 rfl) ?_
          refine lv_ishr hx hb dX6_add_58 ?_
          refine lv_iconst (v := 1) hx hb dX6_add_59 (by decide) ?_
          refine lv_iand hx hb dX6_add_60 ?_
          refine lv_topi (fun x_60 ex_60 => ?_)
          obtain rfl : x_60 = nI (o / 2 ^ z % 2) := by rw [ex_60]; exact sh_bit ho (by omega)
          refine lv_iconst (v := 1) hx hb dX6_add_61 (by decide) ?_
          refine lv_icmp_ne (tgt := 69) hx hb dX6_add_62 (by decide) (fun c_62 => ?_) (fun c_62 => ?_)
          · refine lv_iconst (v := 0) hx hb dX6_add_69 (by decide) ?_
            refine lv_istore (lv' := [(11, .int 0), (0, .ref h0), (3, .int (nI o)), (4, .long (lN (2 ^ (pB - 1)))), (6, .long (lN pS)), (8, .long (lN r1)), (10, .int (nI (z + 1) - 1))]) hx hb dX6_add_70 hl (by decide) rfl (fun ls hl => ?_)
            have hone := mb_0 c_62
            refine lv_lload hx hb dX6_add_72 (lv_at hl 5 rfl) ?_
            refine lv_lload hx hb dX6_add_74 (lv_at hl 3 rfl) ?_
            refine W.lcmp hx hb dX6_add_76 ?_
            refine lv_if_lt (tgt := 84) hx hb dX6_add_77 (by decide) (fun c_77 => ?_) (fun c_77 => ?_)
            · refine lv_iconst (v := 0) hx hb dX6_add_84 (by decide) ?_
              refine lv_istore (lv' := [(12, .int 0), (11, .int 0), (0, .ref h0), (3, .int (nI o)), (4, .long (lN (2 ^ (pB - 1)))), (6, .long (lN pS)), (8, .long (lN r1)), (10, .int (nI (z + 1) - 1))]) hx hb dX6_add_85 hl (by decide) rfl (fun ls hl => ?_)
              have hhigh := mh_0 hB hr2 c_77
              refine lv_lload hx hb dX6_add_87 (lv_at hl 6 rfl) ?_
              refine lv_lload hx hb dX6_add_89 (lv_at hl 4 rfl) ?_
              refine lv_lrem hx hb dX6_add_91 (mp_t0 hB) ?_
              refine lv_topl (fun x_91 ex_91 => ?_)
              obtain rfl : x_91 = lN (r1 % 2 ^ (pB - 1)) := by rw [ex_91]; exact mp_rem hB hr2
              refine lv_ldc2 (v := 2) hx hb hown (hts _ lk_X6_add_k55) dX6_add_92 ?_
              refine lv_lmul hx hb dX6_add_95 ?_
              refine lv_topl (fun x_95 ex_95 => ?_)
              obtain rfl : x_95 = lN (r1 * 2 % 2 ^ pB) := by rw [ex_95]; exact mp_two hB
              refine lv_lstore (lv' := [(8, .long (lN (r1 * 2 % 2 ^ pB))), (12, .int 0), (11, .int 0), (0, .ref h0), (3, .int (nI o)), (4, .long (lN (2 ^ (pB - 1)))), (6, .long (lN pS)), (10, .int (nI (z + 1) - 1))]) hx hb dX6_add_96 hl (by decide) rfl (fun ls hl => ?_)
              refine lv_iload hx hb dX6_add_98 (lv_at hl 2 rfl) ?_
              refine lv_iload hx hb dX6_add_100 (lv_at hl 1 rfl) ?_
              refine lv_icmp_eq (tgt := 113) hx hb dX6_add_102 (by decide) (fun c_102 => ?_) (fun c_102 => ?_)
              · refine lv_lload hx hb dX6_add_113 (lv_at hl 0 rfl) ?_
                refine lv_lstore (lv' := [(8, .long (lN (r1 * 2 % 2 ^ pB))), (12, .int 0), (11, .int 0), (0, .ref h0), (3, .int (nI o)), (4, .long (lN (2 ^ (pB - 1)))), (6, .long (lN pS)), (10, .int (nI (z + 1) - 1))]) hx hb dX6_add_115 hl (by decide) rfl (fun ls hl => ?_)
                refine lv_iinc (v := nI z - 1) (lv' := [(10, .int (nI z - 1)), (8, .long (lN (r1 * 2 % 2 ^ pB))), (12, .int 0), (11, .int 0), (0, .ref h0), (3, .int (nI o)), (4, .long (lN (2 ^ (pB - 1)))), (6, .long (lN pS))]) hx hb dX6_add_117 hl (k := 7) rfl (oc_pp z) (by decide) rfl (fun ls hl => ?_)
                refine lv_goto (tgt := 50) hx hb dX6_add_120 (by decide) ?_
                exact ih z (r1 * 2 % 2 ^ pB) _ _ (by omega) (Nat.mod_lt _ (Nat.two_pow_pos pB)) (by omega) ((co_t (by rw [hone, hhigh])).trans hco) hP hD hS _ (lv_sub hl [4, 5, 6, 7, 1, 0] rfl)
              · exact absurd c_102 (by decide)
            · refine lv_iconst (v := 1) hx hb dX6_add_80 (by decide) ?_
              refine lv_goto (tgt := 85) hx hb dX6_add_81 (by decide) ?_
              refine lv_istore (lv' := [(12, .int 1), (11, .int 0), (0, .ref h0), (3, .int (nI o)), (4, .long (lN (2 ^ (pB - 1)))), (6, .long (lN pS)), (8, .long (lN r1)), (10, .int (nI (z + 1) - 1))]) hx hb dX6_add_85 hl (by decide) rfl (fun ls hl => ?_)
              have hhigh := mh_1 hB hr2 c_77
              refine lv_lload hx hb dX6_add_87 (lv_at hl 6 rfl) ?_
              refine lv_lload hx hb dX6_add_89 (lv_at hl 4 rfl) ?_
              refine lv_lrem hx hb dX6_add_91 (mp_t0 hB) ?_
              refine lv_topl (fun x_91 ex_91 => ?_)
              obtain rfl : x_91 = lN (r1 % 2 ^ (pB - 1)) := by rw [ex_91]; exact mp_rem hB hr2
              refine lv_ldc2 (v := 2) hx hb hown (hts _ lk_X6_add_k55) dX6_add_92 ?_
              refine lv_lmul hx hb dX6_add_95 ?_
              refine lv_topl (fun x_95 ex_95 => ?_)
              obtain rfl : x_95 = lN (r1 * 2 % 2 ^ pB) := by rw [ex_95]; exact mp_two hB
              refine lv_lstore (lv' := [(8, .long (lN (r1 * 2 % 2 ^ pB))), (12, .int 1), (11, .int 0), (0, .ref h0), (3, .int (nI o)), (4, .long (lN (2 ^ (pB - 1)))), (6, .long (lN pS)), (10, .int (nI (z + 1) - 1))]) hx hb dX6_add_96 hl (by decide) rfl (fun ls hl => ?_)
              refine lv_iload hx hb dX6_add_98 (lv_at hl 2 rfl) ?_
              refine lv_iload hx hb dX6_add_100 (lv_at hl 1 rfl) ?_
              refine lv_icmp_eq (tgt := 113) hx hb dX6_add_102 (by decide) (fun c_102 => ?_) (fun c_102 => ?_)
              · exact absurd c_102 (by decide)
              · refine lv_lload hx hb dX6_add_105 (lv_at hl 0 rfl) ?_
                refine lv_lload hx hb dX6_add_107 (lv_at hl 6 rfl) ?_
                refine lv_lxor hx hb dX6_add_109 ?_
                refine lv_topl (fun x_109 ex_109 => ?_)
                obtain rfl : x_109 = lN ((r1 * 2 % 2 ^ pB) ^^^ pS) := by rw [ex_109]; exact lN_xor _ _
                refine lv_goto (tgt := 115) hx hb dX6_add_110 (by decide) ?_
                refine lv_lstore (lv' := [(8, .long (lN ((r1 * 2 % 2 ^ pB) ^^^ pS))), (12, .int 1), (11, .int 0), (0, .ref h0), (3, .int (nI o)), (4, .long (lN (2 ^ (pB - 1)))), (6, .long (lN pS)), (10, .int (nI (z + 1) - 1))]) hx hb dX6_add_115 hl (by decide) rfl (fun ls hl => ?_)
                refine lv_iinc (v := nI z - 1) (lv' := [(10, .int (nI z - 1)), (8, .long (lN ((r1 * 2 % 2 ^ pB) ^^^ pS))), (12, .int 1), (11, .int 0), (0, .ref h0), (3, .int (nI o)), (4, .long (lN (2 ^ (pB - 1)))), (6, .long (lN pS))]) hx hb dX6_add_117 hl (k := 7) rfl (oc_pp z) (by decide) rfl (fun ls hl => ?_)
                refine lv_goto (tgt := 50) hx hb dX6_add_120 (by decide) ?_
                exact ih z ((r1 * 2 % 2 ^ pB) ^^^ pS) _ _ (by omega) (Nat.xor_lt_two_pow (Nat.mod_lt _ (Nat.two_pow_pos pB)) hpv.2.1) (by omega) ((co_f (by rw [hone, hhigh]; decide)).trans hco) hP hD hS _ (lv_sub hl [4, 5, 6, 7, 1, 0] rfl)
          · refine lv_iconst (v := 1) hx hb dX6_add_65 (by decide) ?_
            refine lv_goto (tgt := 70) hx hb dX6_add_66 (by decide) ?_
            refine lv_istore (lv' := [(11, .int 1), (0, .ref h0), (3, .int (nI o)), (4, .long (lN (2 ^ (pB - 1)))), (6, .long (lN pS)), (8, .long (lN r1)), (10, .int (nI (z + 1) - 1))]) hx hb dX6_add_70 hl (by decide) rfl (fun ls hl => ?_)
            have hone := mb_1 c_62
            refine lv_lload hx hb dX6_add_72 (lv_at hl 5 rfl) ?_
            refine lv_lload hx hb dX6_add_74 (lv_at hl 3 rfl) ?_
            refine W.lcmp hx hb dX6_add_76 ?_
            refine lv_if_lt (tgt := 84) hx hb dX6_add_77 (by decide) (fun c_77 => ?_) (fun c_77 => ?_)
            · refine lv_iconst (v := 0) hx hb dX6_add_84 (by decide) ?_
              refine lv_istore (lv' := [(12, .int 0), (11, .int 1), (0, .ref h0), (3, .int (nI o)), (4, .long (lN (2 ^ (pB - 1)))), (6, .long (lN pS)), (8, .long (lN r1)), (10, .int (nI (z + 1) - 1))]) hx hb dX6_add_85 hl (by decide) rfl (fun ls hl => ?_)
              have hhigh := mh_0 hB hr2 c_77
              refine lv_lload hx hb dX6_add_87 (lv_at hl 6 rfl) ?_
              refine lv_lload hx hb dX6_add_89 (lv_at hl 4 rfl) ?_
              refine lv_lrem hx hb dX6_add_91 (mp_t0 hB) ?_
              refine lv_topl (fun x_91 ex_91 => ?_)
              obtain rfl : x_91 = lN (r1 % 2 ^ (pB - 1)) := by rw [ex_91]; exact mp_rem hB hr2
              refine lv_ldc2 (v := 2) hx hb hown (hts _ lk_X6_add_k55) dX6_add_92 ?_
              refine lv_lmul hx hb dX6_add_95 ?_
              refine lv_topl (fun x_95 ex_95 => ?_)
              obtain rfl : x_95 = lN (r1 * 2 % 2 ^ pB) := by rw [ex_95]; exact mp_two hB
              refine lv_lstore (lv' := [(8, .long (lN (r1 * 2 % 2 ^ pB))), (12, .int 0), (11, .int 1), (0, .ref h0), (3, .int (nI o)), (4, .long (lN (2 ^ (pB - 1)))), (6, .long (lN pS)), (10, .int (nI (z + 1) - 1))]) hx hb dX6_add_96 hl (by decide) rfl (fun ls hl => ?_)
              refine lv_iload hx hb dX6_add_98 (lv_at hl 2 rfl) ?_
              refine lv_iload hx hb dX6_add_100 (lv_at hl 1 rfl) ?_
              refine lv_icmp_eq (tgt := 113) hx hb dX6_add_102 (by decide) (fun c_102 => ?_) (fun c_102 => ?_)
              · exact absurd c_102 (by decide)
              · refine lv_lload hx hb dX6_add_105 (lv_at hl 0 rfl) ?_
                refine lv_lload hx hb dX6_add_107 (lv_at hl 6 rfl) ?_
                refine lv_lxor hx hb dX6_add_109 ?_
                refine lv_topl (fun x_109 ex_109 => ?_)
                obtain rfl : x_109 = lN ((r1 * 2 % 2 ^ pB) ^^^ pS) := by rw [ex_109]; exact lN_xor _ _
                refine lv_goto (tgt := 115) hx hb dX6_add_110 (by decide) ?_
                refine lv_lstore (lv' := [(8, .long (lN ((r1 * 2 % 2 ^ pB) ^^^ pS))), (12, .int 0), (11, .int 1), (0, .ref h0), (3, .int (nI o)), (4, .long (lN (2 ^ (pB - 1)))), (6, .long (lN pS)), (10, .int (nI (z + 1) - 1))]) hx hb dX6_add_115 hl (by decide) rfl (fun ls hl => ?_)
                refine lv_iinc (v := nI z - 1) (lv' := [(10, .int (nI z - 1)), (8, .long (lN ((r1 * 2 % 2 ^ pB) ^^^ pS))), (12, .int 0), (11, .int 1), (0, .ref h0), (3, .int (nI o)), (4, .long (lN (2 ^ (pB - 1)))), (6, .long (lN pS))]) hx hb dX6_add_117 hl (k := 7) rfl (oc_pp z) (by decide) rfl (fun ls hl => ?_)
                refine lv_goto (tgt := 50) hx hb dX6_add_120 (by decide) ?_
                exact ih z ((r1 * 2 % 2 ^ pB) ^^^ pS) _ _ (by omega) (Nat.xor_lt_two_pow (Nat.mod_lt _ (Nat.two_pow_pos pB)) hpv.2.1) (by omega) ((co_f (by rw [hone, hhigh]; decide)).trans hco) hP hD hS _ (lv_sub hl [4, 5, 6, 7, 1, 0] rfl)
            · refine lv_iconst (v := 1) hx hb dX6_add_80 (by decide) ?_
              refine lv_goto (tgt := 85) hx hb dX6_add_81 (by decide) ?_
              refine lv_istore (lv' := [(12, .int 1), (11, .int 1), (0, .ref h0), (3, .int (nI o)), (4, .long (lN (2 ^ (pB - 1)))), (6, .long (lN pS)), (8, .long (lN r1)), (10, .int (nI (z + 1) - 1))]) hx hb dX6_add_85 hl (by decide) rfl (fun ls hl => ?_)
              have hhigh := mh_1 hB hr2 c_77
              refine lv_lload hx hb dX6_add_87 (lv_at hl 6 rfl) ?_
              refine lv_lload hx hb dX6_add_89 (lv_at hl 4 rfl) ?_
              refine lv_lrem hx hb dX6_add_91 (mp_t0 hB) ?_
              refine lv_topl (fun x_91 ex_91 => ?_)
              obtain rfl : x_91 = lN (r1 % 2 ^ (pB - 1)) := by rw [ex_91]; exact mp_rem hB hr2
              refine lv_ldc2 (v := 2) hx hb hown (hts _ lk_X6_add_k55) dX6_add_92 ?_
              refine lv_lmul hx hb dX6_add_95 ?_
              refine lv_topl (fun x_95 ex_95 => ?_)
              obtain rfl : x_95 = lN (r1 * 2 % 2 ^ pB) := by rw [ex_95]; exact mp_two hB
              refine lv_lstore (lv' := [(8, .long (lN (r1 * 2 % 2 ^ pB))), (12, .int 1), (11, .int 1), (0, .ref h0), (3, .int (nI o)), (4, .long (lN (2 ^ (pB - 1)))), (6, .long (lN pS)), (10, .int (nI (z + 1) - 1))]) hx hb dX6_add_96 hl (by decide) rfl (fun ls hl => ?_)
              refine lv_iload hx hb dX6_add_98 (lv_at hl 2 rfl) ?_
              refine lv_iload hx hb dX6_add_100 (lv_at hl 1 rfl) ?_
              refine lv_icmp_eq (tgt := 113) hx hb dX6_add_102 (by decide) (fun c_102 => ?_) (fun c_102 => ?_)
              · refine lv_lload hx hb dX6_add_113 (lv_at hl 0 rfl) ?_
                refine lv_lstore (lv' := [(8, .long (lN (r1 * 2 % 2 ^ pB))), (12, .int 1), (11, .int 1), (0, .ref h0), (3, .int (nI o)), (4, .long (lN (2 ^ (pB - 1)))), (6, .long (lN pS)), (10, .int (nI (z + 1) - 1))]) hx hb dX6_add_115 hl (by decide) rfl (fun ls hl => ?_)
                refine lv_iinc (v := nI z - 1) (lv' := [(10, .int (nI z - 1)), (8, .long (lN (r1 * 2 % 2 ^ pB))), (12, .int 1), (11, .int 1), (0, .ref h0), (3, .int (nI o)), (4, .long (lN (2 ^ (pB - 1)))), (6, .long (lN pS))]) hx hb dX6_add_117 hl (k := 7) rfl (oc_pp z) (by decide) rfl (fun ls hl => ?_)
                refine lv_goto (tgt := 50) hx hb dX6_add_120 (by decide) ?_
                exact ih z (r1 * 2 % 2 ^ pB) _ _ (by omega) (Nat.mod_lt _ (Nat.two_pow_pos pB)) (by omega) ((co_t (by rw [hone, hhigh])).trans hco) hP hD hS _ (lv_sub hl [4, 5, 6, 7, 1, 0] rfl)
              · exact absurd c_102 (by decide)
    exact cut_50 _ 8 rg _ _ (Nat.lt_succ_self _) hr1 (Nat.le_refl _) rfl hP hD hS _ (lv_sub hl [3, 5, 6, 2, 1, 0] rfl)
  refine lv_aload_n hx hb dX6_add_10 rfl (lv_at hl 1 rfl) ?_
  refine va_get (D := D) (ci := 7) (v := .int (nI pr)) (C := RX6) (T := TX6) (N := 23) hx hb hts iw_X6_add_X6 hown hK hP 0 rfl rfl 1 (by decide) (hts _ lk_X6_add_f33) (fun _ h9 => h9) rfl dX6_add_11 ?_
  refine lv_iconst (v := 1) hx hb dX6_add_14 (by decide) ?_
  refine lv_icmp_ne (tgt := 24) hx hb dX6_add_15 (by decide) (fun c_15 => ?_) (fun c_15 => ?_)
  · refine lv_aload_n hx hb dX6_add_24 rfl (lv_at hl 1 rfl) ?_
    refine va_get (D := D) (ci := 7) (v := .int (nI pr)) (C := RX6) (T := TX6) (N := 23) hx hb hts iw_X6_add_X6 hown hK hP 0 rfl rfl 1 (by decide) (hts _ lk_X6_add_f33) (fun _ h9 => h9) rfl dX6_add_25 ?_
    refine lv_iconst (v := 2) hx hb dX6_add_28 (by decide) ?_
    refine lv_icmp_ne (tgt := 38) hx hb dX6_add_29 (by decide) (fun c_29 => ?_) (fun c_29 => ?_)
    · refine lv_ldc2 (v := 4104978195) hx hb hown (hts _ lk_X6_add_k53) dX6_add_38 ?_
      refine lv_topl (fun x_38 ex_38 => ?_)
      obtain rfl : x_38 = lN pS := by rw [ex_38]; exact mp_s3 hmp c_15 c_29
      exact cut_41  _ _  hP hD hS _ (lv_sub hl [1, 2, 3, 0] rfl)
    · refine lv_ldc2 (v := 4129) hx hb hown (hts _ lk_X6_add_k51) dX6_add_32 ?_
      refine lv_topl (fun x_32 ex_32 => ?_)
      obtain rfl : x_32 = lN pS := by rw [ex_32]; exact mp_s2 hmp c_29
      refine lv_goto (tgt := 41) hx hb dX6_add_35 (by decide) ?_
      exact cut_41  _ _  hP hD hS _ (lv_sub hl [1, 2, 3, 0] rfl)
  · refine lv_ldc2 (v := 29) hx hb hown (hts _ lk_X6_add_k49) dX6_add_18 ?_
    refine lv_topl (fun x_18 ex_18 => ?_)
    obtain rfl : x_18 = lN pS := by rw [ex_18]; exact mp_s1 hmp c_15
    refine lv_goto (tgt := 41) hx hb dX6_add_21 (by decide) ?_
    exact cut_41  _ _  hP hD hS _ (lv_sub hl [1, 2, 3, 0] rfl)

theorem iw_X6_begin_X6 : ∀ w ∈ wsX60, w ∈ wsX6_begin := by decide +kernel
theorem lk_X6_begin_f36 : (.fieldLink RX6 36 "DataGuardsModel" "bits" "I" : Cond) ∈ wsX6_begin := by decide +kernel
set_option maxHeartbeats 4000000 in
set_option maxRecDepth 100000 in
theorem c_X6_begin (l : Launch) (D : va_G) (cy : Nat → ClassId) (sz : Nat) (h0 : Nat) (a0 : Nat) (a1 : Nat) (a2 : Nat) (a3 : Nat) (a4 : Nat) (co0 : Int32) (pr : Nat) (pB : Nat) (pS : Nat) (pG : Nat) (pE : Nat) (pC : Nat) (pO : Nat) (n : Nat) (df : Nat → Int32) (rn : Nat) (rf : Nat → Int32) (ct : Nat) (fa : Int32) (fl : Int32) (sk : Nat) (cm : Nat) (tf : Nat → Int32) (cbf : Int32) (w : Nat) (lf : Nat → Int32) (jo : Int32) (gr : Int32) (bf : Nat → Int32) (tt : Int64) (tg : Int64) (d : Nat) (hmp : mpr pr pB pS pG pE pC pO) (hd : d < 65536) : Met l yX6_begin wsX6_begin ({ frames := 1, cells := 0, slots := 0, locals := 32 } : Room) (pre1 D cy [.ref h0, .int (nI d)] [(h0, .inr (7, [.int co0, .int (nI pr), .int (nI pB), .int (nI pC), .int (nI pO), .int (nI n), .ref a0, .int (nI rn), .ref a1, .int (nI ct), .int fa, .int fl, .int (nI sk), .int (nI cm), .ref a2, .int cbf, .int (nI w), .ref a3, .int jo, .int gr, .ref a4, .long tt, .long tg])), (a0, .inl (cy 1, 64, .inl df)), (a1, .inl (cy 1, 80, .inl rf)), (a2, .inl (cy 1, 70, .inl tf)), (a3, .inl (cy 1, 10, .inl lf)), (a4, .inl (cy 2, 6, .inl bf))] sz) (va_Ql (fun (r : Int64) (u : Unit) => r = lN (co pB pS d 8 (co pB pS (d / 256) 8 pG))) (fun u t => va_P D vwCl [(h0, .inr (7, [.int co0, .int (nI pr), .int (nI pB), .int (nI pC), .int (nI pO), .int (nI n), .ref a0, .int (nI rn), .ref a1, .int (nI ct), .int fa, .int fl, .int (nI sk), .int (nI cm), .ref a2, .int cbf, .int (nI w), .ref a3, .int jo, .int gr, .ref a4, .long tt, .long tg])), (a0, .inl (cy 1, 64, .inl df)), (a1, .inl (cy 1, 80, .inl rf)), (a2, .inl (cy 1, 70, .inl tf)), (a3, .inl (cy 1, 10, .inl lf)), (a4, .inl (cy 2, 6, .inl bf))] t.heap ∧ va_D (va_A [(h0, .inr (7, [.int co0, .int (nI pr), .int (nI pB), .int (nI pC), .int (nI pO), .int (nI n), .ref a0, .int (nI rn), .ref a1, .int (nI ct), .int fa, .int fl, .int (nI sk), .int (nI cm), .ref a2, .int cbf, .int (nI w), .ref a3, .int jo, .int gr, .ref a4, .long tt, .long tg])), (a0, .inl (cy 1, 64, .inl df)), (a1, .inl (cy 1, 80, .inl rf)), (a2, .inl (cy 1, 70, .inl tf)), (a3, .inl (cy 1, 10, .inl lf)), (a4, .inl (cy 2, 6, .inl bf))] sz) [(h0, .inr (7, [.int co0, .int (nI pr), .int (nI pB), .int (nI pC), .int (nI pO), .int (nI n), .ref a0, .int (nI rn), .ref a1, .int (nI ct), .int fa, .int fl, .int (nI sk), .int (nI cm), .ref a2, .int cbf, .int (nI w), .ref a3, .int jo, .int gr, .ref a4, .long tt, .long tg])), (a0, .inl (cy 1, 64, .inl df)), (a1, .inl (cy 1, 80, .inl rf)), (a2, .inl (cy 1, 70, .inl tf)), (a3, .inl (cy 1, 10, .inl lf)), (a4, .inl (cy 2, 6, .inl bf))]) (va_A [(h0, .inr (7, [.int co0, .int (nI pr), .int (nI pB), .int (nI pC), .int (nI pO), .int (nI n), .ref a0, .int (nI rn), .ref a1, .int (nI ct), .int fa, .int fl, .int (nI sk), .int (nI cm), .ref a2, .int cbf, .int (nI w), .ref a3, .int jo, .int gr, .ref a4, .long tt, .long tg])), (a0, .inl (cy 1, 64, .inl df)), (a1, .inl (cy 1, 80, .inl rf)), (a2, .inl (cy 1, 70, .inl tf)), (a3, .inl (cy 1, 10, .inl lf)), (a4, .inl (cy 2, 6, .inl bf))] sz)) 0 0 (va_A [(h0, .inr (7, [.int co0, .int (nI pr), .int (nI pB), .int (nI pC), .int (nI pO), .int (nI n), .ref a0, .int (nI rn), .ref a1, .int (nI ct), .int fa, .int fl, .int (nI sk), .int (nI cm), .ref a2, .int cbf, .int (nI w), .ref a3, .int jo, .int gr, .ref a4, .long tt, .long tg])), (a0, .inl (cy 1, 64, .inl df)), (a1, .inl (cy 1, 80, .inl rf)), (a2, .inl (cy 1, 70, .inl tf)), (a3, .inl (cy 1, 10, .inl lf)), (a4, .inl (cy 2, 6, .inl bf))] sz) := by
  refine Met.ofW (cc := cX6_begin) (maxL := 4) (ret := (some .long)) (by decide) rfl ?_
  intro p e s m args below meth c s₁ B hml hv
  obtain ⟨rfl, hsz, hP, hkk, hD0⟩ := hv
  have hx := B.exec
  have hb := B.bytes
  have hr := B.returns
  have hts := atoms_spec (ws := wsX6_begin) B.pre
  have hown : s.vm.findClass RX6 = some m.cls := findClass_of_methodNamed B.named
  have hlocks := B.notSynchronized
  have hin : meth.name = _ := (name_of_methodNamed B.named B.method).1
  have hK := hkk.1
  subst hsz
  have hD := hD0.self (sz := s.heap.size)
  generalize hAe : va_A [(h0, .inr (7, [.int co0, .int (nI pr), .int (nI pB), .int (nI pC), .int (nI pO), .int (nI n), .ref a0, .int (nI rn), .ref a1, .int (nI ct), .int fa, .int fl, .int (nI sk), .int (nI cm), .ref a2, .int cbf, .int (nI w), .ref a3, .int jo, .int gr, .ref a4, .long tt, .long tg])), (a0, .inl (cy 1, 64, .inl df)), (a1, .inl (cy 1, 80, .inl rf)), (a2, .inl (cy 1, 70, .inl tf)), (a3, .inl (cy 1, 10, .inl lf)), (a4, .inl (cy 2, 6, .inl bf))] s.heap.size = A at hD ⊢
  have hA : ∀ q : Nat, s.heap.size ≤ q → A q := fun q h => by rw [← hAe]; exact Or.inr h
  have hS : va_S A s.heap s.heap [] := va_S.rf
  have hP : va_P D vwCl [(h0, .inr (7, [.int co0, .int (nI pr), .int (nI pB), .int (nI pC), .int (nI pO), .int (nI n), .ref a0, .int (nI rn), .ref a1, .int (nI ct), .int fa, .int fl, .int (nI sk), .int (nI cm), .ref a2, .int cbf, .int (nI w), .ref a3, .int jo, .int gr, .ref a4, .long tt, .long tg])), (a0, .inl (cy 1, 64, .inl df)), (a1, .inl (cy 1, 80, .inl rf)), (a2, .inl (cy 1, 70, .inl tf)), (a3, .inl (cy 1, 10, .inl lf)), (a4, .inl (cy 2, 6, .inl bf))] s.heap := hP
  have hl := lv_entry ([.ref h0, .int (nI d)]) (n := 4) (Nat.le_of_ble_eq_true rfl)
  rw [lg_entry_eq]
  generalize (lg_sl ([.ref h0, .int (nI d)]) ++ List.replicate (4 - (lg_sl ([.ref h0, .int (nI d)])).length) Slot.unset).toArray = ls at hl ⊢
  have hl : lv_has ls 4 [(0, .ref h0), (1, .int (nI d))] := hl
  have hpv := mpr_pvd hmp
  refine lv_lconst (v := 1) hx hb dX6_begin_0 (by decide) ?_
  refine lv_aload_n hx hb dX6_begin_1 rfl (lv_at hl 0 rfl) ?_
  refine va_get (D := D) (ci := 7) (v := .int (nI pB)) (C := RX6) (T := TX6) (N := 23) hx hb hts iw_X6_begin_X6 hown hK hP 0 rfl rfl 2 (by decide) (hts _ lk_X6_begin_f36) (fun _ h9 => h9) rfl dX6_begin_2 ?_
  refine lv_lshl (v := (1 : Int64) <<< ((nI pB).toInt64 &&& 63)) hx hb dX6_begin_5 rfl ?_
  refine lv_lconst (v := 1) hx hb dX6_begin_6 (by decide) ?_
  refine lv_lsub hx hb dX6_begin_7 ?_
  refine lv_topl (fun x_7 ex_7 => ?_)
  obtain rfl : x_7 = lN pG := by rw [ex_7]; exact mp_all hmp
  refine lv_lstore_n (lv' := [(2, .long (lN pG)), (0, .ref h0), (1, .int (nI d))]) hx hb dX6_begin_8 rfl hl (by decide) rfl (fun ls hl => ?_)
  refine lv_aload_n hx hb dX6_begin_9 rfl (lv_at hl 1 rfl) ?_
  refine lv_aload_n hx hb dX6_begin_10 rfl (lv_at hl 1 rfl) ?_
  refine lv_lload_n hx hb dX6_begin_11 rfl (lv_at hl 0 rfl) ?_
  refine lv_iload_n hx hb dX6_begin_12 rfl (lv_at hl 2 rfl) ?_
  refine lv_sipush (v := 256) hx hb dX6_begin_13 (by decide) ?_
  refine lv_idiv hx hb dX6_begin_16 (by decide) ?_
  refine lv_topi (fun x_16 ex_16 => ?_)
  obtain rfl : x_16 = nI (d / 256) := by rw [ex_16]; exact pk_div (by omega) (by decide) (by decide)
  have hPc := hP.sub (ws' := [(h0, .inr (7, [.int co0, .int (nI pr), .int (nI pB), .int (nI pC), .int (nI pO), .int (nI n), .ref a0, .int (nI rn), .ref a1, .int (nI ct), .int fa, .int fl, .int (nI sk), .int (nI cm), .ref a2, .int cbf, .int (nI w), .ref a3, .int jo, .int gr, .ref a4, .long tt, .long tg])), (a0, .inl (cy 1, 64, .inl df)), (a1, .inl (cy 1, 80, .inl rf)), (a2, .inl (cy 1, 70, .inl tf)), (a3, .inl (cy 1, 10, .inl lf)), (a4, .inl (cy 2, 6, .inl bf))]) [0, 1, 2, 3, 4, 5] rfl
  have hDc := hD.sub (ws' := [(h0, .inr (7, [.int co0, .int (nI pr), .int (nI pB), .int (nI pC), .int (nI pO), .int (nI n), .ref a0, .int (nI rn), .ref a1, .int (nI ct), .int fa, .int fl, .int (nI sk), .int (nI cm), .ref a2, .int cbf, .int (nI w), .ref a3, .int jo, .int gr, .ref a4, .long tt, .long tg])), (a0, .inl (cy 1, 64, .inl df)), (a1, .inl (cy 1, 80, .inl rf)), (a2, .inl (cy 1, 70, .inl tf)), (a3, .inl (cy 1, 10, .inl lf)), (a4, .inl (cy 2, 6, .inl bf))]) [0, 1, 2, 3, 4, 5] (by decide) rfl
  have hFc := va_free (wc := [(h0, .inr (7, [.int co0, .int (nI pr), .int (nI pB), .int (nI pC), .int (nI pO), .int (nI n), .ref a0, .int (nI rn), .ref a1, .int (nI ct), .int fa, .int fl, .int (nI sk), .int (nI cm), .ref a2, .int cbf, .int (nI w), .ref a3, .int jo, .int gr, .ref a4, .long tt, .long tg])), (a0, .inl (cy 1, 64, .inl df)), (a1, .inl (cy 1, 80, .inl rf)), (a2, .inl (cy 1, 70, .inl tf)), (a3, .inl (cy 1, 10, .inl lf)), (a4, .inl (cy 2, 6, .inl bf))]) hD hS hA [0, 1, 2, 3, 4, 5] rfl
  refine va_calll (va_runV (As := [.long (lN pG), .int (nI (d / 256))]) (rest := [.ref h0]) ⟨hx, hb, hml, hown, hts⟩ (c_X6_add l D cy s.heap.size h0 a0 a1 a2 a3 a4 co0 pr pB pS pG pE pC pO n df rn rf ct fa fl sk cm tf cbf w lf jo gr bf tt tg pG (d / 256) (by first | assumption | omega) hpv.2.2.1 (by omega)) (cwV 2 hts gX6_begin_X6_add rfl rfl rfl (by decide +kernel) ⟨Nat.le_of_ble_eq_true rfl, Nat.le_of_ble_eq_true rfl⟩) (pv_V (ci := 7) (q := (RX6, TX6, 23)) hkk hPc hDc rfl rfl rfl) rfl rfl hl.1 rfl (lv_room (Nat.le_of_ble_eq_true rfl)) dX6_begin_17 ⟨Nat.le_of_ble_eq_true rfl, Nat.le_of_ble_eq_true rfl⟩) hS (fun q _ h => hFc q h) hFc (fun r_17 u t H1 locs ht hvm hw hB hz1 hk1 hS => ?_)
  obtain ⟨hP1, hD1⟩ := hB
  rw [ht] at hP1
  try dsimp only at hw hP1 hD1
  obtain ⟨hP, hD⟩ := va_join (wr := []) (w1 := [(h0, .inr (7, [.int co0, .int (nI pr), .int (nI pB), .int (nI pC), .int (nI pO), .int (nI n), .ref a0, .int (nI rn), .ref a1, .int (nI ct), .int fa, .int fl, .int (nI sk), .int (nI cm), .ref a2, .int cbf, .int (nI w), .ref a3, .int jo, .int gr, .ref a4, .long tt, .long tg])), (a0, .inl (cy 1, 64, .inl df)), (a1, .inl (cy 1, 80, .inl rf)), (a2, .inl (cy 1, 70, .inl tf)), (a3, .inl (cy 1, 10, .inl lf)), (a4, .inl (cy 2, 6, .inl bf))]) hP hD [0, 1, 2, 3, 4, 5] [] rfl rfl (by decide) (by decide) hk1 hFc hP1 hD1
  clear hPc hDc hFc hP1 hD1 hz1 hk1
  generalize H1 = H at hP hS ⊢
  have hP : va_P D vwCl [(h0, .inr (7, [.int co0, .int (nI pr), .int (nI pB), .int (nI pC), .int (nI pO), .int (nI n), .ref a0, .int (nI rn), .ref a1, .int (nI ct), .int fa, .int fl, .int (nI sk), .int (nI cm), .ref a2, .int cbf, .int (nI w), .ref a3, .int jo, .int gr, .ref a4, .long tt, .long tg])), (a0, .inl (cy 1, 64, .inl df)), (a1, .inl (cy 1, 80, .inl rf)), (a2, .inl (cy 1, 70, .inl tf)), (a3, .inl (cy 1, 10, .inl lf)), (a4, .inl (cy 2, 6, .inl bf))] H := hP
  have hD : va_D A [(h0, .inr (7, [.int co0, .int (nI pr), .int (nI pB), .int (nI pC), .int (nI pO), .int (nI n), .ref a0, .int (nI rn), .ref a1, .int (nI ct), .int fa, .int fl, .int (nI sk), .int (nI cm), .ref a2, .int cbf, .int (nI w), .ref a3, .int jo, .int gr, .ref a4, .long tt, .long tg])), (a0, .inl (cy 1, 64, .inl df)), (a1, .inl (cy 1, 80, .inl rf)), (a2, .inl (cy 1, 70, .inl tf)), (a3, .inl (cy 1, 10, .inl lf)), (a4, .inl (cy 2, 6, .inl bf))] := hD
  obtain rfl := hw
  refine lv_iload_n hx hb dX6_begin_20 rfl (lv_at hl 2 rfl) ?_
  refine lv_sipush (v := 256) hx hb dX6_begin_21 (by decide) ?_
  refine lv_irem hx hb dX6_begin_24 (by decide) ?_
  refine lv_topi (fun x_24 ex_24 => ?_)
  obtain rfl : x_24 = nI (d % 256) := by rw [ex_24]; exact pk_rem (by omega) (by decide) (by decide)
  have hPc := hP.sub (ws' := [(h0, .inr (7, [.int co0, .int (nI pr), .int (nI pB), .int (nI pC), .int (nI pO), .int (nI n), .ref a0, .int (nI rn), .ref a1, .int (nI ct), .int fa, .int fl, .int (nI sk), .int (nI cm), .ref a2, .int cbf, .int (nI w), .ref a3, .int jo, .int gr, .ref a4, .long tt, .long tg])), (a0, .inl (cy 1, 64, .inl df)), (a1, .inl (cy 1, 80, .inl rf)), (a2, .inl (cy 1, 70, .inl tf)), (a3, .inl (cy 1, 10, .inl lf)), (a4, .inl (cy 2, 6, .inl bf))]) [0, 1, 2, 3, 4, 5] rfl
  have hDc := hD.sub (ws' := [(h0, .inr (7, [.int co0, .int (nI pr), .int (nI pB), .int (nI pC), .int (nI pO), .int (nI n), .ref a0, .int (nI rn), .ref a1, .int (nI ct), .int fa, .int fl, .int (nI sk), .int (nI cm), .ref a2, .int cbf, .int (nI w), .ref a3, .int jo, .int gr, .ref a4, .long tt, .long tg])), (a0, .inl (cy 1, 64, .inl df)), (a1, .inl (cy 1, 80, .inl rf)), (a2, .inl (cy 1, 70, .inl tf)), (a3, .inl (cy 1, 10, .inl lf)), (a4, .inl (cy 2, 6, .inl bf))]) [0, 1, 2, 3, 4, 5] (by decide) rfl
  have hFc := va_free (wc := [(h0, .inr (7, [.int co0, .int (nI pr), .int (nI pB), .int (nI pC), .int (nI pO), .int (nI n), .ref a0, .int (nI rn), .ref a1, .int (nI ct), .int fa, .int fl, .int (nI sk), .int (nI cm), .ref a2, .int cbf, .int (nI w), .ref a3, .int jo, .int gr, .ref a4, .long tt, .long tg])), (a0, .inl (cy 1, 64, .inl df)), (a1, .inl (cy 1, 80, .inl rf)), (a2, .inl (cy 1, 70, .inl tf)), (a3, .inl (cy 1, 10, .inl lf)), (a4, .inl (cy 2, 6, .inl bf))]) hD hS hA [0, 1, 2, 3, 4, 5] rfl
  refine va_calll (va_runV (As := [.long (lN (co pB pS (d / 256) 8 pG)), .int (nI (d % 256))]) (rest := []) ⟨hx, hb, hml, hown, hts⟩ (c_X6_add l D cy H.size h0 a0 a1 a2 a3 a4 co0 pr pB pS pG pE pC pO n df rn rf ct fa fl sk cm tf cbf w lf jo gr bf tt tg (co pB pS (d / 256) 8 pG) (d % 256) (by first | assumption | omega) (co_lt hpv.2.1 8 _ hpv.2.2.1) (by omega)) (cwV 2 hts gX6_begin_X6_add rfl rfl rfl (by decide +kernel) ⟨Nat.le_of_ble_eq_true rfl, Nat.le_of_ble_eq_true rfl⟩) (pv_V (ci := 7) (q := (RX6, TX6, 23)) hkk hPc hDc rfl rfl rfl) rfl rfl hl.1 rfl (lv_room (Nat.le_of_ble_eq_true rfl)) dX6_begin_25 ⟨Nat.le_of_ble_eq_true rfl, Nat.le_of_ble_eq_true rfl⟩) hS (fun q _ h => hFc q h) hFc (fun r_25 u t H1 locs ht hvm hw hB hz1 hk1 hS => ?_)
  obtain ⟨hP1, hD1⟩ := hB
  rw [ht] at hP1
  try dsimp only at hw hP1 hD1
  obtain ⟨hP, hD⟩ := va_join (wr := []) (w1 := [(h0, .inr (7, [.int co0, .int (nI pr), .int (nI pB), .int (nI pC), .int (nI pO), .int (nI n), .ref a0, .int (nI rn), .ref a1, .int (nI ct), .int fa, .int fl, .int (nI sk), .int (nI cm), .ref a2, .int cbf, .int (nI w), .ref a3, .int jo, .int gr, .ref a4, .long tt, .long tg])), (a0, .inl (cy 1, 64, .inl df)), (a1, .inl (cy 1, 80, .inl rf)), (a2, .inl (cy 1, 70, .inl tf)), (a3, .inl (cy 1, 10, .inl lf)), (a4, .inl (cy 2, 6, .inl bf))]) hP hD [0, 1, 2, 3, 4, 5] [] rfl rfl (by decide) (by decide) hk1 hFc hP1 hD1
  clear hPc hDc hFc hP1 hD1 hz1 hk1
  generalize H1 = H at hP hS ⊢
  have hP : va_P D vwCl [(h0, .inr (7, [.int co0, .int (nI pr), .int (nI pB), .int (nI pC), .int (nI pO), .int (nI n), .ref a0, .int (nI rn), .ref a1, .int (nI ct), .int fa, .int fl, .int (nI sk), .int (nI cm), .ref a2, .int cbf, .int (nI w), .ref a3, .int jo, .int gr, .ref a4, .long tt, .long tg])), (a0, .inl (cy 1, 64, .inl df)), (a1, .inl (cy 1, 80, .inl rf)), (a2, .inl (cy 1, 70, .inl tf)), (a3, .inl (cy 1, 10, .inl lf)), (a4, .inl (cy 2, 6, .inl bf))] H := hP
  have hD : va_D A [(h0, .inr (7, [.int co0, .int (nI pr), .int (nI pB), .int (nI pC), .int (nI pO), .int (nI n), .ref a0, .int (nI rn), .ref a1, .int (nI ct), .int fa, .int fl, .int (nI sk), .int (nI cm), .ref a2, .int cbf, .int (nI w), .ref a3, .int jo, .int gr, .ref a4, .long tt, .long tg])), (a0, .inl (cy 1, 64, .inl df)), (a1, .inl (cy 1, 80, .inl rf)), (a2, .inl (cy 1, 70, .inl tf)), (a3, .inl (cy 1, 10, .inl lf)), (a4, .inl (cy 2, 6, .inl bf))] := hD
  obtain rfl := hw
  refine lv_topl (fun x_25 ex_25 => ?_)
  obtain rfl : x_25 = lN (co pB pS d 8 (co pB pS (d / 256) 8 pG)) := by rw [ex_25]; rw [co_mod 8 _ (by decide)]
  have hP9 := hP.sub (ws' := [(h0, .inr (7, [.int co0, .int (nI pr), .int (nI pB), .int (nI pC), .int (nI pO), .int (nI n), .ref a0, .int (nI rn), .ref a1, .int (nI ct), .int fa, .int fl, .int (nI sk), .int (nI cm), .ref a2, .int cbf, .int (nI w), .ref a3, .int jo, .int gr, .ref a4, .long tt, .long tg])), (a0, .inl (cy 1, 64, .inl df)), (a1, .inl (cy 1, 80, .inl rf)), (a2, .inl (cy 1, 70, .inl tf)), (a3, .inl (cy 1, 10, .inl lf)), (a4, .inl (cy 2, 6, .inl bf))]) [0, 1, 2, 3, 4, 5] rfl
  have hD9 := hD.sub (ws' := [(h0, .inr (7, [.int co0, .int (nI pr), .int (nI pB), .int (nI pC), .int (nI pO), .int (nI n), .ref a0, .int (nI rn), .ref a1, .int (nI ct), .int fa, .int fl, .int (nI sk), .int (nI cm), .ref a2, .int cbf, .int (nI w), .ref a3, .int jo, .int gr, .ref a4, .long tt, .long tg])), (a0, .inl (cy 1, 64, .inl df)), (a1, .inl (cy 1, 80, .inl rf)), (a2, .inl (cy 1, 70, .inl tf)), (a3, .inl (cy 1, 10, .inl lf)), (a4, .inl (cy 2, 6, .inl bf))]) [0, 1, 2, 3, 4, 5] (by decide) rfl
  exact W.lret (v := lN (co pB pS d 8 (co pB pS (d / 256) 8 pG))) hx hb hr (fun t ht hW => ⟨⟨lN (co pB pS d 8 (co pB pS (d / 256) 8 pG)), (), rfl, rfl, by rw [ht]; exact hP9, hD9⟩, hS.F ht⟩) hS.2.2 dX6_begin_28

theorem iw_X6_end_X6 : ∀ w ∈ wsX60, w ∈ wsX6_end := by decide +kernel
theorem lk_X6_end_f33 : (.fieldLink RX6 33 "DataGuardsModel" "profile" "I" : Cond) ∈ wsX6_end := by decide +kernel
theorem lk_X6_end_f36 : (.fieldLink RX6 36 "DataGuardsModel" "bits" "I" : Cond) ∈ wsX6_end := by decide +kernel
set_option maxHeartbeats 4000000 in
set_option maxRecDepth 100000 in
theorem c_X6_end (l : Launch) (D : va_G) (cy : Nat → ClassId) (sz : Nat) (h0 : Nat) (a0 : Nat) (a1 : Nat) (a2 : Nat) (a3 : Nat) (a4 : Nat) (co0 : Int32) (pr : Nat) (pB : Nat) (pS : Nat) (pG : Nat) (pE : Nat) (pC : Nat) (pO : Nat) (n : Nat) (df : Nat → Int32) (rn : Nat) (rf : Nat → Int32) (ct : Nat) (fa : Int32) (fl : Int32) (sk : Nat) (cm : Nat) (tf : Nat → Int32) (cbf : Int32) (w : Nat) (lf : Nat → Int32) (jo : Int32) (gr : Int32) (bf : Nat → Int32) (tt : Int64) (tg : Int64) (rg : Nat) (hmp : mpr pr pB pS pG pE pC pO) (hr1 : rg < 2 ^ pB) : Met l yX6_end wsX6_end ({ frames := 0, cells := 0, slots := 0, locals := 0 } : Room) (pre1 D cy [.ref h0, .long (lN rg)] [(h0, .inr (7, [.int co0, .int (nI pr), .int (nI pB), .int (nI pC), .int (nI pO), .int (nI n), .ref a0, .int (nI rn), .ref a1, .int (nI ct), .int fa, .int fl, .int (nI sk), .int (nI cm), .ref a2, .int cbf, .int (nI w), .ref a3, .int jo, .int gr, .ref a4, .long tt, .long tg])), (a0, .inl (cy 1, 64, .inl df)), (a1, .inl (cy 1, 80, .inl rf)), (a2, .inl (cy 1, 70, .inl tf)), (a3, .inl (cy 1, 10, .inl lf)), (a4, .inl (cy 2, 6, .inl bf))] sz) (va_Ql (fun (r : Int64) (u : Unit) => r = lN (rg ^^^ pE)) (fun u t => va_P D vwCl [(h0, .inr (7, [.int co0, .int (nI pr), .int (nI pB), .int (nI pC), .int (nI pO), .int (nI n), .ref a0, .int (nI rn), .ref a1, .int (nI ct), .int fa, .int fl, .int (nI sk), .int (nI cm), .ref a2, .int cbf, .int (nI w), .ref a3, .int jo, .int gr, .ref a4, .long tt, .long tg])), (a0, .inl (cy 1, 64, .inl df)), (a1, .inl (cy 1, 80, .inl rf)), (a2, .inl (cy 1, 70, .inl tf)), (a3, .inl (cy 1, 10, .inl lf)), (a4, .inl (cy 2, 6, .inl bf))] t.heap ∧ va_D (va_A [(h0, .inr (7, [.int co0, .int (nI pr), .int (nI pB), .int (nI pC), .int (nI pO), .int (nI n), .ref a0, .int (nI rn), .ref a1, .int (nI ct), .int fa, .int fl, .int (nI sk), .int (nI cm), .ref a2, .int cbf, .int (nI w), .ref a3, .int jo, .int gr, .ref a4, .long tt, .long tg])), (a0, .inl (cy 1, 64, .inl df)), (a1, .inl (cy 1, 80, .inl rf)), (a2, .inl (cy 1, 70, .inl tf)), (a3, .inl (cy 1, 10, .inl lf)), (a4, .inl (cy 2, 6, .inl bf))] sz) [(h0, .inr (7, [.int co0, .int (nI pr), .int (nI pB), .int (nI pC), .int (nI pO), .int (nI n), .ref a0, .int (nI rn), .ref a1, .int (nI ct), .int fa, .int fl, .int (nI sk), .int (nI cm), .ref a2, .int cbf, .int (nI w), .ref a3, .int jo, .int gr, .ref a4, .long tt, .long tg])), (a0, .inl (cy 1, 64, .inl df)), (a1, .inl (cy 1, 80, .inl rf)), (a2, .inl (cy 1, 70, .inl tf)), (a3, .inl (cy 1, 10, .inl lf)), (a4, .inl (cy 2, 6, .inl bf))]) (va_A [(h0, .inr (7, [.int co0, .int (nI pr), .int (nI pB), .int (nI pC), .int (nI pO), .int (nI n), .ref a0, .int (nI rn), .ref a1, .int (nI ct), .int fa, .int fl, .int (nI sk), .int (nI cm), .ref a2, .int cbf, .int (nI w), .ref a3, .int jo, .int gr, .ref a4, .long tt, .long tg])), (a0, .inl (cy 1, 64, .inl df)), (a1, .inl (cy 1, 80, .inl rf)), (a2, .inl (cy 1, 70, .inl tf)), (a3, .inl (cy 1, 10, .inl lf)), (a4, .inl (cy 2, 6, .inl bf))] sz)) 0 0 (va_A [(h0, .inr (7, [.int co0, .int (nI pr), .int (nI pB), .int (nI pC), .int (nI pO), .int (nI n), .ref a0, .int (nI rn), .ref a1, .int (nI ct), .int fa, .int fl, .int (nI sk), .int (nI cm), .ref a2, .int cbf, .int (nI w), .ref a3, .int jo, .int gr, .ref a4, .long tt, .long tg])), (a0, .inl (cy 1, 64, .inl df)), (a1, .inl (cy 1, 80, .inl rf)), (a2, .inl (cy 1, 70, .inl tf)), (a3, .inl (cy 1, 10, .inl lf)), (a4, .inl (cy 2, 6, .inl bf))] sz) := by
  refine Met.ofW (cc := cX6_end) (maxL := 3) (ret := (some .long)) (by decide) rfl ?_
  intro p e s m args below meth c s₁ B hml hv
  obtain ⟨rfl, hsz, hP, hkk, hD0⟩ := hv
  have hx := B.exec
  have hb := B.bytes
  have hr := B.returns
  have hts := atoms_spec (ws := wsX6_end) B.pre
  have hown : s.vm.findClass RX6 = some m.cls := findClass_of_methodNamed B.named
  have hlocks := B.notSynchronized
  have hin : meth.name = _ := (name_of_methodNamed B.named B.method).1
  have hK := hkk.1
  subst hsz
  have hD := hD0.self (sz := s.heap.size)
  generalize hAe : va_A [(h0, .inr (7, [.int co0, .int (nI pr), .int (nI pB), .int (nI pC), .int (nI pO), .int (nI n), .ref a0, .int (nI rn), .ref a1, .int (nI ct), .int fa, .int fl, .int (nI sk), .int (nI cm), .ref a2, .int cbf, .int (nI w), .ref a3, .int jo, .int gr, .ref a4, .long tt, .long tg])), (a0, .inl (cy 1, 64, .inl df)), (a1, .inl (cy 1, 80, .inl rf)), (a2, .inl (cy 1, 70, .inl tf)), (a3, .inl (cy 1, 10, .inl lf)), (a4, .inl (cy 2, 6, .inl bf))] s.heap.size = A at hD ⊢
  have hA : ∀ q : Nat, s.heap.size ≤ q → A q := fun q h => by rw [← hAe]; exact Or.inr h
  have hS : va_S A s.heap s.heap [] := va_S.rf
  have hP : va_P D vwCl [(h0, .inr (7, [.int co0, .int (nI pr), .int (nI pB), .int (nI pC), .int (nI pO), .int (nI n), .ref a0, .int (nI rn), .ref a1, .int (nI ct), .int fa, .int fl, .int (nI sk), .int (nI cm), .ref a2, .int cbf, .int (nI w), .ref a3, .int jo, .int gr, .ref a4, .long tt, .long tg])), (a0, .inl (cy 1, 64, .inl df)), (a1, .inl (cy 1, 80, .inl rf)), (a2, .inl (cy 1, 70, .inl tf)), (a3, .inl (cy 1, 10, .inl lf)), (a4, .inl (cy 2, 6, .inl bf))] s.heap := hP
  have hl := lv_entry ([.ref h0, .long (lN rg)]) (n := 3) (Nat.le_of_ble_eq_true rfl)
  rw [lg_entry_eq]
  generalize (lg_sl ([.ref h0, .long (lN rg)]) ++ List.replicate (3 - (lg_sl ([.ref h0, .long (lN rg)])).length) Slot.unset).toArray = ls at hl ⊢
  have hl : lv_has ls 3 [(0, .ref h0), (1, .long (lN rg))] := hl
  refine lv_aload_n hx hb dX6_end_0 rfl (lv_at hl 0 rfl) ?_
  refine va_get (D := D) (ci := 7) (v := .int (nI pr)) (C := RX6) (T := TX6) (N := 23) hx hb hts iw_X6_end_X6 hown hK hP 0 rfl rfl 1 (by decide) (hts _ lk_X6_end_f33) (fun _ h9 => h9) rfl dX6_end_1 ?_
  refine lv_iconst (v := 2) hx hb dX6_end_4 (by decide) ?_
  refine lv_icmp_ne (tgt := 12) hx hb dX6_end_5 (by decide) (fun c_5 => ?_) (fun c_5 => ?_)
  · refine lv_lconst (v := 1) hx hb dX6_end_12 (by decide) ?_
    refine lv_aload_n hx hb dX6_end_13 rfl (lv_at hl 0 rfl) ?_
    refine va_get (D := D) (ci := 7) (v := .int (nI pB)) (C := RX6) (T := TX6) (N := 23) hx hb hts iw_X6_end_X6 hown hK hP 0 rfl rfl 2 (by decide) (hts _ lk_X6_end_f36) (fun _ h9 => h9) rfl dX6_end_14 ?_
    refine lv_lshl (v := (1 : Int64) <<< ((nI pB).toInt64 &&& 63)) hx hb dX6_end_17 rfl ?_
    refine lv_lconst (v := 1) hx hb dX6_end_18 (by decide) ?_
    refine lv_lsub hx hb dX6_end_19 ?_
    refine lv_topl (fun x_19 ex_19 => ?_)
    obtain rfl : x_19 = lN pG := by rw [ex_19]; exact mp_all hmp
    refine lv_lload_n hx hb dX6_end_20 rfl (lv_at hl 1 rfl) ?_
    refine lv_lsub hx hb dX6_end_21 ?_
    have hP9 := hP.sub (ws' := [(h0, .inr (7, [.int co0, .int (nI pr), .int (nI pB), .int (nI pC), .int (nI pO), .int (nI n), .ref a0, .int (nI rn), .ref a1, .int (nI ct), .int fa, .int fl, .int (nI sk), .int (nI cm), .ref a2, .int cbf, .int (nI w), .ref a3, .int jo, .int gr, .ref a4, .long tt, .long tg])), (a0, .inl (cy 1, 64, .inl df)), (a1, .inl (cy 1, 80, .inl rf)), (a2, .inl (cy 1, 70, .inl tf)), (a3, .inl (cy 1, 10, .inl lf)), (a4, .inl (cy 2, 6, .inl bf))]) [0, 1, 2, 3, 4, 5] rfl
    have hD9 := hD.sub (ws' := [(h0, .inr (7, [.int co0, .int (nI pr), .int (nI pB), .int (nI pC), .int (nI pO), .int (nI n), .ref a0, .int (nI rn), .ref a1, .int (nI ct), .int fa, .int fl, .int (nI sk), .int (nI cm), .ref a2, .int cbf, .int (nI w), .ref a3, .int jo, .int gr, .ref a4, .long tt, .long tg])), (a0, .inl (cy 1, 64, .inl df)), (a1, .inl (cy 1, 80, .inl rf)), (a2, .inl (cy 1, 70, .inl tf)), (a3, .inl (cy 1, 10, .inl lf)), (a4, .inl (cy 2, 6, .inl bf))]) [0, 1, 2, 3, 4, 5] (by decide) rfl
    exact W.lret (v := (lN pG) - (lN rg)) hx hb hr (fun t ht hW => ⟨⟨(lN pG) - (lN rg), (), rfl, mp_e1 hmp hr1 c_5, by rw [ht]; exact hP9, hD9⟩, hS.F ht⟩) hS.2.2 dX6_end_22
  · refine lv_lload_n hx hb dX6_end_8 rfl (lv_at hl 1 rfl) ?_
    refine lv_goto (tgt := 22) hx hb dX6_end_9 (by decide) ?_
    have hP9 := hP.sub (ws' := [(h0, .inr (7, [.int co0, .int (nI pr), .int (nI pB), .int (nI pC), .int (nI pO), .int (nI n), .ref a0, .int (nI rn), .ref a1, .int (nI ct), .int fa, .int fl, .int (nI sk), .int (nI cm), .ref a2, .int cbf, .int (nI w), .ref a3, .int jo, .int gr, .ref a4, .long tt, .long tg])), (a0, .inl (cy 1, 64, .inl df)), (a1, .inl (cy 1, 80, .inl rf)), (a2, .inl (cy 1, 70, .inl tf)), (a3, .inl (cy 1, 10, .inl lf)), (a4, .inl (cy 2, 6, .inl bf))]) [0, 1, 2, 3, 4, 5] rfl
    have hD9 := hD.sub (ws' := [(h0, .inr (7, [.int co0, .int (nI pr), .int (nI pB), .int (nI pC), .int (nI pO), .int (nI n), .ref a0, .int (nI rn), .ref a1, .int (nI ct), .int fa, .int fl, .int (nI sk), .int (nI cm), .ref a2, .int cbf, .int (nI w), .ref a3, .int jo, .int gr, .ref a4, .long tt, .long tg])), (a0, .inl (cy 1, 64, .inl df)), (a1, .inl (cy 1, 80, .inl rf)), (a2, .inl (cy 1, 70, .inl tf)), (a3, .inl (cy 1, 10, .inl lf)), (a4, .inl (cy 2, 6, .inl bf))]) [0, 1, 2, 3, 4, 5] (by decide) rfl
    exact W.lret (v := lN rg) hx hb hr (fun t ht hW => ⟨⟨lN rg, (), rfl, mp_e2 hmp c_5, by rw [ht]; exact hP9, hD9⟩, hS.F ht⟩) hS.2.2 dX6_end_22
