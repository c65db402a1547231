/-! The law: its words, its cells. -/
set_option maxRecDepth 20000 in
theorem wsL_law_in : ∀ w ∈ wsL_law, w ∈ lw_tbl := by
  intro w h
  unfold wsL_law at h
  rcases List.mem_append.mp h with h | h
  · rcases List.mem_append.mp h with h | h
    · rcases List.mem_append.mp h with h | h
      · rcases List.mem_append.mp h with h | h
        · rcases List.mem_append.mp h with h | h
          · rcases List.mem_append.mp h with h | h
            · rcases List.mem_append.mp h with h | h
              · rcases List.mem_append.mp h with h | h
                · rcases List.mem_append.mp h with h | h
                  · rcases List.mem_append.mp h with h | h
                    · exact in_wsL_law_r1 w h
                    · rcases List.mem_append.mp h with h | h
                      · exact in_wsL_law_r2 w h
                      · rcases List.mem_append.mp h with h | h
                        · exact in_wsL_law_r3 w h
                        · rcases List.mem_append.mp h with h | h
                          · exact in_wsL_law_r4 w h
                          · rcases List.mem_append.mp h with h | h
                            · exact in_wsL_law_r5 w h
                            · rcases List.mem_append.mp h with h | h
                              · exact in_wsL_law_r6 w h
                              · rcases List.mem_append.mp h with h | h
                                · exact in_wsL_law_r7 w h
                                · rcases List.mem_append.mp h with h | h
                                  · exact in_wsL_law_r8 w h
                                  · rcases List.mem_append.mp h with h | h
                                    · exact in_wsL_law_r9 w h
                                    · rcases List.mem_append.mp h with h | h
                                      · exact in_wsL_law_r10 w h
                                      · rcases List.mem_append.mp h with h | h
                                        · exact in_wsL_law_r11 w h
                                        · rcases List.mem_append.mp h with h | h
                                          · exact in_wsL_law_r12 w h
                                          · rcases List.mem_append.mp h with h | h
                                            · exact in_wsL_law_r13 w h
                                            · rcases List.mem_append.mp h with h | h
                                              · exact in_wsL_law_r14 w h
                                              · rcases List.mem_append.mp h with h | h
                                                · exact in_wsL_law_r15 w h
                                                · rcases List.mem_append.mp h with h | h
                                                  · exact in_wsL_law_r16 w h
                                                  · exact in_wsL_law_r17 w h
                  · exact in_wsX50 w h
                · exact in_wsX60 w h
              · exact in_wsX40 w h
            · exact in_wsX30 w h
          · exact in_wsX00 w h
        · exact in_wsX20 w h
      · exact in_wsX10 w h
    · exact in_wsJx000600 w h
  · exact absurd h List.not_mem_nil
theorem hi_f_eq {hf lf : Nat → Int32} {w : Nat} {i : Int32} (hw : w ≤ 10) (h : ∀ j, j < w → lf j = hf j) : hi_f hf w i = hi_f lf w i := by
  unfold hi_f
  by_cases q : 0 ≤ i.toInt ∧ i.toInt < (w : Int)
  · rw [if_pos q, if_pos q]
    obtain ⟨j, hj, rfl⟩ := vp_in_of (vp_in_iff.mpr q) (by omega)
    rw [nI_clamp (by omega)]
    exact (h j hj).symm
  · rw [if_neg q, if_neg q]
def lout (i : Int32) (rn : Nat) (rf : Nat → Int32) (res : Int32) (o : Int64) : Prop := ((0 ≤ i.toInt ∧ i.toInt < (rn : Int)) ∧ res = 0 ∧ o = ((oc_get rf rn i).toInt8.toInt32).toInt64) ∨ (¬ (0 ≤ i.toInt ∧ i.toInt < (rn : Int)) ∧ res = 1)
theorem ou_rng {i : Int32} {rn : Nat} (hr : rn ≤ 70) : (¬ i < 0 ∧ i < nI rn) ↔ (0 ≤ i.toInt ∧ i.toInt < (rn : Int)) := by
  rw [Int32.lt_iff_toInt_lt, Int32.lt_iff_toInt_lt, nI_toInt (by omega)]
  simp
theorem sim_out {i k r2 co2 : Int32} {rn : Nat} {rf rm : Nat → Int32} {o : Int64} {g : Nat → Nat} (hr : rn ≤ 70) (hg1 : oc_is rf rn g) (hg2 : mo_is rm rn g) (h1 : lout i rn rf k o) (h2 : mout i rn rm r2 co2) : co2 = k ∧ (k = 0 → o = r2.toInt64) := by
  rcases h1 with ⟨a0, rfl, rfl⟩ | ⟨a0, rfl⟩ <;> rcases h2 with ⟨b0, rfl, rfl⟩ | ⟨b0, rfl, rfl⟩
  · refine ⟨rfl, fun _ => ?_⟩
    obtain ⟨j, hj, rfl⟩ := vp_in_of (vp_in_iff.mpr a0) (by omega)
    rw [oc_get_is hg1 hj hr, nI_clamp (by omega), (hg2 j hj).1]
  · exact absurd ((ou_rng hr).mpr a0) b0
  · exact absurd ((ou_rng hr).mp b0) a0
  · exact ⟨rfl, fun q => absurd q (by decide)⟩
theorem lw_j {L j : Nat} (hL : L ≤ 2049) (hj : j ≤ 3000) : Int32.ofNat L - 4 < nI j ↔ L < j + 4 := by
  show nI L - nI 4 < nI j ↔ _
  rw [Int32.lt_iff_toInt_lt, pk_sub_toInt (by omega) (by decide), nI_toInt (by omega)]
  omega
set_option maxHeartbeats 4000000 in
set_option maxRecDepth 100000 in
/-- cell(script, 0) -/
theorem c_L_cell (l : Launch) (b L : Nat) (xs : Nat → Int32) (hL : L ≤ 2049) : Met l yL_cell wsL_cell ({ frames := 0, cells := 0, slots := 0, locals := 0 } : Room) (va_Pc [.ref b, .int 0] (fun U => va_X b L xs U U.heap ∧ b < U.heap.size)) (QcRead (if 0 < L then xs 0 else 0)) 0 0 (fun _ => False) := by
  refine Met.ofW (cc := cL_cell) (maxL := 2) (ret := (some .int)) (by decide) rfl ?_
  intro p e s m args below meth c s₁ B hml hv
  obtain ⟨rfl, hX, hbl⟩ := hv
  have hx := B.exec
  have hb := B.bytes
  have hr := B.returns
  have hlocks := B.notSynchronized
  have hS : va_S (fun q : Nat => s.heap.size ≤ q) s.heap s.heap [] := va_S.rf
  have hbA : ¬ (fun q : Nat => s.heap.size ≤ q) b := Nat.not_le.mpr hbl
  have hl := lv_entry ([.ref b, .int 0]) (n := 2) (Nat.le_of_ble_eq_true rfl)
  rw [lg_entry_eq]
  generalize (lg_sl ([.ref b, .int 0]) ++ List.replicate (2 - (lg_sl ([.ref b, .int 0])).length) Slot.unset).toArray = ls at hl ⊢
  have hl : lv_has ls 2 [(0, .ref b), (1, .int 0)] := hl
  refine lv_iload_n hx hb dL_cell_0 rfl (lv_at hl 1 rfl) ?_
  refine lv_aload_n hx hb dL_cell_1 rfl (lv_at hl 0 rfl) ?_
  refine va_slen hx hb hX hbl hbA hS dL_cell_2 ?_
  refine lv_icmp_ge (tgt := 12) hx hb dL_cell_3 (by decide) (fun c_3 => ?_) (fun c_3 => ?_)
  · refine lv_iconst (v := 0) hx hb dL_cell_12 (by decide) ?_
    exact W.iret (v := 0) hx hb hr (fun t ht hW => ⟨by rw [if_neg (fun q => nI_nle q (by omega) c_3)], ht⟩) (fun q h => by cases h) dL_cell_13
  · have h0 : 0 < L := Nat.pos_of_ne_zero fun q => c_3 (by rw [q]; decide)
    refine lv_aload_n hx hb dL_cell_6 rfl (lv_at hl 0 rfl) ?_
    refine lv_iload_n hx hb dL_cell_7 rfl (lv_at hl 1 rfl) ?_
    refine va_sld hx hb hX hbl hbA hS (by rw [← nI_0]; exact vp_in_nI h0 (by omega)) dL_cell_8 ?_
    refine lv_goto (tgt := 13) hx hb dL_cell_9 (by decide) ?_
    exact W.iret (v := xs (0 : Int32).toNatClampNeg) hx hb hr (fun t ht hW => ⟨by rw [if_pos h0, sb_cl0], ht⟩) (fun q h => by cases h) dL_cell_13
