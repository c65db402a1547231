theorem oc_aa_step {f f1 g : Nat → Int32} {n k m : Nat} (h : ∀ j, j < k → f1 (n + j) = (oc_get g m (nI j)).toInt8.toInt32) : ∀ j, j < k + 1 → upd f1 (n + k) (oc_get g m (nI k)).toInt8.toInt32 (n + j) = (oc_get g m (nI j)).toInt8.toInt32 := by
  intro j hj
  by_cases e : j = k
  · subst e; exact pk_us
  · rw [pk_un (by omega)]; exact h j (by omega)
theorem oc_an_step {f1 : Nat → Int32} {n k m q : Nat} {x : Int32} (hq : q + 1 + k = m) (h : ∀ j, j < k → f1 (n + j) = (oc_dig x (m - 1 - j)).toInt8.toInt32) : ∀ j, j < k + 1 → upd f1 (n + k) (oc_dig x q).toInt8.toInt32 (n + j) = (oc_dig x (m - 1 - j)).toInt8.toInt32 := by
  intro j hj
  by_cases e : j = k
  · subst e; rw [pk_us, show m - 1 - j = q by omega]
  · rw [pk_un (by omega)]; exact h j (by omega)
