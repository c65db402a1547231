/-- which profile a number gives -/
def nmb (i v1 v2 v3 v4 v5 v6 : Int32) : Prop := (¬ i = 2 ∧ ¬ i = 3 ∧ v1 = 8 ∧ v2 = 29 ∧ v3 = 255 ∧ v4 = 255 ∧ v5 = 15 ∧ v6 = 1) ∨ (i = 2 ∧ v1 = 16 ∧ v2 = 4129 ∧ v3 = 65535 ∧ v4 = 0 ∧ v5 = 256 ∧ v6 = 1) ∨ (i = 3 ∧ v1 = 32 ∧ v2 = -189989101 ∧ v3 = -1 ∧ v4 = -1 ∧ v5 = 65536 ∧ v6 = 2)
