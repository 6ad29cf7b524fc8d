abbrev gup : List String := ["java/lang/RuntimeException", "java/lang/Exception"]
theorem th_229 : ∀ x ∈ vx_atS RX4 229 gIS gup, x ∈ gT ∨ x = .castable gIS gIS := by decide +kernel
theorem th_170 : ∀ x ∈ vx_atS RX4 170 gIO gup, x ∈ gT ∨ x = .castable gIO gIO := by decide +kernel
theorem th_41 : ∀ x ∈ vx_atS RX4 41 gNA gup, x ∈ gT ∨ x = .castable gNA gNA := by decide +kernel
theorem th_49 : ∀ x ∈ vx_atS RX4 49 gIA gup, x ∈ gT ∨ x = .castable gIA gIA := by decide +kernel
theorem to_229 : ∀ x ∈ Cond.classLink RX4 225 gIS :: Cond.initialized gIS :: vx_atS RX4 229 gIS gup, vx_ot x = true := by decide +kernel
theorem to_170 : ∀ x ∈ Cond.classLink RX4 166 gIO :: Cond.initialized gIO :: vx_atS RX4 170 gIO gup, vx_ot x = true := by decide +kernel
theorem to_41 : ∀ x ∈ Cond.classLink RX4 37 gNA :: Cond.initialized gNA :: vx_atS RX4 41 gNA gup, vx_ot x = true := by decide +kernel
theorem to_49 : ∀ x ∈ Cond.classLink RX4 45 gIA :: Cond.initialized gIA :: vx_atS RX4 49 gIA gup, vx_ot x = true := by decide +kernel
theorem fit_n : ∀ n ∈ gup, Bundle.fit n = true := by decide +kernel
theorem fit_1 : Bundle.fit gIS = true := by decide +kernel
theorem fit_2 : Bundle.fit gIO = true := by decide +kernel
theorem fit_3 : Bundle.fit gNA = true := by decide +kernel
theorem fit_4 : Bundle.fit gIA = true := by decide +kernel
