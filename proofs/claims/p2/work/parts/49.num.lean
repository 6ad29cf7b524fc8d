/-! two bytes as one number, over all of them -/
theorem num_ij : ∀ i j : Fin 256, ((((0 : Int64) <<< ((8 : Int32).toInt64 &&& 63)) ||| (nI i.val).toInt64) <<< ((8 : Int32).toInt64 &&& 63) ||| (nI j.val).toInt64).toInt32 = nI (256 * i.val + j.val) := by decide +kernel
