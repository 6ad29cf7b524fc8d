/-! two bytes put and read back, for every number below 65536 -/
theorem shr64 (a s : Int64) (k : Nat) (hs : (s.toBitVec.smod 64).toNat = k) : (a >>> s).toInt = a.toInt >>> k := by
  show (a.toBitVec.sshiftRight (s.toBitVec.smod 64).toNat).toInt = _
  rw [hs, BitVec.toInt_sshiftRight]
  rfl
theorem to32 {y : Int64} {r : Nat} (hr : r < 2 ^ 31) (hy : y.toInt = (r : Int)) : y.toInt32 = nI r := by
  apply Int32.toInt_inj.mp
  rw [Int64.toInt_toInt32, hy, nI_toInt hr]
  unfold Int.bmod
  simp only
  split <;> omega
theorem nI_and255 {q : Nat} (h : q < 2 ^ 31) : nI q &&& 255 = nI (q % 256) := by
  rw [pk_and (nI q) (m := 255) 8 (by decide), pk_tn (by omega)]
theorem mb2 {q : Nat} (hq : q < 65536) : mbyte (nI q).toInt64 2 0 = nI (q / 256) ∧ mbyte (nI q).toInt64 2 1 = nI (q % 256) := by
  have h0 : ((nI q).toInt64 >>> (((8 : Int32) * (nI 2 - 1 - nI 0)).toInt64 &&& 63)).toInt32 = nI (q / 256) := by
    refine to32 (by omega) ?_
    rw [shr64 _ _ 8 (by decide), Int32.toInt_toInt64, nI_toInt (by omega), Int.shiftRight_eq_div_pow]
    rfl
  have h1 : ((nI q).toInt64 >>> (((8 : Int32) * (nI 2 - 1 - nI 1)).toInt64 &&& 63)).toInt32 = nI q := by
    refine to32 (by omega) ?_
    rw [shr64 _ _ 0 (by decide), Int32.toInt_toInt64, nI_toInt (by omega), Int.shiftRight_eq_div_pow]
    omega
  constructor
  · show ((nI q).toInt64 >>> (((8 : Int32) * (nI 2 - 1 - nI 0)).toInt64 &&& 63)).toInt32 &&& 255 = _
    rw [h0, nI_and255 (by omega), show q / 256 % 256 = q / 256 by omega]
  · show ((nI q).toInt64 >>> (((8 : Int32) * (nI 2 - 1 - nI 1)).toInt64 &&& 63)).toInt32 &&& 255 = _
    rw [h1, nI_and255 (by omega)]
/-- a number of two bytes, put at a and read there -/
theorem put_num (f : Nat → Int32) (a q : Nat) (hq : q < 65536) : (mnum (mput f a (nI q).toInt64 2 2) a 2).toInt32 = nI q := by
  obtain ⟨h1, h2⟩ := mb2 hq
  have e1 : mput f a (nI q).toInt64 2 2 a = nI (q / 256) := by
    show upd (upd f (a + 0) (mbyte (nI q).toInt64 2 0)) (a + 1) (mbyte (nI q).toInt64 2 1) a = _
    rw [pk_un (by omega), Nat.add_zero, pk_us]; exact h1
  have e2 : mput f a (nI q).toInt64 2 2 (a + 1) = nI (q % 256) := by
    show upd (upd f (a + 0) (mbyte (nI q).toInt64 2 0)) (a + 1) (mbyte (nI q).toInt64 2 1) (a + 1) = _
    rw [pk_us]; exact h2
  rw [num2 (by omega) (by omega) e1 e2, show 256 * (q / 256) + q % 256 = q by omega]
