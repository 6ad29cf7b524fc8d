section
variable {Γ : gS} {τ : gW}
/-! four bytes as a number; the length that a right head tells -/
theorem shl64 (a s : Int64) (k : Nat) (hs : (s.toBitVec.smod 64).toNat = k) : (a <<< s).toBitVec.toNat = a.toBitVec.toNat * 2 ^ k % 2 ^ 64 := by
  show (a.toBitVec <<< (s.toBitVec.smod 64).toNat).toNat = _
  rw [hs, BitVec.toNat_shiftLeft, Nat.shiftLeft_eq]
theorem by64 : ∀ b : Fin 256, (nI b.val).toInt64.toBitVec.toNat = b.val := by decide +kernel
theorem mnum_s {f : Nat → Int32} {a k T b : Nat} (hT : (mnum f a k).toBitVec.toNat = T) (hT2 : T < 2 ^ 48) (hb : b < 256) (hf : f (a + k) = nI b) : (mnum f a (k + 1)).toBitVec.toNat = 256 * T + b := by
  show ((mnum f a k <<< ((8 : Int32).toInt64 &&& 63)) ||| (f (a + k)).toInt64).toBitVec.toNat = _
  rw [hf, Int64.toBitVec_or, BitVec.toNat_or, shl64 _ _ 8 (by decide), hT, by64 ⟨b, hb⟩, Nat.mod_eq_of_lt (by omega)]
  have e := Nat.shiftLeft_add_eq_or_of_lt (i := 8) (show b < 2 ^ 8 by omega) T
  rw [Nat.shiftLeft_eq] at e
  rw [← e]
  omega
theorem mnum4 {f : Nat → Int32} (h : DB f) {a : Nat} (ha : a + 4 ≤ 24032) : ∃ N : Nat, N < 2 ^ 32 ∧ (mnum f a 4).toInt = (N : Int) := by
  obtain ⟨b0, h0, e0⟩ := h (a + 0) (by omega)
  obtain ⟨b1, h1, e1⟩ := h (a + 1) (by omega)
  obtain ⟨b2, h2, e2⟩ := h (a + 2) (by omega)
  obtain ⟨b3, h3, e3⟩ := h (a + 3) (by omega)
  have t0 : (mnum f a 0).toBitVec.toNat = 0 := rfl
  have t1 := mnum_s t0 (by omega) h0 e0
  have t2 := mnum_s t1 (by omega) h1 e1
  have t3 := mnum_s t2 (by omega) h2 e2
  have t4 := mnum_s t3 (by omega) h3 e3
  refine ⟨256 * (256 * (256 * (256 * 0 + b0) + b1) + b2) + b3, by omega, ?_⟩
  show (mnum f a 4).toBitVec.toInt = _
  rw [BitVec.toInt_eq_toNat_of_lt (by rw [t4]; omega), t4]
def mhr (f : Nat → Int32) (a : Nat) : Int32 := if lg_cmp (mnum f (a + 8) 8) (msum f a 1 8) = 0 then (if 0 < lg_cmp (mnum f (a + 4) 4) 24000 then 0 else 1) else 0
theorem headlen {f : Nat → Int32} (h : DB f) {a : Nat} (ha : a + 8 ≤ 24032) (hm : ¬ mhr f a = 0) : ∃ len : Nat, len ≤ 24000 ∧ (mnum f (a + 4) 4).toInt32 = nI len := by
  obtain ⟨N, hN, eN⟩ := mnum4 h (a := a + 4) (by omega)
  have h1 : ¬ 0 < lg_cmp (mnum f (a + 4) 4) 24000 := by
    intro z
    apply hm
    unfold mhr
    rw [if_pos z]
    split <;> rfl
  have h2 : ¬ (24000 : Int64) < mnum f (a + 4) 4 := by
    intro z
    apply h1
    unfold lg_cmp
    rw [if_pos z]
    decide
  rw [Int64.lt_iff_toInt_lt, eN] at h2
  have h3 : ¬ (24000 : Int) < (N : Int) := h2
  refine ⟨N, by omega, to32 (by omega) eN⟩
set_option maxRecDepth 100000 in
set_option maxHeartbeats 400000 in
theorem m_isHead0 (S : gS) : gCt MX5_isHead (1, 27) 0 0 [.ref 28, .int 0] (wRf Γ τ S) (gN (wRf Γ τ) fun v S' => v = .int (mhr (S.2.1 29) 0) ∧ S = S') := by
  refine gCt.of (ls := [some (.ref 28), some (.int 0)]) 0 (by decide) rfl (Nat.le_of_ble_eq_true rfl) ?_
  refine g_aload_n dX5_isHead_0 rfl rfl ?_
  refine g_iload_n dX5_isHead_1 rfl rfl ?_
  refine g_bipush (v := 8) dX5_isHead_2 (by decide) ?_
  refine g_iadd dX5_isHead_4 ?_
  refine g_eqi (y := nI (0 + 8)) (rfl) ?_
  refine g_bipush (v := 8) dX5_isHead_5 (by decide) ?_
  refine cV2N (fun _ _ => rfl) dX5_isHead_7 mlX5_137 imX5_number seX5_number rfl rfl (m_number _ (0 + 8) 8 (by decide)) (by decide) (Nat.le_of_ble_eq_true rfl) (Nat.le_of_ble_eq_true rfl) (Nat.le_of_ble_eq_true rfl) ?_
  rintro _ _ ⟨rfl, rfl⟩
  refine g_aload_n dX5_isHead_10 rfl rfl ?_
  refine g_lconst (v := 1) dX5_isHead_11 (by decide) ?_
  refine g_iload_n dX5_isHead_12 rfl rfl ?_
  refine g_bipush (v := 8) dX5_isHead_13 (by decide) ?_
  refine cV3N (fun _ _ => rfl) dX5_isHead_15 mlX5_126 imX5_sum seX5_sum rfl rfl (m_sum _ _ 0 8 (by decide)) (by decide) (Nat.le_of_ble_eq_true rfl) (Nat.le_of_ble_eq_true rfl) (Nat.le_of_ble_eq_true rfl) ?_
  rintro _ _ ⟨rfl, rfl⟩
  refine g_lcmp dX5_isHead_18 ?_
  refine g_if_ne (tgt := 41) dX5_isHead_19 (by decide) (fun c19 => ?_) (fun c19 => ?_)
  · refine g_iconst (v := 0) dX5_isHead_41 (by decide) ?_
    refine g_zret dX5_isHead_42 rfl (by first | rfl | assumption) ⟨_, _, rfl, rfl, ?_⟩
    refine ⟨?_, rfl⟩
    unfold mhr
    first | rw [if_pos c19, if_pos c34] | rw [if_pos c19, if_neg c34] | rw [if_neg c19]
  · refine g_aload_n dX5_isHead_22 rfl rfl ?_
    refine g_iload_n dX5_isHead_23 rfl rfl ?_
    refine g_iconst (v := 4) dX5_isHead_24 (by decide) ?_
    refine g_iadd dX5_isHead_25 ?_
    refine g_eqi (y := nI (0 + 4)) (rfl) ?_
    refine g_iconst (v := 4) dX5_isHead_26 (by decide) ?_
    refine cV2N (fun _ _ => rfl) dX5_isHead_27 mlX5_137 imX5_number seX5_number rfl rfl (m_number _ (0 + 4) 4 (by decide)) (by decide) (Nat.le_of_ble_eq_true rfl) (Nat.le_of_ble_eq_true rfl) (Nat.le_of_ble_eq_true rfl) ?_
    rintro _ _ ⟨rfl, rfl⟩
    refine g_ldc2 dX5_isHead_30 coX5_188 ?_
    refine g_lcmp dX5_isHead_33 ?_
    refine g_if_gt (tgt := 41) dX5_isHead_34 (by decide) (fun c34 => ?_) (fun c34 => ?_)
    · refine g_iconst (v := 0) dX5_isHead_41 (by decide) ?_
      refine g_zret dX5_isHead_42 rfl (by first | rfl | assumption) ⟨_, _, rfl, rfl, ?_⟩
      refine ⟨?_, rfl⟩
      unfold mhr
      first | rw [if_pos c19, if_pos c34] | rw [if_pos c19, if_neg c34] | rw [if_neg c19]
    · refine g_iconst (v := 1) dX5_isHead_37 (by decide) ?_
      refine g_goto (tgt := 42) dX5_isHead_38 (by decide) ?_
      refine g_zret dX5_isHead_42 rfl (by first | rfl | assumption) ⟨_, _, rfl, rfl, ?_⟩
      refine ⟨?_, rfl⟩
      unfold mhr
      first | rw [if_pos c19, if_pos c34] | rw [if_pos c19, if_neg c34] | rw [if_neg c19]
set_option maxRecDepth 100000 in
set_option maxHeartbeats 400000 in
theorem m_isHead16 (S : gS) : gCt MX5_isHead (1, 27) 0 0 [.ref 28, .int 16] (wRf Γ τ S) (gN (wRf Γ τ) fun v S' => v = .int (mhr (S.2.1 29) 16) ∧ S = S') := by
  refine gCt.of (ls := [some (.ref 28), some (.int 16)]) 0 (by decide) rfl (Nat.le_of_ble_eq_true rfl) ?_
  refine g_aload_n dX5_isHead_0 rfl rfl ?_
  refine g_iload_n dX5_isHead_1 rfl rfl ?_
  refine g_bipush (v := 8) dX5_isHead_2 (by decide) ?_
  refine g_iadd dX5_isHead_4 ?_
  refine g_eqi (y := nI (16 + 8)) (rfl) ?_
  refine g_bipush (v := 8) dX5_isHead_5 (by decide) ?_
  refine cV2N (fun _ _ => rfl) dX5_isHead_7 mlX5_137 imX5_number seX5_number rfl rfl (m_number _ (16 + 8) 8 (by decide)) (by decide) (Nat.le_of_ble_eq_true rfl) (Nat.le_of_ble_eq_true rfl) (Nat.le_of_ble_eq_true rfl) ?_
  rintro _ _ ⟨rfl, rfl⟩
  refine g_aload_n dX5_isHead_10 rfl rfl ?_
  refine g_lconst (v := 1) dX5_isHead_11 (by decide) ?_
  refine g_iload_n dX5_isHead_12 rfl rfl ?_
  refine g_bipush (v := 8) dX5_isHead_13 (by decide) ?_
  refine cV3N (fun _ _ => rfl) dX5_isHead_15 mlX5_126 imX5_sum seX5_sum rfl rfl (m_sum _ _ 16 8 (by decide)) (by decide) (Nat.le_of_ble_eq_true rfl) (Nat.le_of_ble_eq_true rfl) (Nat.le_of_ble_eq_true rfl) ?_
  rintro _ _ ⟨rfl, rfl⟩
  refine g_lcmp dX5_isHead_18 ?_
  refine g_if_ne (tgt := 41) dX5_isHead_19 (by decide) (fun c19 => ?_) (fun c19 => ?_)
  · refine g_iconst (v := 0) dX5_isHead_41 (by decide) ?_
    refine g_zret dX5_isHead_42 rfl (by first | rfl | assumption) ⟨_, _, rfl, rfl, ?_⟩
    refine ⟨?_, rfl⟩
    unfold mhr
    first | rw [if_pos c19, if_pos c34] | rw [if_pos c19, if_neg c34] | rw [if_neg c19]
  · refine g_aload_n dX5_isHead_22 rfl rfl ?_
    refine g_iload_n dX5_isHead_23 rfl rfl ?_
    refine g_iconst (v := 4) dX5_isHead_24 (by decide) ?_
    refine g_iadd dX5_isHead_25 ?_
    refine g_eqi (y := nI (16 + 4)) (rfl) ?_
    refine g_iconst (v := 4) dX5_isHead_26 (by decide) ?_
    refine cV2N (fun _ _ => rfl) dX5_isHead_27 mlX5_137 imX5_number seX5_number rfl rfl (m_number _ (16 + 4) 4 (by decide)) (by decide) (Nat.le_of_ble_eq_true rfl) (Nat.le_of_ble_eq_true rfl) (Nat.le_of_ble_eq_true rfl) ?_
    rintro _ _ ⟨rfl, rfl⟩
    refine g_ldc2 dX5_isHead_30 coX5_188 ?_
    refine g_lcmp dX5_isHead_33 ?_
    refine g_if_gt (tgt := 41) dX5_isHead_34 (by decide) (fun c34 => ?_) (fun c34 => ?_)
    · refine g_iconst (v := 0) dX5_isHead_41 (by decide) ?_
      refine g_zret dX5_isHead_42 rfl (by first | rfl | assumption) ⟨_, _, rfl, rfl, ?_⟩
      refine ⟨?_, rfl⟩
      unfold mhr
      first | rw [if_pos c19, if_pos c34] | rw [if_pos c19, if_neg c34] | rw [if_neg c19]
    · refine g_iconst (v := 1) dX5_isHead_37 (by decide) ?_
      refine g_goto (tgt := 42) dX5_isHead_38 (by decide) ?_
      refine g_zret dX5_isHead_42 rfl (by first | rfl | assumption) ⟨_, _, rfl, rfl, ?_⟩
      refine ⟨?_, rfl⟩
      unfold mhr
      first | rw [if_pos c19, if_pos c34] | rw [if_pos c19, if_neg c34] | rw [if_neg c19]
theorem n_take (S : gS) (w L V n c rm len sz : Nat) (h : R0 S w L V n c rm) (hl : len ≤ 24000) (k : TK S L V n len sz) : gCt MX5_take (1, 25) 0 0 [.ref 28, .int (nI (32 + L)), .int (nI sz)] (wRf Γ τ S) (g0 (wRf Γ τ) fun S' => (∃ V' n' c' : Nat, R0 S' w (L + 12 + sz) V' n' c' rm) ∧ S'.1 28 3 = S.1 28 3 ∧ S'.1 28 10 = S.1 28 10 + 1 ∧ ∀ k, 39 ≤ k → S'.2.1 k = S.2.1 k) := by
  obtain ⟨k1, k2, k3⟩ := k
  rcases k3 with ⟨e, rfl⟩ | ⟨e, rfl, b, hb, eb⟩ | ⟨e, rfl, hn⟩ | ⟨e, rfl, q, hq, eq⟩ | ⟨e, rfl, hV, hs⟩
  · obtain ⟨q, hq, eq⟩ := num16 h.2.2.2.1 (a := 32 + L + 1) (by omega)
    have hc := h.2.1.2.2.2.2.1
    refine (n_take1 S w L V n c rm h (by omega) (by omega) q e eq hq).mono ?_
    rintro r9 w9 ⟨S', e1, e2, e3, -, -, e5, e4, e6⟩
    exact ⟨S', e1, e2, ⟨V, n, c + 1, e3⟩, e4, e6, fun k hk => e5 k (by omega)⟩
  · refine (n_take2 S w L V n c rm h (by omega) b e eb hb).mono ?_
    rintro r9 w9 ⟨S', e1, e2, e3, e4⟩
    exact ⟨S', e1, e2, ⟨V, n, c, e3⟩, e4⟩
  · refine (n_take4 S w L V n c rm h (by omega) hn e).mono ?_
    rintro r9 w9 ⟨S', e1, e2, e3, e4⟩
    exact ⟨S', e1, e2, ⟨V, n + 1, c, e3⟩, e4⟩
  · refine (n_take5 S w L V n c rm h (by omega) q e eq hq).mono ?_
    rintro r9 w9 ⟨S', e1, e2, e3, e4⟩
    exact ⟨S', e1, e2, ⟨V, n, c, e3⟩, e4⟩
  · refine (n_take3 S w L V n c rm h (by omega) hV e hs).mono ?_
    rintro r9 w9 ⟨S', e1, e2, e3, e4⟩
    exact ⟨S', e1, e2, ⟨V + 1, n, c, e3⟩, e4⟩
end
