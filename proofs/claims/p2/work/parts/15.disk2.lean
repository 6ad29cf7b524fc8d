section
variable {τ : gW}
/-- bytes written from the highest of j on -/
def dbyte (v : Int64) (j : Nat) : Int32 := (v.toUInt64 >>> (((8 : Int32) * nI j).toInt64.toUInt64 &&& Int64.toUInt64 63)).toInt64.toInt32 &&& 255
def dwrs (v : Int64) : Nat → gS → gS
  | 0, S => S
  | j + 1, S => dwrs v j (dwr S (dbyte v j))
def dnum (S : gS) (x : Int32) : Nat → Int64
  | 0 => 0
  | j + 1 => (dnum S x j <<< ((8 : Int32).toInt64 &&& 63)) ||| (dget S (x + nI j)).toInt64
def dmix (s : Int64) (b : Int32) : Int64 :=
  let m := s ^^^ (b &&& 255).toInt64
  ((m <<< ((29 : Int32).toInt64 &&& 63)) ||| (m.toUInt64 >>> ((35 : Int32).toInt64.toUInt64 &&& Int64.toUInt64 63)).toInt64) * (-4417276706812531889)
def dsum (S : gS) (e : Int32) : Nat → Int32 → Int64 → Int64
  | 0, _, s => s
  | f + 1, x, s => if e ≤ x then s else dsum S e f (x + 1) (dmix s (S.2.1 2 x.toNatClampNeg))
theorem mS_same (S : gS) (k j : Nat) (v : Int32) : (mS S k j v).1 k j = v := by simp [mS]
theorem mS_ne {S : gS} {k j a b : Nat} {v : Int32} (h : ¬ (a = k ∧ b = j)) : (mS S k j v).1 a b = S.1 a b := by
  simp only [mS]
  by_cases h1 : a = k
  · subst h1; simp; intro h2; exact absurd ⟨rfl, h2⟩ h
  · simp [h1]
theorem dset_1 (S : gS) (x v : Int32) : (dset S x v).1 = S.1 := by
  unfold dset; split; · rfl
  split <;> rfl
theorem pos_1 {x : Int32} (h0 : ¬ x < 0) (h : ¬ Int32.ofNat 32192 ≤ x) : ¬ x + 1 < 0 := by
  obtain ⟨j, hj, rfl, e, -⟩ := pk_mu h0 h (by decide)
  rw [e]; exact nI_pos (by omega)
theorem dwr_pos {S : gS} (v : Int32) (h0 : ¬ S.1 1 2 < 0) : ¬ (dwr S v).1 1 2 < 0 := by
  unfold dwr
  simp only
  rw [mS_ne (by decide), dset_1]
  split
  · exact h0
  · rename_i h; rw [mS_same]; exact pos_1 h0 h
theorem dwrs_pos (v : Int64) : ∀ (j : Nat) {S : gS}, ¬ S.1 1 2 < 0 → ¬ (dwrs v j S).1 1 2 < 0 := by
  intro j
  induction j with
  | zero => intro S h; exact h
  | succ j ih => intro S h; exact ih (dwr_pos _ h)
set_option maxRecDepth 100000 in
set_option maxHeartbeats 4000000 in
theorem l_write (v : Int64) (c : Int32) : ∀ (j : Nat), j < 2 ^ 31 → ∀ (S : gS), ¬ S.1 1 2 < 0 → G MX1_write (2, 61) 5 [some (.ref 1), some (.long v), none, some (.int c), some (.int (nI j - 1))] [] (wOf τ S) 0 0 (g0 (wOf τ) fun S' => S' = dwrs v j S) := by
  intro j
  induction j with
  | zero =>
    intro hj S h0
    refine g_iload dX1_write_5 rfl ?_
    refine g_if_lt (tgt := 32) dX1_write_7 (by decide) (fun c7 => ?_) (fun c7 => ?_)
    · refine g_vret dX1_write_32 rfl ⟨_, rfl, rfl, ?_⟩
      rfl
    · exact absurd (show nI 0 - 1 < 0 by decide) c7
  | succ j ih =>
    intro hj S h0
    rw [nI_pred]
    refine g_iload dX1_write_5 rfl ?_
    refine g_if_lt (tgt := 32) dX1_write_7 (by decide) (fun c7 => ?_) (fun c7 => ?_)
    · exact absurd c7 (nI_pos (by omega))
    · refine g_aload_n dX1_write_10 rfl rfl ?_
      refine g_lload_n dX1_write_11 rfl rfl ?_
      refine g_bipush (v := 8) dX1_write_12 (by decide) ?_
      refine g_iload dX1_write_14 rfl ?_
      refine g_imul dX1_write_16 ?_
      refine g_lushr dX1_write_17 ?_
      refine g_l2i dX1_write_18 ?_
      refine g_sipush (v := 255) dX1_write_19 (by decide) ?_
      refine g_iand dX1_write_22 ?_
      refine cV10 (fun _ _ => rfl) dX1_write_23 mlX1_36 imX1_writeByte seX1_writeByte rfl rfl (c_writeByte _ _ h0) (by decide) (Nat.le_of_ble_eq_true rfl) (Nat.le_of_ble_eq_true rfl) (Nat.le_of_ble_eq_true rfl) ?_
      rintro _ rfl
      refine g_iinc dX1_write_26 rfl (by decide) (gi_m _) ?_
      refine g_goto (tgt := 5) dX1_write_29 (by decide) ?_
      exact ih (by omega) _ (dwr_pos _ h0)
set_option maxRecDepth 100000 in
set_option maxHeartbeats 4000000 in
theorem c_write (S : gS) (v : Int64) (j : Nat) (hj : j < 2 ^ 31) (h0 : ¬ S.1 1 2 < 0) : gCt MX1_write (2, 61) 0 0 [.ref 1, .long v, .int (nI j)] (wOf τ S) (g0 (wOf τ) fun S' => S' = dwrs v j S) := by
  refine gCt.of (ls := [some (.ref 1), some (.long v), none, some (.int (nI j)), none]) 1 (by decide) rfl (Nat.le_of_ble_eq_true rfl) ?_
  refine g_iload_n dX1_write_0 rfl rfl ?_
  refine g_iconst (v := 1) dX1_write_1 (by decide) ?_
  refine g_isub dX1_write_2 ?_
  refine g_istore dX1_write_3 (by decide) ?_
  exact l_write v (nI j) j hj S h0
set_option maxRecDepth 100000 in
set_option maxHeartbeats 4000000 in
theorem l_number (S : gS) (x : Int32) (n : Nat) (hn : n < 2 ^ 31) : ∀ (m i : Nat), i + m = n → G MX1_number (1, 40) 5 [some (.ref 1), some (.int x), some (.int (nI n)), some (.long (dnum S x i)), none, some (.int (nI i))] [] (wOf τ S) 0 0 (gN (wOf τ) fun v S' => v = .long (dnum S x n) ∧ S = S') := by
  intro m
  induction m with
  | zero =>
    intro i hi
    obtain rfl : i = n := by omega
    refine g_iload dX1_number_5 rfl ?_
    refine g_iload_n dX1_number_7 rfl rfl ?_
    refine g_icmp_ge (tgt := 32) dX1_number_8 (by decide) (fun c8 => ?_) (fun c8 => ?_)
    · refine g_lload_n dX1_number_32 rfl rfl ?_
      refine g_lret dX1_number_33 rfl ⟨_, _, rfl, rfl, ?_⟩
      exact ⟨rfl, rfl⟩
    · exact absurd (nI_le (Nat.le_refl _) hn) c8
  | succ m ih =>
    intro i hi
    refine g_iload dX1_number_5 rfl ?_
    refine g_iload_n dX1_number_7 rfl rfl ?_
    refine g_icmp_ge (tgt := 32) dX1_number_8 (by decide) (fun c8 => ?_) (fun c8 => ?_)
    · exact absurd c8 (nI_ge (by omega) hn)
    · refine g_lload_n dX1_number_11 rfl rfl ?_
      refine g_bipush (v := 8) dX1_number_12 (by decide) ?_
      refine g_lshl dX1_number_14 ?_
      refine g_aload_n dX1_number_15 rfl rfl ?_
      refine g_iload_n dX1_number_16 rfl rfl ?_
      refine g_iload dX1_number_17 rfl ?_
      refine g_iadd dX1_number_19 ?_
      refine cV1N (fun _ _ => rfl) dX1_number_20 mlX1_32 imX1_get seX1_get rfl rfl (c_get _ _) (by decide) (Nat.le_of_ble_eq_true rfl) (Nat.le_of_ble_eq_true rfl) (Nat.le_of_ble_eq_true rfl) ?_
      rintro _ _ ⟨rfl, rfl⟩
      refine g_i2l dX1_number_23 ?_
      refine g_lor dX1_number_24 ?_
      refine g_lstore_n dX1_number_25 rfl (by decide) ?_
      refine g_iinc dX1_number_26 rfl (by decide) (by first | exact gi_1 _ | exact gi_p _) ?_
      refine g_goto (tgt := 5) dX1_number_29 (by decide) ?_
      exact ih (i + 1) (by omega)
set_option maxRecDepth 100000 in
set_option maxHeartbeats 4000000 in
theorem c_number (S : gS) (x : Int32) (n : Nat) (hn : n < 2 ^ 31) : gCt MX1_number (1, 40) 0 0 [.ref 1, .int x, .int (nI n)] (wOf τ S) (gN (wOf τ) fun v S' => v = .long (dnum S x n) ∧ S = S') := by
  refine gCt.of (ls := [some (.ref 1), some (.int x), some (.int (nI n)), none, none, none]) 3 (by decide) rfl (Nat.le_of_ble_eq_true rfl) ?_
  refine g_lconst (v := 0) dX1_number_0 (by decide) ?_
  refine g_lstore_n dX1_number_1 rfl (by decide) ?_
  refine g_iconst (v := 0) dX1_number_2 (by decide) ?_
  refine g_istore dX1_number_3 (by decide) ?_
  exact l_number S x n hn n 0 (by omega)
theorem min_le (a b : Int32) : (if b < a then b else a) ≤ b := by
  split
  · exact Int32.le_refl _
  · rename_i h; exact Int32.not_lt.mp h
theorem max_pos (a : Int32) : ¬ (if a < 0 then 0 else a) < 0 := by
  split
  · decide
  · rename_i h; exact h
theorem nI_of0 {x : Int32} (h : ¬ x < 0) : ∃ j : Nat, j < 2 ^ 31 ∧ x = nI j := nI_of h
set_option maxRecDepth 100000 in
set_option maxHeartbeats 4000000 in
theorem lp_sum (S : gS) (e fr to : Int32) (s0 : Int64) (he : e ≤ Int32.ofNat 24032) : ∀ (f : Nat) (x : Int32) (s : Int64) (l9 : Option Value), ¬ x < 0 → 24032 < x.toNatClampNeg + f → G MX1_sum (1, 40) 21 [some (.ref 1), some (.int fr), some (.int to), some (.long s0), none, some (.long s), none, some (.int e), some (.int x), l9, none] [] (wOf τ S) 0 0 (gN (wOf τ) fun v S' => v = .long (dsum S e f x s) ∧ S = S') := by
  intro f
  induction f with
  | zero =>
    intro x s l9 h0 hf
    obtain ⟨j, hj, rfl⟩ := nI_of h0
    rw [nI_clamp hj] at hf
    have hle : e ≤ nI j := Int32.le_trans he (nI_le (by omega) hj)
    refine g_iload dX1_sum_21 rfl ?_
    refine g_iload dX1_sum_23 rfl ?_
    refine g_icmp_ge (tgt := 68) dX1_sum_25 (by decide) (fun c25 => ?_) (fun c25 => ?_)
    · refine g_lload dX1_sum_68 rfl ?_
      refine g_lret dX1_sum_70 rfl ⟨_, _, rfl, rfl, ?_⟩
      exact ⟨rfl, rfl⟩
    · exact absurd hle c25
  | succ f ih =>
    intro x s l9 h0 hf
    obtain ⟨j, hj, rfl⟩ := nI_of h0
    rw [nI_clamp hj] at hf
    refine g_iload dX1_sum_21 rfl ?_
    refine g_iload dX1_sum_23 rfl ?_
    refine g_icmp_ge (tgt := 68) dX1_sum_25 (by decide) (fun c25 => ?_) (fun c25 => ?_)
    · refine g_lload dX1_sum_68 rfl ?_
      refine g_lret dX1_sum_70 rfl ⟨_, _, rfl, rfl, ?_⟩
      exact ⟨by rw [dsum, if_pos c25], rfl⟩
    · refine g_lload dX1_sum_28 rfl ?_
      refine g_aload_n dX1_sum_30 rfl rfl ?_
      refine g_get dX1_sum_31 flX1_9 rfl rfl ?_
      refine g_iload dX1_sum_34 rfl ?_
      refine g_bald dX1_sum_36 rfl (vin (by decide) h0 (fun z => c25 (Int32.le_trans he z))) ?_
      refine g_sipush (v := 255) dX1_sum_37 (by decide) ?_
      refine g_iand dX1_sum_40 ?_
      refine g_i2l dX1_sum_41 ?_
      refine g_lxor dX1_sum_42 ?_
      refine g_lstore dX1_sum_43 (by decide) ?_
      refine g_lload dX1_sum_45 rfl ?_
      refine g_bipush (v := 29) dX1_sum_47 (by decide) ?_
      refine g_lshl dX1_sum_49 ?_
      refine g_lload dX1_sum_50 rfl ?_
      refine g_bipush (v := 35) dX1_sum_52 (by decide) ?_
      refine g_lushr dX1_sum_54 ?_
      refine g_lor dX1_sum_55 ?_
      refine g_ldc2 dX1_sum_56 coX1_53 ?_
      refine g_lmul dX1_sum_59 ?_
      refine g_lstore dX1_sum_60 (by decide) ?_
      refine g_iinc dX1_sum_62 rfl (by decide) (by first | exact gi_1 _ | exact gi_p _) ?_
      refine g_goto (tgt := 21) dX1_sum_65 (by decide) ?_
      have hj2 : j < 24032 := by
        rcases Nat.lt_or_ge j 24032 with q | q
        · exact q
        · exact absurd (Int32.le_trans he (nI_le q hj)) c25
      have K := ih (nI (j + 1)) (dmix s (S.2.1 2 (nI j).toNatClampNeg)) (some (.long (s ^^^ (S.2.1 2 (nI j).toNatClampNeg &&& 255).toInt64))) (nI_pos (by omega)) (by rw [nI_clamp (by omega)]; omega)
      refine GE.mono ?_ K
      rintro r w ⟨v, S', h1, h2, h3, h4⟩
      refine ⟨v, S', h1, h2, ?_, h4⟩
      rw [h3, dsum, if_neg c25, nI_1]
set_option maxRecDepth 100000 in
set_option maxHeartbeats 4000000 in
theorem c_sum (S : gS) (fr to : Int32) (s0 : Int64) : gCt MX1_sum (1, 40) 0 0 [.ref 1, .int fr, .int to, .long s0] (wOf τ S) (gN (wOf τ) fun v S' => v = .long (dsum S (if Int32.ofNat 24032 < to then Int32.ofNat 24032 else to) 24033 (if fr < 0 then 0 else fr) s0) ∧ S = S') := by
  refine gCt.of (ls := [some (.ref 1), some (.int fr), some (.int to), some (.long s0), none, none, none, none, none, none, none]) 6 (by decide) rfl (Nat.le_of_ble_eq_true rfl) ?_
  refine g_lload_n dX1_sum_0 rfl rfl ?_
  refine g_lstore dX1_sum_1 (by decide) ?_
  refine g_iload_n dX1_sum_3 rfl rfl ?_
  refine g_aload_n dX1_sum_4 rfl rfl ?_
  refine g_get dX1_sum_5 flX1_9 rfl rfl ?_
  refine g_alen dX1_sum_8 rfl (fun _ => rfl) ?_
  refine g_mmin dX1_sum_9 mlX1_44 isJ9_min_7cf53 ⟨by decide, Nat.le_of_ble_eq_true rfl⟩ mkX1_44 ?_
  refine g_istore dX1_sum_12 (by decide) ?_
  refine g_iload_n dX1_sum_14 rfl rfl ?_
  refine g_iconst (v := 0) dX1_sum_15 (by decide) ?_
  refine g_mmax dX1_sum_16 mlX1_50 isJ9_max_7cf53 ⟨by decide, Nat.le_of_ble_eq_true rfl⟩ mkX1_50 ?_
  refine g_istore dX1_sum_19 (by decide) ?_
  exact lp_sum S _ fr to s0 (min_le _ _) 24033 _ s0 none (max_pos _) (by omega)
def dback : Nat → gS → gS
  | 0, S => S
  | n + 1, S => if S.1 1 2 ≤ 0 then S else if Int32.ofNat 32192 < S.1 1 2 then S else
    let S1 := mS S 1 2 (S.1 1 2 - 1)
    dback n (dset S1 ((S1.2.1 3 (S1.1 1 2).toNatClampNeg).toUInt32 >>> ((8 : Int32).toUInt32 &&& Int32.toUInt32 31)).toInt32 (S1.2.1 3 (S1.1 1 2).toNatClampNeg &&& 255))
theorem dset_w (S : gS) (x v : Int32) : (dset S x v).1 1 2 = S.1 1 2 := by rw [dset_1]
theorem sub1 {x : Int32} (h : ¬ x ≤ 0) : ¬ x - 1 < 0 := by
  have h1 : ¬ x < 0 := fun z => h (Int32.le_of_lt z)
  obtain ⟨j, hj, rfl⟩ := nI_of h1
  cases j with
  | zero => exact absurd (show nI 0 ≤ 0 by decide) h
  | succ j => rw [nI_pred]; exact nI_pos (by omega)
theorem sub1_in {x : Int32} (h : ¬ x ≤ 0) (h2 : ¬ Int32.ofNat 32192 < x) : vp_in (x - 1) 32192 := by
  have h1 : ¬ x < 0 := fun z => h (Int32.le_of_lt z)
  obtain ⟨j, hj, rfl⟩ := nI_of h1
  cases j with
  | zero => exact absurd (show nI 0 ≤ 0 by decide) h
  | succ j =>
    rw [nI_pred]
    have h3 : ¬ 32192 < j + 1 := fun z => h2 (nI_lt z hj)
    exact vp_in_nI (by omega) (by decide)
theorem dback_pos : ∀ (n : Nat) {S : gS}, ¬ S.1 1 2 < 0 → ¬ (dback n S).1 1 2 < 0 := by
  intro n
  induction n with
  | zero => intro S h; exact h
  | succ n ih =>
    intro S h
    unfold dback
    split
    · exact h
    split
    · exact h
    · rename_i h1 h2
      refine ih ?_
      rw [dset_w, mS_same]
      exact sub1 h1
set_option maxRecDepth 100000 in
set_option maxHeartbeats 4000000 in
theorem l_takeBack (nn : Int32) (c : Nat) (hc : c < 2 ^ 31) : ∀ (m i : Nat), i + m = c → ∀ (S : gS), G MX1_takeBack (1, 61) 19 [some (.ref 1), some (.int nn), some (.int (nI c)), some (.int (nI i))] [] (wOf τ S) 0 0 (gN (wOf τ) fun v S' => v = .int (nI c) ∧ S' = dback m S) := by
  intro m
  induction m with
  | zero =>
    intro i hi S
    obtain rfl : i = c := by omega
    refine g_iload_n dX1_takeBack_19 rfl rfl ?_
    refine g_iload_n dX1_takeBack_20 rfl rfl ?_
    refine g_icmp_ge (tgt := 88) dX1_takeBack_21 (by decide) (fun c21 => ?_) (fun c21 => ?_)
    · refine g_iload_n dX1_takeBack_88 rfl rfl ?_
      refine g_iret dX1_takeBack_89 rfl ⟨_, _, rfl, rfl, ?_⟩
      exact ⟨rfl, rfl⟩
    · exact absurd (nI_le (Nat.le_refl _) hc) c21
  | succ m ih =>
    intro i hi S
    refine g_iload_n dX1_takeBack_19 rfl rfl ?_
    refine g_iload_n dX1_takeBack_20 rfl rfl ?_
    refine g_icmp_ge (tgt := 88) dX1_takeBack_21 (by decide) (fun c21 => ?_) (fun c21 => ?_)
    · exact absurd c21 (nI_ge (by omega) hc)
    · refine g_aload_n dX1_takeBack_24 rfl rfl ?_
      refine g_get dX1_takeBack_25 flX1_25 rfl rfl ?_
      refine g_if_le (tgt := 88) dX1_takeBack_28 (by decide) (fun c28 => ?_) (fun c28 => ?_)
      · refine g_iload_n dX1_takeBack_88 rfl rfl ?_
        refine g_iret dX1_takeBack_89 rfl ⟨_, _, rfl, rfl, ?_⟩
        exact ⟨rfl, by rw [dback, if_pos c28]⟩
      · refine g_aload_n dX1_takeBack_31 rfl rfl ?_
        refine g_get dX1_takeBack_32 flX1_25 rfl rfl ?_
        refine g_aload_n dX1_takeBack_35 rfl rfl ?_
        refine g_get dX1_takeBack_36 flX1_15 rfl rfl ?_
        refine g_alen dX1_takeBack_39 rfl (fun _ => rfl) ?_
        refine g_icmp_gt (tgt := 88) dX1_takeBack_40 (by decide) (fun c40 => ?_) (fun c40 => ?_)
        · refine g_iload_n dX1_takeBack_88 rfl rfl ?_
          refine g_iret dX1_takeBack_89 rfl ⟨_, _, rfl, rfl, ?_⟩
          exact ⟨rfl, by rw [dback, if_neg c28, if_pos c40]⟩
        · refine g_aload_n dX1_takeBack_43 rfl rfl ?_
          refine g_dup dX1_takeBack_44 rfl ?_
          refine g_get dX1_takeBack_45 flX1_25 rfl rfl ?_
          refine g_iconst (v := 1) dX1_takeBack_48 (by decide) ?_
          refine g_isub dX1_takeBack_49 ?_
          refine p_put dX1_takeBack_50 fpX1_25 rfl (Nat.le_of_ble_eq_true rfl) (fun _ => rfl) (fun _ => rfl) (by with_reducible first | exact wS_1_2 _ _ _) ?_
          refine g_aload_n dX1_takeBack_53 rfl rfl ?_
          refine g_aload_n dX1_takeBack_54 rfl rfl ?_
          refine g_get dX1_takeBack_55 flX1_15 rfl rfl ?_
          refine g_aload_n dX1_takeBack_58 rfl rfl ?_
          refine g_get dX1_takeBack_59 flX1_25 rfl rfl ?_
          refine g_iald dX1_takeBack_62 rfl (sub1_in c28 c40) ?_
          refine g_bipush (v := 8) dX1_takeBack_63 (by decide) ?_
          refine g_iushr dX1_takeBack_65 ?_
          refine g_aload_n dX1_takeBack_66 rfl rfl ?_
          refine g_get dX1_takeBack_67 flX1_15 rfl rfl ?_
          refine g_aload_n dX1_takeBack_70 rfl rfl ?_
          refine g_get dX1_takeBack_71 flX1_25 rfl rfl ?_
          refine g_iald dX1_takeBack_74 rfl (sub1_in c28 c40) ?_
          refine g_sipush (v := 255) dX1_takeBack_75 (by decide) ?_
          refine g_iand dX1_takeBack_78 ?_
          refine cV20 (fun _ _ => rfl) dX1_takeBack_79 mlX1_40 imX1_set seX1_set rfl rfl (c_set _ _ _) (by decide) (Nat.le_of_ble_eq_true rfl) (Nat.le_of_ble_eq_true rfl) (Nat.le_of_ble_eq_true rfl) ?_
          rintro _ rfl
          refine g_iinc dX1_takeBack_82 rfl (by decide) (by first | exact gi_1 _ | exact gi_p _) ?_
          refine g_goto (tgt := 19) dX1_takeBack_85 (by decide) ?_
          have K := ih (i + 1) (by omega) (dset (mS S 1 2 (S.1 1 2 - 1)) (((mS S 1 2 (S.1 1 2 - 1)).2.1 3 ((mS S 1 2 (S.1 1 2 - 1)).1 1 2).toNatClampNeg).toUInt32 >>> ((8 : Int32).toUInt32 &&& Int32.toUInt32 31)).toInt32 ((mS S 1 2 (S.1 1 2 - 1)).2.1 3 ((mS S 1 2 (S.1 1 2 - 1)).1 1 2).toNatClampNeg &&& 255))
          refine GE.mono ?_ K
          rintro r w ⟨v, S', h1, h2, h3, h4⟩
          refine ⟨v, S', h1, h2, h3, ?_⟩
          rw [h4, dback, if_neg c28, if_neg c40]
def dcount (S : gS) (n : Int32) : Int32 := if 0 ≤ n then (if S.1 1 2 < n then S.1 1 2 else n) else 0
theorem dcount_pos {S : gS} (n : Int32) (h0 : ¬ S.1 1 2 < 0) : ¬ dcount S n < 0 := by
  unfold dcount
  split
  · split
    · exact h0
    · rename_i h _; exact Int32.not_lt.mpr h
  · decide
set_option maxRecDepth 100000 in
set_option maxHeartbeats 4000000 in
theorem c_takeBack (S : gS) (n : Int32) (h0 : ¬ S.1 1 2 < 0) : gCt MX1_takeBack (1, 61) 0 0 [.ref 1, .int n] (wOf τ S) (gN (wOf τ) fun v S' => v = .int (dcount S n) ∧ S' = dback (dcount S n).toNatClampNeg S) := by
  refine gCt.of (ls := [some (.ref 1), some (.int n), none, none]) 2 (by decide) rfl (Nat.le_of_ble_eq_true rfl) ?_
  refine g_iload_n dX1_takeBack_0 rfl rfl ?_
  refine g_if_ge (tgt := 8) dX1_takeBack_1 (by decide) (fun c1 => ?_) (fun c1 => ?_)
  · refine g_iload_n dX1_takeBack_8 rfl rfl ?_
    refine g_aload_n dX1_takeBack_9 rfl rfl ?_
    refine g_get dX1_takeBack_10 flX1_25 rfl rfl ?_
    refine g_mmin dX1_takeBack_13 mlX1_44 isJ9_min_7cf53 ⟨by decide, Nat.le_of_ble_eq_true rfl⟩ mkX1_44 ?_
    refine g_istore_n dX1_takeBack_16 rfl (by decide) ?_
    refine g_iconst (v := 0) dX1_takeBack_17 (by decide) ?_
    refine g_istore_n dX1_takeBack_18 rfl (by decide) ?_
    have e : (if S.1 1 2 < n then S.1 1 2 else n) = dcount S n := by rw [dcount, if_pos c1]
    obtain ⟨j, hj, e2⟩ := nI_of (dcount_pos (S := S) n h0)
    rw [e, e2, nI_clamp hj]
    exact l_takeBack n j hj j 0 (by omega) S
  · refine g_iconst (v := 0) dX1_takeBack_4 (by decide) ?_
    refine g_goto (tgt := 16) dX1_takeBack_5 (by decide) ?_
    refine g_istore_n dX1_takeBack_16 rfl (by decide) ?_
    refine g_iconst (v := 0) dX1_takeBack_17 (by decide) ?_
    refine g_istore_n dX1_takeBack_18 rfl (by decide) ?_
    have e2 : dcount S n = nI 0 := by rw [dcount, if_neg c1]; rfl
    rw [e2, nI_clamp (by decide)]
    exact l_takeBack n 0 (by decide) 0 0 rfl S
set_option maxRecDepth 100000 in
set_option maxHeartbeats 4000000 in
theorem c_clear (S : gS) : gCt MX1_clear (1, 40) 0 0 [.ref 1] (wOf τ S) (g0 (wOf τ) fun S' => S' = mA S 2 (fillB (S.2.1 2) 0 24032)) := by
  refine gCt.of (ls := [some (.ref 1)]) 0 (by decide) rfl (Nat.le_of_ble_eq_true rfl) ?_
  refine g_aload_n dX1_clear_0 rfl rfl ?_
  refine g_get dX1_clear_1 flX1_9 rfl rfl ?_
  refine g_iconst (v := 0) dX1_clear_4 (by decide) ?_
  refine cS20 (fun _ _ => rfl) dX1_clear_5 mlX1_19 isJ7_fill_031fb (c_fillB _ _) (by decide) (Nat.le_of_ble_eq_true rfl) (Nat.le_of_ble_eq_true rfl) (Nat.le_of_ble_eq_true rfl) ?_
  rintro _ rfl
  refine g_vret dX1_clear_8 rfl ⟨_, rfl, rfl, ?_⟩
  rfl
end
