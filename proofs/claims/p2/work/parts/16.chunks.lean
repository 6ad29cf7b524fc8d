section
variable {τ : gW}
/-- what the class's methods keep: the count of written bytes isn't negative, and nothing of the reference or the law changes -/
def Cl (S S' : gS) : Prop := ¬ S.1 1 2 < 0 → ¬ S'.1 1 2 < 0
theorem Cl.rf (S : gS) : Cl S S := fun h => h
theorem Cl.tr {S S1 S2 : gS} (h : Cl S S1) (h2 : Cl S1 S2) : Cl S S2 := fun z => h2 (h z)
theorem Cl.s {S S' : gS} {k j : Nat} {v : Int32} (h : Cl S S') (hk : k < 28) (hne : ¬ (1 = k ∧ 2 = j)) : Cl S (mS S' k j v) := by
  intro z
  rw [mS_ne hne]
  exact h z
theorem Cl.a {S S' : gS} {k : Nat} {f : Nat → Int32} (h : Cl S S') (hk : k < 28) : Cl S (mA S' k f) := h
theorem Cl.l {S S' : gS} {k : Nat} {f : Nat → Int64} (h : Cl S S') (hk : k < 28) : Cl S (mL S' k f) := h
/-- and the count of versions stays -/
def C8 (S S' : gS) : Prop := Cl S S' ∧ S'.1 4 8 = S.1 4 8
theorem C8.rf (S : gS) : C8 S S := ⟨Cl.rf S, rfl⟩
theorem C8.tr {S S1 S2 : gS} (h : C8 S S1) (h2 : C8 S1 S2) : C8 S S2 := ⟨h.1.tr h2.1, h2.2.trans h.2⟩
theorem C8.s {S S' : gS} {k j : Nat} {v : Int32} (h : C8 S S') (hk : k < 28) (hne : ¬ (1 = k ∧ 2 = j)) (hn8 : ¬ (4 = k ∧ 8 = j)) : C8 S (mS S' k j v) := ⟨h.1.s hk hne, (mS_ne hn8).trans h.2⟩
theorem C8.a {S S' : gS} {k : Nat} {f : Nat → Int32} (h : C8 S S') (hk : k < 28) : C8 S (mA S' k f) := h
theorem C8.l {S S' : gS} {k : Nat} {f : Nat → Int64} (h : C8 S S') (hk : k < 28) : C8 S (mL S' k f) := h
theorem nI_lt_of {i : Nat} {c : Int32} (hi : i < 2 ^ 31) (h : ¬ c ≤ nI i) : ∃ j : Nat, j < 2 ^ 31 ∧ c = nI j ∧ i < j := by
  have h1 : ¬ c < 0 := fun z => h (Int32.le_of_lt (Int32.lt_of_lt_of_le z (nI_pos' hi)))
  obtain ⟨j, hj, rfl⟩ := nI_of h1
  exact ⟨j, hj, rfl, by rcases Nat.lt_or_ge i j with q | q; · exact q
                        · exact absurd (nI_le q hi) h⟩
set_option maxRecDepth 100000 in
set_option maxHeartbeats 4000000 in
theorem c_chForget6 (S : gS) : gCt MX0_forget (0, 0) 0 0 [.ref 6] (wOf τ S) (g0 (wOf τ) fun S' => S' = mS S 6 3 0) := by
  refine gCt.of (ls := [some (.ref 6)]) 0 (by decide) rfl (Nat.le_of_ble_eq_true rfl) ?_
  refine g_aload_n dX0_forget_0 rfl rfl ?_
  refine g_iconst (v := 0) dX0_forget_1 (by decide) ?_
  refine p_put dX0_forget_2 fpX0_22 rfl (Nat.le_of_ble_eq_true rfl) (fun _ => rfl) (fun _ => rfl) (by with_reducible first | exact wS_6_3 _ _ _ | exact wS_16_3 _ _ _) ?_
  refine g_vret dX0_forget_5 rfl ⟨_, rfl, rfl, ?_⟩
  rfl
set_option maxRecDepth 100000 in
set_option maxHeartbeats 4000000 in
theorem c_isSlot6 (S : gS) (x : Int32) : gCt MX0_isSlot (0, 0) 0 0 [.ref 6, .int x] (wOf τ S) (gN (wOf τ) fun v S' => (∃ r : Int32, v = .int r ∧ (¬ r = 0 → ¬ x < 0 ∧ ¬ S.1 6 3 ≤ x ∧ ¬ 315 ≤ x)) ∧ S = S') := by
  refine gCt.of (ls := [some (.ref 6), some (.int x)]) 0 (by decide) rfl (Nat.le_of_ble_eq_true rfl) ?_
  refine g_iload_n dX0_isSlot_0 rfl rfl ?_
  refine g_if_lt (tgt := 23) dX0_isSlot_1 (by decide) (fun c1 => ?_) (fun c1 => ?_)
  · refine g_iconst (v := 0) dX0_isSlot_23 (by decide) ?_
    refine g_zret dX0_isSlot_24 rfl (by first | rfl | assumption) ⟨_, _, rfl, rfl, ?_⟩
    exact ⟨⟨_, rfl, fun h => by first | exact ⟨c1, c9, c16⟩ | exact absurd rfl h⟩, rfl⟩
  · refine g_iload_n dX0_isSlot_4 rfl rfl ?_
    refine g_aload_n dX0_isSlot_5 rfl rfl ?_
    refine g_get dX0_isSlot_6 flX0_22 rfl rfl ?_
    refine g_icmp_ge (tgt := 23) dX0_isSlot_9 (by decide) (fun c9 => ?_) (fun c9 => ?_)
    · refine g_iconst (v := 0) dX0_isSlot_23 (by decide) ?_
      refine g_zret dX0_isSlot_24 rfl (by first | rfl | assumption) ⟨_, _, rfl, rfl, ?_⟩
      exact ⟨⟨_, rfl, fun h => by first | exact ⟨c1, c9, c16⟩ | exact absurd rfl h⟩, rfl⟩
    · refine g_iload_n dX0_isSlot_12 rfl rfl ?_
      refine g_sipush (v := 315) dX0_isSlot_13 (by decide) ?_
      refine g_icmp_ge (tgt := 23) dX0_isSlot_16 (by decide) (fun c16 => ?_) (fun c16 => ?_)
      · refine g_iconst (v := 0) dX0_isSlot_23 (by decide) ?_
        refine g_zret dX0_isSlot_24 rfl (by first | rfl | assumption) ⟨_, _, rfl, rfl, ?_⟩
        exact ⟨⟨_, rfl, fun h => by first | exact ⟨c1, c9, c16⟩ | exact absurd rfl h⟩, rfl⟩
      · refine g_iconst (v := 1) dX0_isSlot_19 (by decide) ?_
        refine g_goto (tgt := 24) dX0_isSlot_20 (by decide) ?_
        refine g_zret dX0_isSlot_24 rfl (by first | rfl | assumption) ⟨_, _, rfl, rfl, ?_⟩
        exact ⟨⟨_, rfl, fun h => by first | exact ⟨c1, c9, c16⟩ | exact absurd rfl h⟩, rfl⟩
set_option maxRecDepth 100000 in
set_option maxHeartbeats 4000000 in
theorem c_numberIn6 (S : gS) (x : Int32) : gCt MX0_numberIn (1, 40) 0 0 [.ref 6, .int x] (wOf τ S) (gN (wOf τ) fun v S' => (∃ r : Int32, v = .int r) ∧ S = S') := by
  refine gCt.of (ls := [some (.ref 6), some (.int x)]) 0 (by decide) rfl (Nat.le_of_ble_eq_true rfl) ?_
  refine g_aload_n dX0_numberIn_0 rfl rfl ?_
  refine g_iload_n dX0_numberIn_1 rfl rfl ?_
  refine cV1N (fun _ _ => rfl) dX0_numberIn_2 mlX0_26 imX0_isSlot seX0_isSlot rfl rfl (c_isSlot6 _ _) (by decide) (Nat.le_of_ble_eq_true rfl) (Nat.le_of_ble_eq_true rfl) (Nat.le_of_ble_eq_true rfl) ?_
  rintro _ _ ⟨⟨r, rfl, hr⟩, rfl⟩
  refine g_if_eq (tgt := 17) dX0_numberIn_5 (by decide) (fun c5 => ?_) (fun c5 => ?_)
  · refine g_iconst (v := (-1)) dX0_numberIn_17 (by decide) ?_
    refine g_iret dX0_numberIn_18 rfl ⟨_, _, rfl, rfl, ?_⟩
    exact ⟨⟨_, rfl⟩, rfl⟩
  · refine g_aload_n dX0_numberIn_8 rfl rfl ?_
    refine g_get dX0_numberIn_9 flX0_9 rfl rfl ?_
    refine g_iload_n dX0_numberIn_12 rfl rfl ?_
    refine g_iald dX0_numberIn_13 rfl (vin (N := 315) (by decide) (hr c5).1 (hr c5).2.2) ?_
    refine g_goto (tgt := 18) dX0_numberIn_14 (by decide) ?_
    refine g_iret dX0_numberIn_18 rfl ⟨_, _, rfl, rfl, ?_⟩
    exact ⟨⟨_, rfl⟩, rfl⟩
set_option maxRecDepth 100000 in
set_option maxHeartbeats 4000000 in
theorem c_namesOf6 (S : gS) (x : Int32) : gCt MX0_namesOf (1, 40) 0 0 [.ref 6, .int x] (wOf τ S) (gN (wOf τ) fun v S' => (∃ r : Int32, v = .int r ∧ (S.1 6 3 ≤ 0 → r = 0)) ∧ S = S') := by
  refine gCt.of (ls := [some (.ref 6), some (.int x)]) 0 (by decide) rfl (Nat.le_of_ble_eq_true rfl) ?_
  refine g_aload_n dX0_namesOf_0 rfl rfl ?_
  refine g_iload_n dX0_namesOf_1 rfl rfl ?_
  refine cV1N (fun _ _ => rfl) dX0_namesOf_2 mlX0_26 imX0_isSlot seX0_isSlot rfl rfl (c_isSlot6 _ _) (by decide) (Nat.le_of_ble_eq_true rfl) (Nat.le_of_ble_eq_true rfl) (Nat.le_of_ble_eq_true rfl) ?_
  rintro _ _ ⟨⟨r, rfl, hr⟩, rfl⟩
  refine g_if_eq (tgt := 17) dX0_namesOf_5 (by decide) (fun c5 => ?_) (fun c5 => ?_)
  · refine g_iconst (v := 0) dX0_namesOf_17 (by decide) ?_
    refine g_iret dX0_namesOf_18 rfl ⟨_, _, rfl, rfl, ?_⟩
    exact ⟨⟨_, rfl, fun h => by first | rfl | exact absurd (Int32.le_trans h (Int32.not_lt.mp (hr c5).1)) (hr c5).2.1⟩, rfl⟩
  · refine g_aload_n dX0_namesOf_8 rfl rfl ?_
    refine g_get dX0_namesOf_9 flX0_15 rfl rfl ?_
    refine g_iload_n dX0_namesOf_12 rfl rfl ?_
    refine g_iald dX0_namesOf_13 rfl (vin (N := 315) (by decide) (hr c5).1 (hr c5).2.2) ?_
    refine g_goto (tgt := 18) dX0_namesOf_14 (by decide) ?_
    refine g_iret dX0_namesOf_18 rfl ⟨_, _, rfl, rfl, ?_⟩
    exact ⟨⟨_, rfl, fun h => by first | rfl | exact absurd (Int32.le_trans h (Int32.not_lt.mp (hr c5).1)) (hr c5).2.1⟩, rfl⟩
set_option maxRecDepth 100000 in
set_option maxHeartbeats 4000000 in
theorem c_addName6 (S : gS) (x c : Int32) : gCt MX0_addName (1, 40) 0 0 [.ref 6, .int x, .int c] (wOf τ S) (g0 (wOf τ) fun S' => C8 S S') := by
  refine gCt.of (ls := [some (.ref 6), some (.int x), some (.int c)]) 0 (by decide) rfl (Nat.le_of_ble_eq_true rfl) ?_
  refine g_aload_n dX0_addName_0 rfl rfl ?_
  refine g_iload_n dX0_addName_1 rfl rfl ?_
  refine cV1N (fun _ _ => rfl) dX0_addName_2 mlX0_26 imX0_isSlot seX0_isSlot rfl rfl (c_isSlot6 _ _) (by decide) (Nat.le_of_ble_eq_true rfl) (Nat.le_of_ble_eq_true rfl) (Nat.le_of_ble_eq_true rfl) ?_
  rintro _ _ ⟨⟨r, rfl, hr⟩, rfl⟩
  refine g_if_eq (tgt := 18) dX0_addName_5 (by decide) (fun c5 => ?_) (fun c5 => ?_)
  · refine g_vret dX0_addName_18 rfl ⟨_, rfl, rfl, ?_⟩
    repeat' (with_reducible first | exact C8.rf _ | assumption | apply C8.a | apply C8.s | apply C8.l)
    all_goals decide
  · refine g_aload_n dX0_addName_8 rfl rfl ?_
    refine g_get dX0_addName_9 flX0_15 rfl rfl ?_
    refine g_iload_n dX0_addName_12 rfl rfl ?_
    refine g_dup2_11 dX0_addName_13 rfl rfl ?_
    refine g_iald dX0_addName_14 rfl (vin (N := 315) (by decide) (hr c5).1 (hr c5).2.2) ?_
    refine g_iload_n dX0_addName_15 rfl rfl ?_
    refine g_iadd dX0_addName_16 ?_
    refine p_iast dX0_addName_17 rfl (vin (N := 315) (by decide) (hr c5).1 (hr c5).2.2) (by with_reducible first | exact wA_7 _ _ _ | exact wA_8 _ _ _ | exact wA_9 _ _ _ | exact wA_17 _ _ _ | exact wA_18 _ _ _ | exact wA_19 _ _ _ | exact wA_27 _ _ _) ?_
    refine g_vret dX0_addName_18 rfl ⟨_, rfl, rfl, ?_⟩
    repeat' (with_reducible first | exact C8.rf _ | assumption | apply C8.a | apply C8.s | apply C8.l)
    all_goals decide
theorem ed_in6 {x y : Int32} (h1 : ¬ x < 0) (h2 : ¬ 315 ≤ x) (h3 : ¬ y < 0) (h4 : ¬ 8 ≤ y) : vp_in (x * 8 + y) 2520 := by
  obtain ⟨i, hi, rfl, -⟩ := pk_mu (L := 315) h1 h2 (by decide)
  obtain ⟨j, hj, rfl, -⟩ := pk_mu (L := 8) h3 h4 (by decide)
  rw [show (8 : Int32) = nI 8 from rfl, pk_mul, nI_add]
  exact vp_in_nI (by omega) (by decide)
set_option maxRecDepth 100000 in
set_option maxHeartbeats 4000000 in
theorem c_edgesOf6 (S : gS) (x y : Int32) : gCt MX0_edgesOf (1, 40) 0 0 [.ref 6, .int x, .int y] (wOf τ S) (gN (wOf τ) fun v S' => (∃ r : Int64, v = .long r) ∧ S = S') := by
  refine gCt.of (ls := [some (.ref 6), some (.int x), some (.int y)]) 0 (by decide) rfl (Nat.le_of_ble_eq_true rfl) ?_
  refine g_aload_n dX0_edgesOf_0 rfl rfl ?_
  refine g_iload_n dX0_edgesOf_1 rfl rfl ?_
  refine cV1N (fun _ _ => rfl) dX0_edgesOf_2 mlX0_26 imX0_isSlot seX0_isSlot rfl rfl (c_isSlot6 _ _) (by decide) (Nat.le_of_ble_eq_true rfl) (Nat.le_of_ble_eq_true rfl) (Nat.le_of_ble_eq_true rfl) ?_
  rintro _ _ ⟨⟨r, rfl, hr⟩, rfl⟩
  refine g_if_eq (tgt := 32) dX0_edgesOf_5 (by decide) (fun c5 => ?_) (fun c5 => ?_)
  · refine g_lconst (v := 0) dX0_edgesOf_32 (by decide) ?_
    refine g_lret dX0_edgesOf_33 rfl ⟨_, _, rfl, rfl, ?_⟩
    exact ⟨⟨_, rfl⟩, rfl⟩
  · refine g_iload_n dX0_edgesOf_8 rfl rfl ?_
    refine g_if_lt (tgt := 32) dX0_edgesOf_9 (by decide) (fun c9 => ?_) (fun c9 => ?_)
    · refine g_lconst (v := 0) dX0_edgesOf_32 (by decide) ?_
      refine g_lret dX0_edgesOf_33 rfl ⟨_, _, rfl, rfl, ?_⟩
      exact ⟨⟨_, rfl⟩, rfl⟩
    · refine g_iload_n dX0_edgesOf_12 rfl rfl ?_
      refine g_bipush (v := 8) dX0_edgesOf_13 (by decide) ?_
      refine g_icmp_ge (tgt := 32) dX0_edgesOf_15 (by decide) (fun c15 => ?_) (fun c15 => ?_)
      · refine g_lconst (v := 0) dX0_edgesOf_32 (by decide) ?_
        refine g_lret dX0_edgesOf_33 rfl ⟨_, _, rfl, rfl, ?_⟩
        exact ⟨⟨_, rfl⟩, rfl⟩
      · refine g_aload_n dX0_edgesOf_18 rfl rfl ?_
        refine g_get dX0_edgesOf_19 flX0_18 rfl rfl ?_
        refine g_iload_n dX0_edgesOf_22 rfl rfl ?_
        refine g_bipush (v := 8) dX0_edgesOf_23 (by decide) ?_
        refine g_imul dX0_edgesOf_25 ?_
        refine g_iload_n dX0_edgesOf_26 rfl rfl ?_
        refine g_iadd dX0_edgesOf_27 ?_
        refine g_lald dX0_edgesOf_28 rfl (ed_in6 (hr c5).1 (hr c5).2.2 c9 c15) ?_
        refine g_goto (tgt := 33) dX0_edgesOf_29 (by decide) ?_
        refine g_lret dX0_edgesOf_33 rfl ⟨_, _, rfl, rfl, ?_⟩
        exact ⟨⟨_, rfl⟩, rfl⟩
set_option maxRecDepth 100000 in
set_option maxHeartbeats 4000000 in
theorem l_find6 (S : gS) (x : Int32) : ∀ (m i : Nat), i + m = 316 → (S.1 6 3 ≤ 0 → i = 0) → G MX0_find (0, 0) 2 [some (.ref 6), some (.int x), some (.int (nI i))] [] (wOf τ S) 0 0 (gN (wOf τ) fun v S' => (∃ r : Int32, v = .int r ∧ (S.1 6 3 ≤ 0 → r = -1)) ∧ S = S') := by
  intro m
  induction m with
  | zero =>
    intro i hi h0
    obtain rfl : i = 316 := by omega
    refine g_iload_n dX0_find_2 rfl rfl ?_
    refine g_aload_n dX0_find_3 rfl rfl ?_
    refine g_get dX0_find_4 flX0_22 rfl rfl ?_
    refine g_icmp_ge (tgt := 35) dX0_find_7 (by decide) (fun c7 => ?_) (fun c7 => ?_)
    · refine g_iconst (v := (-1)) dX0_find_35 (by decide) ?_
      refine g_iret dX0_find_36 rfl ⟨_, _, rfl, rfl, ?_⟩
      exact ⟨⟨_, rfl, fun _ => rfl⟩, rfl⟩
    · refine g_iload_n dX0_find_10 rfl rfl ?_
      refine g_sipush (v := 315) dX0_find_11 (by decide) ?_
      refine g_icmp_ge (tgt := 35) dX0_find_14 (by decide) (fun c14 => ?_) (fun c14 => ?_)
      · refine g_iconst (v := (-1)) dX0_find_35 (by decide) ?_
        refine g_iret dX0_find_36 rfl ⟨_, _, rfl, rfl, ?_⟩
        exact ⟨⟨_, rfl, fun _ => rfl⟩, rfl⟩
      · exact absurd (show (315 : Int32) ≤ nI 316 by decide) c14
  | succ m ih =>
    intro i hi h0
    refine g_iload_n dX0_find_2 rfl rfl ?_
    refine g_aload_n dX0_find_3 rfl rfl ?_
    refine g_get dX0_find_4 flX0_22 rfl rfl ?_
    refine g_icmp_ge (tgt := 35) dX0_find_7 (by decide) (fun c7 => ?_) (fun c7 => ?_)
    · refine g_iconst (v := (-1)) dX0_find_35 (by decide) ?_
      refine g_iret dX0_find_36 rfl ⟨_, _, rfl, rfl, ?_⟩
      exact ⟨⟨_, rfl, fun _ => rfl⟩, rfl⟩
    · refine g_iload_n dX0_find_10 rfl rfl ?_
      refine g_sipush (v := 315) dX0_find_11 (by decide) ?_
      refine g_icmp_ge (tgt := 35) dX0_find_14 (by decide) (fun c14 => ?_) (fun c14 => ?_)
      · refine g_iconst (v := (-1)) dX0_find_35 (by decide) ?_
        refine g_iret dX0_find_36 rfl ⟨_, _, rfl, rfl, ?_⟩
        exact ⟨⟨_, rfl, fun _ => rfl⟩, rfl⟩
      · refine g_aload_n dX0_find_17 rfl rfl ?_
        refine g_get dX0_find_18 flX0_9 rfl rfl ?_
        refine g_iload_n dX0_find_21 rfl rfl ?_
        refine g_iald dX0_find_22 rfl (vin (N := 315) (by decide) (nI_pos (by omega)) c14) ?_
        refine g_iload_n dX0_find_23 rfl rfl ?_
        refine g_icmp_ne (tgt := 29) dX0_find_24 (by decide) (fun c24 => ?_) (fun c24 => ?_)
        · refine g_iinc dX0_find_29 rfl (by decide) (by first | exact gi_1 _ | exact gi_p _) ?_
          refine g_goto (tgt := 2) dX0_find_32 (by decide) ?_
          exact ih (i + 1) (by omega) (fun z => absurd (Int32.le_trans z (nI_pos' (by omega))) c7)
        · refine g_iload_n dX0_find_27 rfl rfl ?_
          refine g_iret dX0_find_28 rfl ⟨_, _, rfl, rfl, ?_⟩
          exact ⟨⟨_, rfl, fun z => absurd (Int32.le_trans z (nI_pos' (by omega))) c7⟩, rfl⟩
set_option maxRecDepth 100000 in
set_option maxHeartbeats 4000000 in
theorem c_find6 (S : gS) (x : Int32) : gCt MX0_find (0, 0) 0 0 [.ref 6, .int x] (wOf τ S) (gN (wOf τ) fun v S' => (∃ r : Int32, v = .int r ∧ (S.1 6 3 ≤ 0 → r = -1)) ∧ S = S') := by
  refine gCt.of (ls := [some (.ref 6), some (.int x), none]) 1 (by decide) rfl (Nat.le_of_ble_eq_true rfl) ?_
  refine g_iconst (v := 0) dX0_find_0 (by decide) ?_
  refine g_istore_n dX0_find_1 rfl (by decide) ?_
  exact l_find6 S x 316 0 rfl (fun _ => rfl)
set_option maxRecDepth 100000 in
set_option maxHeartbeats 4000000 in
theorem c_addSlot6 (S : gS) (x : Int32) : gCt MX0_addSlot (0, 0) 0 0 [.ref 6, .int x] (wOf τ S) (gN (wOf τ) fun v S' => (∃ r : Int32, v = .int r) ∧ C8 S S') := by
  refine gCt.of (ls := [some (.ref 6), some (.int x)]) 0 (by decide) rfl (Nat.le_of_ble_eq_true rfl) ?_
  refine g_aload_n dX0_addSlot_0 rfl rfl ?_
  refine g_get dX0_addSlot_1 flX0_22 rfl rfl ?_
  refine g_if_lt (tgt := 17) dX0_addSlot_4 (by decide) (fun c4 => ?_) (fun c4 => ?_)
  · refine g_iconst (v := (-1)) dX0_addSlot_17 (by decide) ?_
    refine g_iret dX0_addSlot_18 rfl ⟨_, _, rfl, rfl, ?_⟩
    refine ⟨⟨_, rfl⟩, ?_⟩
    repeat' (with_reducible first | exact C8.rf _ | assumption | apply C8.a | apply C8.s | apply C8.l)
    all_goals decide
  · refine g_aload_n dX0_addSlot_7 rfl rfl ?_
    refine g_get dX0_addSlot_8 flX0_22 rfl rfl ?_
    refine g_sipush (v := 315) dX0_addSlot_11 (by decide) ?_
    refine g_icmp_lt (tgt := 19) dX0_addSlot_14 (by decide) (fun c14 => ?_) (fun c14 => ?_)
    · refine g_aload_n dX0_addSlot_19 rfl rfl ?_
      refine g_get dX0_addSlot_20 flX0_9 rfl rfl ?_
      refine g_aload_n dX0_addSlot_23 rfl rfl ?_
      refine g_get dX0_addSlot_24 flX0_22 rfl rfl ?_
      refine g_iload_n dX0_addSlot_27 rfl rfl ?_
      refine p_iast dX0_addSlot_28 rfl (vin2 (N := 315) (by decide) c4 c14) (by with_reducible first | exact wA_7 _ _ _ | exact wA_8 _ _ _ | exact wA_9 _ _ _ | exact wA_17 _ _ _ | exact wA_18 _ _ _ | exact wA_19 _ _ _ | exact wA_27 _ _ _) ?_
      refine g_aload_n dX0_addSlot_29 rfl rfl ?_
      refine g_get dX0_addSlot_30 flX0_15 rfl rfl ?_
      refine g_aload_n dX0_addSlot_33 rfl rfl ?_
      refine g_get dX0_addSlot_34 flX0_22 rfl rfl ?_
      refine g_iconst (v := 0) dX0_addSlot_37 (by decide) ?_
      refine p_iast dX0_addSlot_38 rfl (vin2 (N := 315) (by decide) c4 c14) (by with_reducible first | exact wA_7 _ _ _ | exact wA_8 _ _ _ | exact wA_9 _ _ _ | exact wA_17 _ _ _ | exact wA_18 _ _ _ | exact wA_19 _ _ _ | exact wA_27 _ _ _) ?_
      refine g_aload_n dX0_addSlot_39 rfl rfl ?_
      refine g_dup dX0_addSlot_40 rfl ?_
      refine g_get dX0_addSlot_41 flX0_22 rfl rfl ?_
      refine g_iconst (v := 1) dX0_addSlot_44 (by decide) ?_
      refine g_iadd dX0_addSlot_45 ?_
      refine p_put dX0_addSlot_46 fpX0_22 rfl (Nat.le_of_ble_eq_true rfl) (fun _ => rfl) (fun _ => rfl) (by with_reducible first | exact wS_6_3 _ _ _ | exact wS_16_3 _ _ _) ?_
      refine g_aload_n dX0_addSlot_49 rfl rfl ?_
      refine g_get dX0_addSlot_50 flX0_22 rfl rfl ?_
      refine g_iconst (v := 1) dX0_addSlot_53 (by decide) ?_
      refine g_isub dX0_addSlot_54 ?_
      refine g_iret dX0_addSlot_55 rfl ⟨_, _, rfl, rfl, ?_⟩
      refine ⟨⟨_, rfl⟩, ?_⟩
      repeat' (with_reducible first | exact C8.rf _ | assumption | apply C8.a | apply C8.s | apply C8.l)
      all_goals decide
    · refine g_iconst (v := (-1)) dX0_addSlot_17 (by decide) ?_
      refine g_iret dX0_addSlot_18 rfl ⟨_, _, rfl, rfl, ?_⟩
      refine ⟨⟨_, rfl⟩, ?_⟩
      repeat' (with_reducible first | exact C8.rf _ | assumption | apply C8.a | apply C8.s | apply C8.l)
      all_goals decide
set_option maxRecDepth 100000 in
set_option maxHeartbeats 4000000 in
theorem l_take6 (S0 : gS) (x pl : Int32) (sl : Int32) : ∀ (m i : Nat), i + m = 8 → ∀ (S : gS), C8 S0 S → G MX0_take (2, 80) 23 [some (.ref 6), some (.int x), some (.ref 1), some (.int pl), some (.int sl), some (.int (nI i))] [] (wOf τ S) 0 0 (g0 (wOf τ) fun S' => C8 S0 S') := by
  intro m
  induction m with
  | zero =>
    intro i hi S hS
    obtain rfl : i = 8 := by omega
    refine g_iload dX0_take_23 rfl ?_
    refine g_bipush (v := 8) dX0_take_25 (by decide) ?_
    refine g_icmp_ge (tgt := 71) dX0_take_27 (by decide) (fun c27 => ?_) (fun c27 => ?_)
    · refine g_vret dX0_take_71 rfl ⟨_, rfl, rfl, ?_⟩
      exact hS
    · exact absurd (show (8 : Int32) ≤ nI 8 by decide) c27
  | succ m ih =>
    intro i hi S hS
    refine g_iload dX0_take_23 rfl ?_
    refine g_bipush (v := 8) dX0_take_25 (by decide) ?_
    refine g_icmp_ge (tgt := 71) dX0_take_27 (by decide) (fun c27 => ?_) (fun c27 => ?_)
    · refine g_vret dX0_take_71 rfl ⟨_, rfl, rfl, ?_⟩
      exact hS
    · refine g_aload_n dX0_take_30 rfl rfl ?_
      refine g_iload dX0_take_31 rfl ?_
      refine cV1N (fun _ _ => rfl) dX0_take_33 mlX0_26 imX0_isSlot seX0_isSlot rfl rfl (c_isSlot6 _ _) (by decide) (Nat.le_of_ble_eq_true rfl) (Nat.le_of_ble_eq_true rfl) (Nat.le_of_ble_eq_true rfl) ?_
      rintro _ _ ⟨⟨r, rfl, hr⟩, rfl⟩
      refine g_if_eq (tgt := 71) dX0_take_36 (by decide) (fun c36 => ?_) (fun c36 => ?_)
      · refine g_vret dX0_take_71 rfl ⟨_, rfl, rfl, ?_⟩
        exact hS
      · refine g_aload_n dX0_take_39 rfl rfl ?_
        refine g_get dX0_take_40 flX0_18 rfl rfl ?_
        refine g_iload dX0_take_43 rfl ?_
        refine g_bipush (v := 8) dX0_take_45 (by decide) ?_
        refine g_imul dX0_take_47 ?_
        refine g_iload dX0_take_48 rfl ?_
        refine g_iadd dX0_take_50 ?_
        refine g_aload_n dX0_take_51 rfl rfl ?_
        refine g_iload_n dX0_take_52 rfl rfl ?_
        refine g_bipush (v := 8) dX0_take_53 (by decide) ?_
        refine g_iload dX0_take_55 rfl ?_
        refine g_imul dX0_take_57 ?_
        refine g_iadd dX0_take_58 ?_
        refine g_bipush (v := 8) dX0_take_59 (by decide) ?_
        refine cV2N (fun _ _ => rfl) dX0_take_61 mlX0_37 imX1_number seX1_number rfl rfl (c_number _ _ 8 (by decide)) (by decide) (Nat.le_of_ble_eq_true rfl) (Nat.le_of_ble_eq_true rfl) (Nat.le_of_ble_eq_true rfl) ?_
        rintro _ _ ⟨rfl, rfl⟩
        refine p_last dX0_take_64 rfl (ed_in6 (hr c36).1 (hr c36).2.2 (nI_pos (by omega)) c27) (by with_reducible first | exact wA_9 _ _ _ | exact wA_19 _ _ _) ?_
        refine g_iinc dX0_take_65 rfl (by decide) (by first | exact gi_1 _ | exact gi_p _) ?_
        refine g_goto (tgt := 23) dX0_take_68 (by decide) ?_
        exact ih (i + 1) (by omega) _ (C8.l hS (by decide))
set_option maxRecDepth 100000 in
set_option maxHeartbeats 4000000 in
theorem c_take6 (S : gS) (x pl : Int32) : gCt MX0_take (2, 80) 0 0 [.ref 6, .int x, .ref 1, .int pl] (wOf τ S) (g0 (wOf τ) fun S' => C8 S S') := by
  refine gCt.of (ls := [some (.ref 6), some (.int x), some (.ref 1), some (.int pl), none, none]) 2 (by decide) rfl (Nat.le_of_ble_eq_true rfl) ?_
  refine g_aload_n dX0_take_0 rfl rfl ?_
  refine g_iload_n dX0_take_1 rfl rfl ?_
  refine cV1N (fun _ _ => rfl) dX0_take_2 mlX0_30 imX0_find seX0_find rfl rfl (c_find6 _ _) (by decide) (Nat.le_of_ble_eq_true rfl) (Nat.le_of_ble_eq_true rfl) (Nat.le_of_ble_eq_true rfl) ?_
  rintro _ _ ⟨⟨r, rfl, -⟩, rfl⟩
  refine g_istore dX0_take_5 (by decide) ?_
  refine g_iload dX0_take_7 rfl ?_
  refine g_iconst (v := (-1)) dX0_take_9 (by decide) ?_
  refine g_icmp_ne (tgt := 20) dX0_take_10 (by decide) (fun c10 => ?_) (fun c10 => ?_)
  · refine g_iconst (v := 0) dX0_take_20 (by decide) ?_
    refine g_istore dX0_take_21 (by decide) ?_
    exact l_take6 S x pl _ 8 0 rfl _ (by first | exact C8.rf _ | assumption)
  · refine g_aload_n dX0_take_13 rfl rfl ?_
    refine g_iload_n dX0_take_14 rfl rfl ?_
    refine cV1N (fun _ _ => rfl) dX0_take_15 mlX0_34 imX0_addSlot seX0_addSlot rfl rfl (c_addSlot6 _ _) (by decide) (Nat.le_of_ble_eq_true rfl) (Nat.le_of_ble_eq_true rfl) (Nat.le_of_ble_eq_true rfl) ?_
    rintro _ S1 ⟨⟨r1, rfl⟩, hS1⟩
    refine g_istore dX0_take_18 (by decide) ?_
    refine g_iconst (v := 0) dX0_take_20 (by decide) ?_
    refine g_istore dX0_take_21 (by decide) ?_
    exact l_take6 S x pl _ 8 0 rfl _ (by first | exact C8.rf _ | assumption)
set_option maxRecDepth 100000 in
set_option maxHeartbeats 4000000 in
theorem l_countNamed6 (S : gS) : ∀ (m i : Nat) (a : Int32), i + m = 2 ^ 31 - 1 → (S.1 6 3 ≤ 0 → a = 0) → G MX0_countNamed (2, 61) 4 [some (.ref 6), some (.int a), some (.int (nI i))] [] (wOf τ S) 0 0 (gN (wOf τ) fun v S' => (∃ r : Int32, v = .int r ∧ (S.1 6 3 ≤ 0 → r = 0)) ∧ S = S') := by
  intro m
  induction m with
  | zero =>
    intro i a hi ha
    have hle : S.1 6 3 ≤ nI i := by
      refine Classical.byContradiction fun z => ?_
      obtain ⟨j, hj, -, hij⟩ := nI_lt_of (by omega) z
      omega
    refine g_iload_n dX0_countNamed_4 rfl rfl ?_
    refine g_aload_n dX0_countNamed_5 rfl rfl ?_
    refine g_get dX0_countNamed_6 flX0_22 rfl rfl ?_
    refine g_icmp_ge (tgt := 29) dX0_countNamed_9 (by decide) (fun c9 => ?_) (fun c9 => ?_)
    · refine g_iload_n dX0_countNamed_29 rfl rfl ?_
      refine g_iret dX0_countNamed_30 rfl ⟨_, _, rfl, rfl, ?_⟩
      exact ⟨⟨_, rfl, ha⟩, rfl⟩
    · exact absurd hle c9
  | succ m ih =>
    intro i a hi ha
    refine g_iload_n dX0_countNamed_4 rfl rfl ?_
    refine g_aload_n dX0_countNamed_5 rfl rfl ?_
    refine g_get dX0_countNamed_6 flX0_22 rfl rfl ?_
    refine g_icmp_ge (tgt := 29) dX0_countNamed_9 (by decide) (fun c9 => ?_) (fun c9 => ?_)
    · refine g_iload_n dX0_countNamed_29 rfl rfl ?_
      refine g_iret dX0_countNamed_30 rfl ⟨_, _, rfl, rfl, ?_⟩
      exact ⟨⟨_, rfl, ha⟩, rfl⟩
    · refine g_aload_n dX0_countNamed_12 rfl rfl ?_
      refine g_iload_n dX0_countNamed_13 rfl rfl ?_
      refine cV1N (fun _ _ => rfl) dX0_countNamed_14 mlX0_43 imX0_namesOf seX0_namesOf rfl rfl (c_namesOf6 _ _) (by decide) (Nat.le_of_ble_eq_true rfl) (Nat.le_of_ble_eq_true rfl) (Nat.le_of_ble_eq_true rfl) ?_
      rintro _ _ ⟨⟨r, rfl, -⟩, rfl⟩
      refine g_if_le (tgt := 23) dX0_countNamed_17 (by decide) (fun c17 => ?_) (fun c17 => ?_)
      · refine g_iinc dX0_countNamed_23 rfl (by decide) (by first | exact gi_1 _ | exact gi_p _) ?_
        refine g_goto (tgt := 4) dX0_countNamed_26 (by decide) ?_
        exact ih (i + 1) _ (by omega) (fun z => absurd (Int32.le_trans z (nI_pos' (by omega))) c9)
      · refine g_iinc dX0_countNamed_20 rfl (by decide) (by first | exact gi_1 _ | exact gi_p _) ?_
        refine g_iinc dX0_countNamed_23 rfl (by decide) (by first | exact gi_1 _ | exact gi_p _) ?_
        refine g_goto (tgt := 4) dX0_countNamed_26 (by decide) ?_
        exact ih (i + 1) _ (by omega) (fun z => absurd (Int32.le_trans z (nI_pos' (by omega))) c9)
set_option maxRecDepth 100000 in
set_option maxHeartbeats 4000000 in
theorem c_countNamed6 (S : gS) : gCt MX0_countNamed (2, 61) 0 0 [.ref 6] (wOf τ S) (gN (wOf τ) fun v S' => (∃ r : Int32, v = .int r ∧ (S.1 6 3 ≤ 0 → r = 0)) ∧ S = S') := by
  refine gCt.of (ls := [some (.ref 6), none, none]) 2 (by decide) rfl (Nat.le_of_ble_eq_true rfl) ?_
  refine g_iconst (v := 0) dX0_countNamed_0 (by decide) ?_
  refine g_istore_n dX0_countNamed_1 rfl (by decide) ?_
  refine g_iconst (v := 0) dX0_countNamed_2 (by decide) ?_
  refine g_istore_n dX0_countNamed_3 rfl (by decide) ?_
  exact l_countNamed6 S (2 ^ 31 - 1) 0 0 (by omega) (fun _ => rfl)
set_option maxRecDepth 100000 in
set_option maxHeartbeats 4000000 in
theorem c_chForget16 (S : gS) : gCt MX0_forget (0, 0) 0 0 [.ref 16] (wOf τ S) (g0 (wOf τ) fun S' => S' = mS S 16 3 0) := by
  refine gCt.of (ls := [some (.ref 16)]) 0 (by decide) rfl (Nat.le_of_ble_eq_true rfl) ?_
  refine g_aload_n dX0_forget_0 rfl rfl ?_
  refine g_iconst (v := 0) dX0_forget_1 (by decide) ?_
  refine p_put dX0_forget_2 fpX0_22 rfl (Nat.le_of_ble_eq_true rfl) (fun _ => rfl) (fun _ => rfl) (by with_reducible first | exact wS_6_3 _ _ _ | exact wS_16_3 _ _ _) ?_
  refine g_vret dX0_forget_5 rfl ⟨_, rfl, rfl, ?_⟩
  rfl
set_option maxRecDepth 100000 in
set_option maxHeartbeats 4000000 in
theorem c_isSlot16 (S : gS) (x : Int32) : gCt MX0_isSlot (0, 0) 0 0 [.ref 16, .int x] (wOf τ S) (gN (wOf τ) fun v S' => (∃ r : Int32, v = .int r ∧ (¬ r = 0 → ¬ x < 0 ∧ ¬ S.1 16 3 ≤ x ∧ ¬ 315 ≤ x)) ∧ S = S') := by
  refine gCt.of (ls := [some (.ref 16), some (.int x)]) 0 (by decide) rfl (Nat.le_of_ble_eq_true rfl) ?_
  refine g_iload_n dX0_isSlot_0 rfl rfl ?_
  refine g_if_lt (tgt := 23) dX0_isSlot_1 (by decide) (fun c1 => ?_) (fun c1 => ?_)
  · refine g_iconst (v := 0) dX0_isSlot_23 (by decide) ?_
    refine g_zret dX0_isSlot_24 rfl (by first | rfl | assumption) ⟨_, _, rfl, rfl, ?_⟩
    exact ⟨⟨_, rfl, fun h => by first | exact ⟨c1, c9, c16⟩ | exact absurd rfl h⟩, rfl⟩
  · refine g_iload_n dX0_isSlot_4 rfl rfl ?_
    refine g_aload_n dX0_isSlot_5 rfl rfl ?_
    refine g_get dX0_isSlot_6 flX0_22 rfl rfl ?_
    refine g_icmp_ge (tgt := 23) dX0_isSlot_9 (by decide) (fun c9 => ?_) (fun c9 => ?_)
    · refine g_iconst (v := 0) dX0_isSlot_23 (by decide) ?_
      refine g_zret dX0_isSlot_24 rfl (by first | rfl | assumption) ⟨_, _, rfl, rfl, ?_⟩
      exact ⟨⟨_, rfl, fun h => by first | exact ⟨c1, c9, c16⟩ | exact absurd rfl h⟩, rfl⟩
    · refine g_iload_n dX0_isSlot_12 rfl rfl ?_
      refine g_sipush (v := 315) dX0_isSlot_13 (by decide) ?_
      refine g_icmp_ge (tgt := 23) dX0_isSlot_16 (by decide) (fun c16 => ?_) (fun c16 => ?_)
      · refine g_iconst (v := 0) dX0_isSlot_23 (by decide) ?_
        refine g_zret dX0_isSlot_24 rfl (by first | rfl | assumption) ⟨_, _, rfl, rfl, ?_⟩
        exact ⟨⟨_, rfl, fun h => by first | exact ⟨c1, c9, c16⟩ | exact absurd rfl h⟩, rfl⟩
      · refine g_iconst (v := 1) dX0_isSlot_19 (by decide) ?_
        refine g_goto (tgt := 24) dX0_isSlot_20 (by decide) ?_
        refine g_zret dX0_isSlot_24 rfl (by first | rfl | assumption) ⟨_, _, rfl, rfl, ?_⟩
        exact ⟨⟨_, rfl, fun h => by first | exact ⟨c1, c9, c16⟩ | exact absurd rfl h⟩, rfl⟩
set_option maxRecDepth 100000 in
set_option maxHeartbeats 4000000 in
theorem c_numberIn16 (S : gS) (x : Int32) : gCt MX0_numberIn (1, 40) 0 0 [.ref 16, .int x] (wOf τ S) (gN (wOf τ) fun v S' => (∃ r : Int32, v = .int r) ∧ S = S') := by
  refine gCt.of (ls := [some (.ref 16), some (.int x)]) 0 (by decide) rfl (Nat.le_of_ble_eq_true rfl) ?_
  refine g_aload_n dX0_numberIn_0 rfl rfl ?_
  refine g_iload_n dX0_numberIn_1 rfl rfl ?_
  refine cV1N (fun _ _ => rfl) dX0_numberIn_2 mlX0_26 imX0_isSlot seX0_isSlot rfl rfl (c_isSlot16 _ _) (by decide) (Nat.le_of_ble_eq_true rfl) (Nat.le_of_ble_eq_true rfl) (Nat.le_of_ble_eq_true rfl) ?_
  rintro _ _ ⟨⟨r, rfl, hr⟩, rfl⟩
  refine g_if_eq (tgt := 17) dX0_numberIn_5 (by decide) (fun c5 => ?_) (fun c5 => ?_)
  · refine g_iconst (v := (-1)) dX0_numberIn_17 (by decide) ?_
    refine g_iret dX0_numberIn_18 rfl ⟨_, _, rfl, rfl, ?_⟩
    exact ⟨⟨_, rfl⟩, rfl⟩
  · refine g_aload_n dX0_numberIn_8 rfl rfl ?_
    refine g_get dX0_numberIn_9 flX0_9 rfl rfl ?_
    refine g_iload_n dX0_numberIn_12 rfl rfl ?_
    refine g_iald dX0_numberIn_13 rfl (vin (N := 315) (by decide) (hr c5).1 (hr c5).2.2) ?_
    refine g_goto (tgt := 18) dX0_numberIn_14 (by decide) ?_
    refine g_iret dX0_numberIn_18 rfl ⟨_, _, rfl, rfl, ?_⟩
    exact ⟨⟨_, rfl⟩, rfl⟩
set_option maxRecDepth 100000 in
set_option maxHeartbeats 4000000 in
theorem c_namesOf16 (S : gS) (x : Int32) : gCt MX0_namesOf (1, 40) 0 0 [.ref 16, .int x] (wOf τ S) (gN (wOf τ) fun v S' => (∃ r : Int32, v = .int r ∧ (S.1 16 3 ≤ 0 → r = 0)) ∧ S = S') := by
  refine gCt.of (ls := [some (.ref 16), some (.int x)]) 0 (by decide) rfl (Nat.le_of_ble_eq_true rfl) ?_
  refine g_aload_n dX0_namesOf_0 rfl rfl ?_
  refine g_iload_n dX0_namesOf_1 rfl rfl ?_
  refine cV1N (fun _ _ => rfl) dX0_namesOf_2 mlX0_26 imX0_isSlot seX0_isSlot rfl rfl (c_isSlot16 _ _) (by decide) (Nat.le_of_ble_eq_true rfl) (Nat.le_of_ble_eq_true rfl) (Nat.le_of_ble_eq_true rfl) ?_
  rintro _ _ ⟨⟨r, rfl, hr⟩, rfl⟩
  refine g_if_eq (tgt := 17) dX0_namesOf_5 (by decide) (fun c5 => ?_) (fun c5 => ?_)
  · refine g_iconst (v := 0) dX0_namesOf_17 (by decide) ?_
    refine g_iret dX0_namesOf_18 rfl ⟨_, _, rfl, rfl, ?_⟩
    exact ⟨⟨_, rfl, fun h => by first | rfl | exact absurd (Int32.le_trans h (Int32.not_lt.mp (hr c5).1)) (hr c5).2.1⟩, rfl⟩
  · refine g_aload_n dX0_namesOf_8 rfl rfl ?_
    refine g_get dX0_namesOf_9 flX0_15 rfl rfl ?_
    refine g_iload_n dX0_namesOf_12 rfl rfl ?_
    refine g_iald dX0_namesOf_13 rfl (vin (N := 315) (by decide) (hr c5).1 (hr c5).2.2) ?_
    refine g_goto (tgt := 18) dX0_namesOf_14 (by decide) ?_
    refine g_iret dX0_namesOf_18 rfl ⟨_, _, rfl, rfl, ?_⟩
    exact ⟨⟨_, rfl, fun h => by first | rfl | exact absurd (Int32.le_trans h (Int32.not_lt.mp (hr c5).1)) (hr c5).2.1⟩, rfl⟩
set_option maxRecDepth 100000 in
set_option maxHeartbeats 4000000 in
theorem c_addName16 (S : gS) (x c : Int32) : gCt MX0_addName (1, 40) 0 0 [.ref 16, .int x, .int c] (wOf τ S) (g0 (wOf τ) fun S' => C8 S S') := by
  refine gCt.of (ls := [some (.ref 16), some (.int x), some (.int c)]) 0 (by decide) rfl (Nat.le_of_ble_eq_true rfl) ?_
  refine g_aload_n dX0_addName_0 rfl rfl ?_
  refine g_iload_n dX0_addName_1 rfl rfl ?_
  refine cV1N (fun _ _ => rfl) dX0_addName_2 mlX0_26 imX0_isSlot seX0_isSlot rfl rfl (c_isSlot16 _ _) (by decide) (Nat.le_of_ble_eq_true rfl) (Nat.le_of_ble_eq_true rfl) (Nat.le_of_ble_eq_true rfl) ?_
  rintro _ _ ⟨⟨r, rfl, hr⟩, rfl⟩
  refine g_if_eq (tgt := 18) dX0_addName_5 (by decide) (fun c5 => ?_) (fun c5 => ?_)
  · refine g_vret dX0_addName_18 rfl ⟨_, rfl, rfl, ?_⟩
    repeat' (with_reducible first | exact C8.rf _ | assumption | apply C8.a | apply C8.s | apply C8.l)
    all_goals decide
  · refine g_aload_n dX0_addName_8 rfl rfl ?_
    refine g_get dX0_addName_9 flX0_15 rfl rfl ?_
    refine g_iload_n dX0_addName_12 rfl rfl ?_
    refine g_dup2_11 dX0_addName_13 rfl rfl ?_
    refine g_iald dX0_addName_14 rfl (vin (N := 315) (by decide) (hr c5).1 (hr c5).2.2) ?_
    refine g_iload_n dX0_addName_15 rfl rfl ?_
    refine g_iadd dX0_addName_16 ?_
    refine p_iast dX0_addName_17 rfl (vin (N := 315) (by decide) (hr c5).1 (hr c5).2.2) (by with_reducible first | exact wA_7 _ _ _ | exact wA_8 _ _ _ | exact wA_9 _ _ _ | exact wA_17 _ _ _ | exact wA_18 _ _ _ | exact wA_19 _ _ _ | exact wA_27 _ _ _) ?_
    refine g_vret dX0_addName_18 rfl ⟨_, rfl, rfl, ?_⟩
    repeat' (with_reducible first | exact C8.rf _ | assumption | apply C8.a | apply C8.s | apply C8.l)
    all_goals decide
theorem ed_in16 {x y : Int32} (h1 : ¬ x < 0) (h2 : ¬ 315 ≤ x) (h3 : ¬ y < 0) (h4 : ¬ 8 ≤ y) : vp_in (x * 8 + y) 2520 := by
  obtain ⟨i, hi, rfl, -⟩ := pk_mu (L := 315) h1 h2 (by decide)
  obtain ⟨j, hj, rfl, -⟩ := pk_mu (L := 8) h3 h4 (by decide)
  rw [show (8 : Int32) = nI 8 from rfl, pk_mul, nI_add]
  exact vp_in_nI (by omega) (by decide)
set_option maxRecDepth 100000 in
set_option maxHeartbeats 4000000 in
theorem c_edgesOf16 (S : gS) (x y : Int32) : gCt MX0_edgesOf (1, 40) 0 0 [.ref 16, .int x, .int y] (wOf τ S) (gN (wOf τ) fun v S' => (∃ r : Int64, v = .long r) ∧ S = S') := by
  refine gCt.of (ls := [some (.ref 16), some (.int x), some (.int y)]) 0 (by decide) rfl (Nat.le_of_ble_eq_true rfl) ?_
  refine g_aload_n dX0_edgesOf_0 rfl rfl ?_
  refine g_iload_n dX0_edgesOf_1 rfl rfl ?_
  refine cV1N (fun _ _ => rfl) dX0_edgesOf_2 mlX0_26 imX0_isSlot seX0_isSlot rfl rfl (c_isSlot16 _ _) (by decide) (Nat.le_of_ble_eq_true rfl) (Nat.le_of_ble_eq_true rfl) (Nat.le_of_ble_eq_true rfl) ?_
  rintro _ _ ⟨⟨r, rfl, hr⟩, rfl⟩
  refine g_if_eq (tgt := 32) dX0_edgesOf_5 (by decide) (fun c5 => ?_) (fun c5 => ?_)
  · refine g_lconst (v := 0) dX0_edgesOf_32 (by decide) ?_
    refine g_lret dX0_edgesOf_33 rfl ⟨_, _, rfl, rfl, ?_⟩
    exact ⟨⟨_, rfl⟩, rfl⟩
  · refine g_iload_n dX0_edgesOf_8 rfl rfl ?_
    refine g_if_lt (tgt := 32) dX0_edgesOf_9 (by decide) (fun c9 => ?_) (fun c9 => ?_)
    · refine g_lconst (v := 0) dX0_edgesOf_32 (by decide) ?_
      refine g_lret dX0_edgesOf_33 rfl ⟨_, _, rfl, rfl, ?_⟩
      exact ⟨⟨_, rfl⟩, rfl⟩
    · refine g_iload_n dX0_edgesOf_12 rfl rfl ?_
      refine g_bipush (v := 8) dX0_edgesOf_13 (by decide) ?_
      refine g_icmp_ge (tgt := 32) dX0_edgesOf_15 (by decide) (fun c15 => ?_) (fun c15 => ?_)
      · refine g_lconst (v := 0) dX0_edgesOf_32 (by decide) ?_
        refine g_lret dX0_edgesOf_33 rfl ⟨_, _, rfl, rfl, ?_⟩
        exact ⟨⟨_, rfl⟩, rfl⟩
      · refine g_aload_n dX0_edgesOf_18 rfl rfl ?_
        refine g_get dX0_edgesOf_19 flX0_18 rfl rfl ?_
        refine g_iload_n dX0_edgesOf_22 rfl rfl ?_
        refine g_bipush (v := 8) dX0_edgesOf_23 (by decide) ?_
        refine g_imul dX0_edgesOf_25 ?_
        refine g_iload_n dX0_edgesOf_26 rfl rfl ?_
        refine g_iadd dX0_edgesOf_27 ?_
        refine g_lald dX0_edgesOf_28 rfl (ed_in16 (hr c5).1 (hr c5).2.2 c9 c15) ?_
        refine g_goto (tgt := 33) dX0_edgesOf_29 (by decide) ?_
        refine g_lret dX0_edgesOf_33 rfl ⟨_, _, rfl, rfl, ?_⟩
        exact ⟨⟨_, rfl⟩, rfl⟩
set_option maxRecDepth 100000 in
set_option maxHeartbeats 4000000 in
theorem l_find16 (S : gS) (x : Int32) : ∀ (m i : Nat), i + m = 316 → (S.1 16 3 ≤ 0 → i = 0) → G MX0_find (0, 0) 2 [some (.ref 16), some (.int x), some (.int (nI i))] [] (wOf τ S) 0 0 (gN (wOf τ) fun v S' => (∃ r : Int32, v = .int r ∧ (S.1 16 3 ≤ 0 → r = -1)) ∧ S = S') := by
  intro m
  induction m with
  | zero =>
    intro i hi h0
    obtain rfl : i = 316 := by omega
    refine g_iload_n dX0_find_2 rfl rfl ?_
    refine g_aload_n dX0_find_3 rfl rfl ?_
    refine g_get dX0_find_4 flX0_22 rfl rfl ?_
    refine g_icmp_ge (tgt := 35) dX0_find_7 (by decide) (fun c7 => ?_) (fun c7 => ?_)
    · refine g_iconst (v := (-1)) dX0_find_35 (by decide) ?_
      refine g_iret dX0_find_36 rfl ⟨_, _, rfl, rfl, ?_⟩
      exact ⟨⟨_, rfl, fun _ => rfl⟩, rfl⟩
    · refine g_iload_n dX0_find_10 rfl rfl ?_
      refine g_sipush (v := 315) dX0_find_11 (by decide) ?_
      refine g_icmp_ge (tgt := 35) dX0_find_14 (by decide) (fun c14 => ?_) (fun c14 => ?_)
      · refine g_iconst (v := (-1)) dX0_find_35 (by decide) ?_
        refine g_iret dX0_find_36 rfl ⟨_, _, rfl, rfl, ?_⟩
        exact ⟨⟨_, rfl, fun _ => rfl⟩, rfl⟩
      · exact absurd (show (315 : Int32) ≤ nI 316 by decide) c14
  | succ m ih =>
    intro i hi h0
    refine g_iload_n dX0_find_2 rfl rfl ?_
    refine g_aload_n dX0_find_3 rfl rfl ?_
    refine g_get dX0_find_4 flX0_22 rfl rfl ?_
    refine g_icmp_ge (tgt := 35) dX0_find_7 (by decide) (fun c7 => ?_) (fun c7 => ?_)
    · refine g_iconst (v := (-1)) dX0_find_35 (by decide) ?_
      refine g_iret dX0_find_36 rfl ⟨_, _, rfl, rfl, ?_⟩
      exact ⟨⟨_, rfl, fun _ => rfl⟩, rfl⟩
    · refine g_iload_n dX0_find_10 rfl rfl ?_
      refine g_sipush (v := 315) dX0_find_11 (by decide) ?_
      refine g_icmp_ge (tgt := 35) dX0_find_14 (by decide) (fun c14 => ?_) (fun c14 => ?_)
      · refine g_iconst (v := (-1)) dX0_find_35 (by decide) ?_
        refine g_iret dX0_find_36 rfl ⟨_, _, rfl, rfl, ?_⟩
        exact ⟨⟨_, rfl, fun _ => rfl⟩, rfl⟩
      · refine g_aload_n dX0_find_17 rfl rfl ?_
        refine g_get dX0_find_18 flX0_9 rfl rfl ?_
        refine g_iload_n dX0_find_21 rfl rfl ?_
        refine g_iald dX0_find_22 rfl (vin (N := 315) (by decide) (nI_pos (by omega)) c14) ?_
        refine g_iload_n dX0_find_23 rfl rfl ?_
        refine g_icmp_ne (tgt := 29) dX0_find_24 (by decide) (fun c24 => ?_) (fun c24 => ?_)
        · refine g_iinc dX0_find_29 rfl (by decide) (by first | exact gi_1 _ | exact gi_p _) ?_
          refine g_goto (tgt := 2) dX0_find_32 (by decide) ?_
          exact ih (i + 1) (by omega) (fun z => absurd (Int32.le_trans z (nI_pos' (by omega))) c7)
        · refine g_iload_n dX0_find_27 rfl rfl ?_
          refine g_iret dX0_find_28 rfl ⟨_, _, rfl, rfl, ?_⟩
          exact ⟨⟨_, rfl, fun z => absurd (Int32.le_trans z (nI_pos' (by omega))) c7⟩, rfl⟩
set_option maxRecDepth 100000 in
set_option maxHeartbeats 4000000 in
theorem c_find16 (S : gS) (x : Int32) : gCt MX0_find (0, 0) 0 0 [.ref 16, .int x] (wOf τ S) (gN (wOf τ) fun v S' => (∃ r : Int32, v = .int r ∧ (S.1 16 3 ≤ 0 → r = -1)) ∧ S = S') := by
  refine gCt.of (ls := [some (.ref 16), some (.int x), none]) 1 (by decide) rfl (Nat.le_of_ble_eq_true rfl) ?_
  refine g_iconst (v := 0) dX0_find_0 (by decide) ?_
  refine g_istore_n dX0_find_1 rfl (by decide) ?_
  exact l_find16 S x 316 0 rfl (fun _ => rfl)
set_option maxRecDepth 100000 in
set_option maxHeartbeats 4000000 in
theorem c_addSlot16 (S : gS) (x : Int32) : gCt MX0_addSlot (0, 0) 0 0 [.ref 16, .int x] (wOf τ S) (gN (wOf τ) fun v S' => (∃ r : Int32, v = .int r) ∧ C8 S S') := by
  refine gCt.of (ls := [some (.ref 16), some (.int x)]) 0 (by decide) rfl (Nat.le_of_ble_eq_true rfl) ?_
  refine g_aload_n dX0_addSlot_0 rfl rfl ?_
  refine g_get dX0_addSlot_1 flX0_22 rfl rfl ?_
  refine g_if_lt (tgt := 17) dX0_addSlot_4 (by decide) (fun c4 => ?_) (fun c4 => ?_)
  · refine g_iconst (v := (-1)) dX0_addSlot_17 (by decide) ?_
    refine g_iret dX0_addSlot_18 rfl ⟨_, _, rfl, rfl, ?_⟩
    refine ⟨⟨_, rfl⟩, ?_⟩
    repeat' (with_reducible first | exact C8.rf _ | assumption | apply C8.a | apply C8.s | apply C8.l)
    all_goals decide
  · refine g_aload_n dX0_addSlot_7 rfl rfl ?_
    refine g_get dX0_addSlot_8 flX0_22 rfl rfl ?_
    refine g_sipush (v := 315) dX0_addSlot_11 (by decide) ?_
    refine g_icmp_lt (tgt := 19) dX0_addSlot_14 (by decide) (fun c14 => ?_) (fun c14 => ?_)
    · refine g_aload_n dX0_addSlot_19 rfl rfl ?_
      refine g_get dX0_addSlot_20 flX0_9 rfl rfl ?_
      refine g_aload_n dX0_addSlot_23 rfl rfl ?_
      refine g_get dX0_addSlot_24 flX0_22 rfl rfl ?_
      refine g_iload_n dX0_addSlot_27 rfl rfl ?_
      refine p_iast dX0_addSlot_28 rfl (vin2 (N := 315) (by decide) c4 c14) (by with_reducible first | exact wA_7 _ _ _ | exact wA_8 _ _ _ | exact wA_9 _ _ _ | exact wA_17 _ _ _ | exact wA_18 _ _ _ | exact wA_19 _ _ _ | exact wA_27 _ _ _) ?_
      refine g_aload_n dX0_addSlot_29 rfl rfl ?_
      refine g_get dX0_addSlot_30 flX0_15 rfl rfl ?_
      refine g_aload_n dX0_addSlot_33 rfl rfl ?_
      refine g_get dX0_addSlot_34 flX0_22 rfl rfl ?_
      refine g_iconst (v := 0) dX0_addSlot_37 (by decide) ?_
      refine p_iast dX0_addSlot_38 rfl (vin2 (N := 315) (by decide) c4 c14) (by with_reducible first | exact wA_7 _ _ _ | exact wA_8 _ _ _ | exact wA_9 _ _ _ | exact wA_17 _ _ _ | exact wA_18 _ _ _ | exact wA_19 _ _ _ | exact wA_27 _ _ _) ?_
      refine g_aload_n dX0_addSlot_39 rfl rfl ?_
      refine g_dup dX0_addSlot_40 rfl ?_
      refine g_get dX0_addSlot_41 flX0_22 rfl rfl ?_
      refine g_iconst (v := 1) dX0_addSlot_44 (by decide) ?_
      refine g_iadd dX0_addSlot_45 ?_
      refine p_put dX0_addSlot_46 fpX0_22 rfl (Nat.le_of_ble_eq_true rfl) (fun _ => rfl) (fun _ => rfl) (by with_reducible first | exact wS_6_3 _ _ _ | exact wS_16_3 _ _ _) ?_
      refine g_aload_n dX0_addSlot_49 rfl rfl ?_
      refine g_get dX0_addSlot_50 flX0_22 rfl rfl ?_
      refine g_iconst (v := 1) dX0_addSlot_53 (by decide) ?_
      refine g_isub dX0_addSlot_54 ?_
      refine g_iret dX0_addSlot_55 rfl ⟨_, _, rfl, rfl, ?_⟩
      refine ⟨⟨_, rfl⟩, ?_⟩
      repeat' (with_reducible first | exact C8.rf _ | assumption | apply C8.a | apply C8.s | apply C8.l)
      all_goals decide
    · refine g_iconst (v := (-1)) dX0_addSlot_17 (by decide) ?_
      refine g_iret dX0_addSlot_18 rfl ⟨_, _, rfl, rfl, ?_⟩
      refine ⟨⟨_, rfl⟩, ?_⟩
      repeat' (with_reducible first | exact C8.rf _ | assumption | apply C8.a | apply C8.s | apply C8.l)
      all_goals decide
set_option maxRecDepth 100000 in
set_option maxHeartbeats 4000000 in
theorem l_take16 (S0 : gS) (x pl : Int32) (sl : Int32) : ∀ (m i : Nat), i + m = 8 → ∀ (S : gS), C8 S0 S → G MX0_take (2, 80) 23 [some (.ref 16), some (.int x), some (.ref 1), some (.int pl), some (.int sl), some (.int (nI i))] [] (wOf τ S) 0 0 (g0 (wOf τ) fun S' => C8 S0 S') := by
  intro m
  induction m with
  | zero =>
    intro i hi S hS
    obtain rfl : i = 8 := by omega
    refine g_iload dX0_take_23 rfl ?_
    refine g_bipush (v := 8) dX0_take_25 (by decide) ?_
    refine g_icmp_ge (tgt := 71) dX0_take_27 (by decide) (fun c27 => ?_) (fun c27 => ?_)
    · refine g_vret dX0_take_71 rfl ⟨_, rfl, rfl, ?_⟩
      exact hS
    · exact absurd (show (8 : Int32) ≤ nI 8 by decide) c27
  | succ m ih =>
    intro i hi S hS
    refine g_iload dX0_take_23 rfl ?_
    refine g_bipush (v := 8) dX0_take_25 (by decide) ?_
    refine g_icmp_ge (tgt := 71) dX0_take_27 (by decide) (fun c27 => ?_) (fun c27 => ?_)
    · refine g_vret dX0_take_71 rfl ⟨_, rfl, rfl, ?_⟩
      exact hS
    · refine g_aload_n dX0_take_30 rfl rfl ?_
      refine g_iload dX0_take_31 rfl ?_
      refine cV1N (fun _ _ => rfl) dX0_take_33 mlX0_26 imX0_isSlot seX0_isSlot rfl rfl (c_isSlot16 _ _) (by decide) (Nat.le_of_ble_eq_true rfl) (Nat.le_of_ble_eq_true rfl) (Nat.le_of_ble_eq_true rfl) ?_
      rintro _ _ ⟨⟨r, rfl, hr⟩, rfl⟩
      refine g_if_eq (tgt := 71) dX0_take_36 (by decide) (fun c36 => ?_) (fun c36 => ?_)
      · refine g_vret dX0_take_71 rfl ⟨_, rfl, rfl, ?_⟩
        exact hS
      · refine g_aload_n dX0_take_39 rfl rfl ?_
        refine g_get dX0_take_40 flX0_18 rfl rfl ?_
        refine g_iload dX0_take_43 rfl ?_
        refine g_bipush (v := 8) dX0_take_45 (by decide) ?_
        refine g_imul dX0_take_47 ?_
        refine g_iload dX0_take_48 rfl ?_
        refine g_iadd dX0_take_50 ?_
        refine g_aload_n dX0_take_51 rfl rfl ?_
        refine g_iload_n dX0_take_52 rfl rfl ?_
        refine g_bipush (v := 8) dX0_take_53 (by decide) ?_
        refine g_iload dX0_take_55 rfl ?_
        refine g_imul dX0_take_57 ?_
        refine g_iadd dX0_take_58 ?_
        refine g_bipush (v := 8) dX0_take_59 (by decide) ?_
        refine cV2N (fun _ _ => rfl) dX0_take_61 mlX0_37 imX1_number seX1_number rfl rfl (c_number _ _ 8 (by decide)) (by decide) (Nat.le_of_ble_eq_true rfl) (Nat.le_of_ble_eq_true rfl) (Nat.le_of_ble_eq_true rfl) ?_
        rintro _ _ ⟨rfl, rfl⟩
        refine p_last dX0_take_64 rfl (ed_in16 (hr c36).1 (hr c36).2.2 (nI_pos (by omega)) c27) (by with_reducible first | exact wA_9 _ _ _ | exact wA_19 _ _ _) ?_
        refine g_iinc dX0_take_65 rfl (by decide) (by first | exact gi_1 _ | exact gi_p _) ?_
        refine g_goto (tgt := 23) dX0_take_68 (by decide) ?_
        exact ih (i + 1) (by omega) _ (C8.l hS (by decide))
set_option maxRecDepth 100000 in
set_option maxHeartbeats 4000000 in
theorem c_take16 (S : gS) (x pl : Int32) : gCt MX0_take (2, 80) 0 0 [.ref 16, .int x, .ref 1, .int pl] (wOf τ S) (g0 (wOf τ) fun S' => C8 S S') := by
  refine gCt.of (ls := [some (.ref 16), some (.int x), some (.ref 1), some (.int pl), none, none]) 2 (by decide) rfl (Nat.le_of_ble_eq_true rfl) ?_
  refine g_aload_n dX0_take_0 rfl rfl ?_
  refine g_iload_n dX0_take_1 rfl rfl ?_
  refine cV1N (fun _ _ => rfl) dX0_take_2 mlX0_30 imX0_find seX0_find rfl rfl (c_find16 _ _) (by decide) (Nat.le_of_ble_eq_true rfl) (Nat.le_of_ble_eq_true rfl) (Nat.le_of_ble_eq_true rfl) ?_
  rintro _ _ ⟨⟨r, rfl, -⟩, rfl⟩
  refine g_istore dX0_take_5 (by decide) ?_
  refine g_iload dX0_take_7 rfl ?_
  refine g_iconst (v := (-1)) dX0_take_9 (by decide) ?_
  refine g_icmp_ne (tgt := 20) dX0_take_10 (by decide) (fun c10 => ?_) (fun c10 => ?_)
  · refine g_iconst (v := 0) dX0_take_20 (by decide) ?_
    refine g_istore dX0_take_21 (by decide) ?_
    exact l_take16 S x pl _ 8 0 rfl _ (by first | exact C8.rf _ | assumption)
  · refine g_aload_n dX0_take_13 rfl rfl ?_
    refine g_iload_n dX0_take_14 rfl rfl ?_
    refine cV1N (fun _ _ => rfl) dX0_take_15 mlX0_34 imX0_addSlot seX0_addSlot rfl rfl (c_addSlot16 _ _) (by decide) (Nat.le_of_ble_eq_true rfl) (Nat.le_of_ble_eq_true rfl) (Nat.le_of_ble_eq_true rfl) ?_
    rintro _ S1 ⟨⟨r1, rfl⟩, hS1⟩
    refine g_istore dX0_take_18 (by decide) ?_
    refine g_iconst (v := 0) dX0_take_20 (by decide) ?_
    refine g_istore dX0_take_21 (by decide) ?_
    exact l_take16 S x pl _ 8 0 rfl _ (by first | exact C8.rf _ | assumption)
set_option maxRecDepth 100000 in
set_option maxHeartbeats 4000000 in
theorem l_countNamed16 (S : gS) : ∀ (m i : Nat) (a : Int32), i + m = 2 ^ 31 - 1 → (S.1 16 3 ≤ 0 → a = 0) → G MX0_countNamed (2, 61) 4 [some (.ref 16), some (.int a), some (.int (nI i))] [] (wOf τ S) 0 0 (gN (wOf τ) fun v S' => (∃ r : Int32, v = .int r ∧ (S.1 16 3 ≤ 0 → r = 0)) ∧ S = S') := by
  intro m
  induction m with
  | zero =>
    intro i a hi ha
    have hle : S.1 16 3 ≤ nI i := by
      refine Classical.byContradiction fun z => ?_
      obtain ⟨j, hj, -, hij⟩ := nI_lt_of (by omega) z
      omega
    refine g_iload_n dX0_countNamed_4 rfl rfl ?_
    refine g_aload_n dX0_countNamed_5 rfl rfl ?_
    refine g_get dX0_countNamed_6 flX0_22 rfl rfl ?_
    refine g_icmp_ge (tgt := 29) dX0_countNamed_9 (by decide) (fun c9 => ?_) (fun c9 => ?_)
    · refine g_iload_n dX0_countNamed_29 rfl rfl ?_
      refine g_iret dX0_countNamed_30 rfl ⟨_, _, rfl, rfl, ?_⟩
      exact ⟨⟨_, rfl, ha⟩, rfl⟩
    · exact absurd hle c9
  | succ m ih =>
    intro i a hi ha
    refine g_iload_n dX0_countNamed_4 rfl rfl ?_
    refine g_aload_n dX0_countNamed_5 rfl rfl ?_
    refine g_get dX0_countNamed_6 flX0_22 rfl rfl ?_
    refine g_icmp_ge (tgt := 29) dX0_countNamed_9 (by decide) (fun c9 => ?_) (fun c9 => ?_)
    · refine g_iload_n dX0_countNamed_29 rfl rfl ?_
      refine g_iret dX0_countNamed_30 rfl ⟨_, _, rfl, rfl, ?_⟩
      exact ⟨⟨_, rfl, ha⟩, rfl⟩
    · refine g_aload_n dX0_countNamed_12 rfl rfl ?_
      refine g_iload_n dX0_countNamed_13 rfl rfl ?_
      refine cV1N (fun _ _ => rfl) dX0_countNamed_14 mlX0_43 imX0_namesOf seX0_namesOf rfl rfl (c_namesOf16 _ _) (by decide) (Nat.le_of_ble_eq_true rfl) (Nat.le_of_ble_eq_true rfl) (Nat.le_of_ble_eq_true rfl) ?_
      rintro _ _ ⟨⟨r, rfl, -⟩, rfl⟩
      refine g_if_le (tgt := 23) dX0_countNamed_17 (by decide) (fun c17 => ?_) (fun c17 => ?_)
      · refine g_iinc dX0_countNamed_23 rfl (by decide) (by first | exact gi_1 _ | exact gi_p _) ?_
        refine g_goto (tgt := 4) dX0_countNamed_26 (by decide) ?_
        exact ih (i + 1) _ (by omega) (fun z => absurd (Int32.le_trans z (nI_pos' (by omega))) c9)
      · refine g_iinc dX0_countNamed_20 rfl (by decide) (by first | exact gi_1 _ | exact gi_p _) ?_
        refine g_iinc dX0_countNamed_23 rfl (by decide) (by first | exact gi_1 _ | exact gi_p _) ?_
        refine g_goto (tgt := 4) dX0_countNamed_26 (by decide) ?_
        exact ih (i + 1) _ (by omega) (fun z => absurd (Int32.le_trans z (nI_pos' (by omega))) c9)
set_option maxRecDepth 100000 in
set_option maxHeartbeats 4000000 in
theorem c_countNamed16 (S : gS) : gCt MX0_countNamed (2, 61) 0 0 [.ref 16] (wOf τ S) (gN (wOf τ) fun v S' => (∃ r : Int32, v = .int r ∧ (S.1 16 3 ≤ 0 → r = 0)) ∧ S = S') := by
  refine gCt.of (ls := [some (.ref 16), none, none]) 2 (by decide) rfl (Nat.le_of_ble_eq_true rfl) ?_
  refine g_iconst (v := 0) dX0_countNamed_0 (by decide) ?_
  refine g_istore_n dX0_countNamed_1 rfl (by decide) ?_
  refine g_iconst (v := 0) dX0_countNamed_2 (by decide) ?_
  refine g_istore_n dX0_countNamed_3 rfl (by decide) ?_
  exact l_countNamed16 S (2 ^ 31 - 1) 0 0 (by omega) (fun _ => rfl)
end
