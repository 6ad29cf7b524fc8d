section
variable {τ : gW}
theorem g_tsw {X : gXs} {M : gM} {d : Nat × Nat} {pc : Nat} {ls : List (Option Value)} {st : List Value} {w : gW} {k n : Nat} {Q : gR → gW → Prop} {dflt lo hi : Int} {offs : Array Int} {len : Nat} {x : Int32} {ts : List Nat} (hd : decode M.2.1 pc = .ok (.tableswitch dflt lo hi offs, len)) (hp : (∀ o ∈ dflt :: offs.toList, ∃ t ∈ ts, (pc : Int) + o = (t : Int)) ∧ offs.size = (hi - lo + 1).toNat) (h : ∀ t ∈ ts, GE X M d t ls st w k n Q) : GE X M d pc ls (.int x :: st) w k n Q := by
  by_cases h1 : x.toInt < lo
  · obtain ⟨t, ht, e⟩ := hp.1 dflt List.mem_cons_self
    exact g_tableOut hd (Or.inl h1) e (h t ht)
  by_cases h2 : hi < x.toInt
  · obtain ⟨t, ht, e⟩ := hp.1 dflt List.mem_cons_self
    exact g_tableOut hd (Or.inr h2) e (h t ht)
  have h3 : (x.toInt - lo).toNat < offs.size := by rw [hp.2]; omega
  obtain ⟨t, ht, e⟩ := hp.1 offs[(x.toInt - lo).toNat] (List.mem_cons_of_mem _ (Array.getElem_mem_toList h3))
  exact g_tableIn hd h1 h2 (Array.getElem?_eq_getElem h3) e (h t ht)
theorem g_tsw3 {X : gXs} {M : gM} {d : Nat × Nat} {pc : Nat} {ls : List (Option Value)} {st : List Value} {w : gW} {k n : Nat} {Q : gR → gW → Prop} {dflt lo hi : Int} {offs : Array Int} {len : Nat} {x : Int32} {ts : List Nat} {tv : Nat} {e : Int} (hd : decode M.2.1 pc = .ok (.tableswitch dflt lo hi offs, len)) (hp : (∀ o ∈ dflt :: offs.toList, ∃ t ∈ ts, (pc : Int) + o = (t : Int)) ∧ offs.size = (hi - lo + 1).toNat) (hv : (∀ i : Fin offs.size, (pc : Int) + offs[i] = (tv : Int) → lo + ((i : Nat) : Int) = e) ∧ ¬ (pc : Int) + dflt = (tv : Int)) (h : ∀ t ∈ ts, (t = tv → x.toInt = e) → GE X M d t ls st w k n Q) : GE X M d pc ls (.int x :: st) w k n Q := by
  by_cases h1 : x.toInt < lo
  · obtain ⟨t, ht, e1⟩ := hp.1 dflt List.mem_cons_self
    exact g_tableOut hd (Or.inl h1) e1 (h t ht (fun z => absurd (by rw [e1, z]) hv.2))
  by_cases h2 : hi < x.toInt
  · obtain ⟨t, ht, e1⟩ := hp.1 dflt List.mem_cons_self
    exact g_tableOut hd (Or.inr h2) e1 (h t ht (fun z => absurd (by rw [e1, z]) hv.2))
  have h3 : (x.toInt - lo).toNat < offs.size := by rw [hp.2]; omega
  obtain ⟨t, ht, e1⟩ := hp.1 offs[(x.toInt - lo).toNat] (List.mem_cons_of_mem _ (Array.getElem_mem_toList h3))
  refine g_tableIn hd h1 h2 (Array.getElem?_eq_getElem h3) e1 (h t ht (fun z => ?_))
  have h4 := hv.1 ⟨(x.toInt - lo).toNat, h3⟩ (by rw [← z]; exact e1)
  have h5 : (((x.toInt - lo).toNat : Nat) : Int) = x.toInt - lo := Int.toNat_of_nonneg (by omega)
  simp only [h5] at h4
  omega
theorem sh0 (s : UInt64) : ((0 : Int64).toUInt64 >>> s).toInt64 = 0 := by
  have : (0 : Int64).toUInt64 = 0 := rfl
  rw [this, UInt64.zero_shiftRight]; rfl
theorem cmp00 : lg_cmp ((0 : Int64) &&& 1) 0 = 0 := by decide
theorem ix8 {x y : Int32} {N : Nat} (hN : N < 2 ^ 27) (h1 : ¬ x < 0) (h2 : ¬ Int32.ofNat N ≤ x) (h3 : ¬ y < 0) (h4 : ¬ 8 ≤ y) : vp_in (x * 8 + y) (N * 8) := by
  obtain ⟨i, hi, rfl, -⟩ := pk_mu (L := N) h1 h2 (by omega)
  obtain ⟨j, hj, rfl, -⟩ := pk_mu (L := 8) h3 h4 (by decide)
  rw [show (8 : Int32) = nI 8 from rfl, pk_mul, nI_add]
  exact vp_in_nI (by omega) (by omega)
theorem fillL_in (f : Nat → Int64) (v : Int64) : ∀ (n j : Nat), j < n → fillL f v n j = v := by
  intro n
  induction n with
  | zero => intro j h; omega
  | succ n ih =>
    intro j h
    simp only [fillL, vp_updL]
    by_cases e : j = n
    · rw [if_pos e]
    · rw [if_neg e]; exact ih j (by omega)
theorem lt0 {x c : Int32} (h : c ≤ 0) (h0 : ¬ x < 0) : c ≤ x := Int32.le_trans h (Int32.not_lt.mp h0)
set_option maxRecDepth 100000 in
set_option maxHeartbeats 4000000 in
theorem c_sizeOf (S : gS) (x : Int32) : gCt MX4_sizeOf (0, 0) 0 0 [.int x] (wOf τ S) (gN (wOf τ) fun v S' => (∃ r : Int32, v = .int r) ∧ S = S') := by
  refine gCt.of (ls := [some (.int x)]) 0 (by decide) rfl (Nat.le_of_ble_eq_true rfl) ?_
  refine g_iload_n dX4_sizeOf_0 rfl rfl ?_
  refine g_tsw (ts := [36, 39, 41, 44, 47, 49]) dX4_sizeOf_1 (by decide) (fun t ht => ?_)
  simp only [List.mem_cons, List.not_mem_nil, or_false] at ht
  rcases ht with rfl | rfl | rfl | rfl | rfl | rfl
  · refine g_bipush (v := 64) dX4_sizeOf_36 (by decide) ?_
    refine g_iret dX4_sizeOf_38 rfl ⟨_, _, rfl, rfl, ?_⟩
    exact ⟨⟨_, rfl⟩, rfl⟩
  · refine g_iconst (v := 3) dX4_sizeOf_39 (by decide) ?_
    refine g_iret dX4_sizeOf_40 rfl ⟨_, _, rfl, rfl, ?_⟩
    exact ⟨⟨_, rfl⟩, rfl⟩
  · refine g_bipush (v := 16) dX4_sizeOf_41 (by decide) ?_
    refine g_iret dX4_sizeOf_43 rfl ⟨_, _, rfl, rfl, ?_⟩
    exact ⟨⟨_, rfl⟩, rfl⟩
  · refine g_bipush (v := 10) dX4_sizeOf_44 (by decide) ?_
    refine g_iret dX4_sizeOf_46 rfl ⟨_, _, rfl, rfl, ?_⟩
    exact ⟨⟨_, rfl⟩, rfl⟩
  · refine g_iconst (v := 0) dX4_sizeOf_47 (by decide) ?_
    refine g_iret dX4_sizeOf_48 rfl ⟨_, _, rfl, rfl, ?_⟩
    exact ⟨⟨_, rfl⟩, rfl⟩
  · refine g_iconst (v := (-1)) dX4_sizeOf_49 (by decide) ?_
    refine g_iret dX4_sizeOf_50 rfl ⟨_, _, rfl, rfl, ?_⟩
    exact ⟨⟨_, rfl⟩, rfl⟩
def kfor4 (room : Int32) (S : gS) : gS := mS (mS (mS (mS (mS (mS (mL (mS S 4 6 room) 5 (fillL ((mS S 4 6 room).2.2 5) 0 64)) 6 3 0) 4 7 0) 4 8 0) 4 9 0) 4 10 0) 4 11 0
set_option maxRecDepth 100000 in
set_option maxHeartbeats 4000000 in
theorem c_knForget4 (S : gS) (x : Int32) : gCt MX2_forget (1, 40) 0 0 [.ref 4, .int x] (wOf τ S) (g0 (wOf τ) fun S' => S' = kfor4 x S) := by
  refine gCt.of (ls := [some (.ref 4), some (.int x)]) 0 (by decide) rfl (Nat.le_of_ble_eq_true rfl) ?_
  refine g_aload_n dX2_forget_0 rfl rfl ?_
  refine g_iload_n dX2_forget_1 rfl rfl ?_
  refine p_put dX2_forget_2 fpX2_36 rfl (Nat.le_of_ble_eq_true rfl) (fun _ => rfl) (fun _ => rfl) (by with_reducible first | exact wS_4_6 _ _ _ | exact wS_14_6 _ _ _) ?_
  refine g_aload_n dX2_forget_5 rfl rfl ?_
  refine g_get dX2_forget_6 flX2_9 rfl rfl ?_
  refine g_lconst (v := 0) dX2_forget_9 (by decide) ?_
  refine cS20 (fun _ _ => rfl) dX2_forget_10 mlX2_40 isJ7_fill_d0a16 (c_fillL5 _ _) (by decide) (Nat.le_of_ble_eq_true rfl) (Nat.le_of_ble_eq_true rfl) (Nat.le_of_ble_eq_true rfl) ?_
  rintro _ rfl
  refine g_aload_n dX2_forget_13 rfl rfl ?_
  refine g_get dX2_forget_14 flX2_18 rfl rfl ?_
  refine cV00 (fun _ _ => rfl) dX2_forget_17 mlX2_46 imX0_forget seX0_forget rfl rfl (c_chForget6 _) (by decide) (Nat.le_of_ble_eq_true rfl) (Nat.le_of_ble_eq_true rfl) (Nat.le_of_ble_eq_true rfl) ?_
  rintro _ rfl
  refine g_aload_n dX2_forget_20 rfl rfl ?_
  refine g_iconst (v := 0) dX2_forget_21 (by decide) ?_
  refine p_put dX2_forget_22 fpX2_49 rfl (Nat.le_of_ble_eq_true rfl) (fun _ => rfl) (fun _ => rfl) (by with_reducible first | exact wS_4_7 _ _ _ | exact wS_14_7 _ _ _) ?_
  refine g_aload_n dX2_forget_25 rfl rfl ?_
  refine g_iconst (v := 0) dX2_forget_26 (by decide) ?_
  refine p_put dX2_forget_27 fpX2_52 rfl (Nat.le_of_ble_eq_true rfl) (fun _ => rfl) (fun _ => rfl) (by with_reducible first | exact wS_4_8 _ _ _ | exact wS_14_8 _ _ _) ?_
  refine g_aload_n dX2_forget_30 rfl rfl ?_
  refine g_iconst (v := 0) dX2_forget_31 (by decide) ?_
  refine p_put dX2_forget_32 fpX2_55 rfl (Nat.le_of_ble_eq_true rfl) (fun _ => rfl) (fun _ => rfl) (by with_reducible first | exact wS_4_9 _ _ _ | exact wS_14_9 _ _ _) ?_
  refine g_aload_n dX2_forget_35 rfl rfl ?_
  refine g_iconst (v := 0) dX2_forget_36 (by decide) ?_
  refine p_put dX2_forget_37 fpX2_58 rfl (Nat.le_of_ble_eq_true rfl) (fun _ => rfl) (fun _ => rfl) (by with_reducible first | exact wS_4_10 _ _ _ | exact wS_14_10 _ _ _) ?_
  refine g_aload_n dX2_forget_40 rfl rfl ?_
  refine g_iconst (v := 0) dX2_forget_41 (by decide) ?_
  refine p_put dX2_forget_42 fpX2_61 rfl (Nat.le_of_ble_eq_true rfl) (fun _ => rfl) (fun _ => rfl) (by with_reducible first | exact wS_4_11 _ _ _ | exact wS_14_11 _ _ _) ?_
  refine g_vret dX2_forget_45 rfl ⟨_, rfl, rfl, ?_⟩
  rfl
set_option maxRecDepth 100000 in
set_option maxHeartbeats 4000000 in
theorem c_isThere4 (S : gS) (x : Int32) : gCt MX2_isThere (0, 0) 0 0 [.ref 4, .int x] (wOf τ S) (gN (wOf τ) fun v S' => (∃ r : Int32, v = .int r ∧ (r = 0 ∨ r = 1) ∧ (¬ r = 0 → ¬ x < 0 ∧ ¬ S.1 4 8 ≤ x ∧ ¬ 100 ≤ x)) ∧ S = S') := by
  refine gCt.of (ls := [some (.ref 4), some (.int x)]) 0 (by decide) rfl (Nat.le_of_ble_eq_true rfl) ?_
  refine g_iload_n dX2_isThere_0 rfl rfl ?_
  refine g_if_lt (tgt := 31) dX2_isThere_1 (by decide) (fun c1 => ?_) (fun c1 => ?_)
  · refine g_iconst (v := 0) dX2_isThere_31 (by decide) ?_
    refine g_zret dX2_isThere_32 rfl (by first | rfl | assumption) ⟨_, _, rfl, rfl, ?_⟩
    first | exact ⟨⟨_, rfl, Or.inr rfl, fun _ => ⟨c1, c9, c15⟩⟩, rfl⟩ | exact ⟨⟨_, rfl, Or.inl rfl, fun h => absurd rfl h⟩, rfl⟩
  · refine g_iload_n dX2_isThere_4 rfl rfl ?_
    refine g_aload_n dX2_isThere_5 rfl rfl ?_
    refine g_get dX2_isThere_6 flX2_52 rfl rfl ?_
    refine g_icmp_ge (tgt := 31) dX2_isThere_9 (by decide) (fun c9 => ?_) (fun c9 => ?_)
    · refine g_iconst (v := 0) dX2_isThere_31 (by decide) ?_
      refine g_zret dX2_isThere_32 rfl (by first | rfl | assumption) ⟨_, _, rfl, rfl, ?_⟩
      first | exact ⟨⟨_, rfl, Or.inr rfl, fun _ => ⟨c1, c9, c15⟩⟩, rfl⟩ | exact ⟨⟨_, rfl, Or.inl rfl, fun h => absurd rfl h⟩, rfl⟩
    · refine g_iload_n dX2_isThere_12 rfl rfl ?_
      refine g_bipush (v := 100) dX2_isThere_13 (by decide) ?_
      refine g_icmp_ge (tgt := 31) dX2_isThere_15 (by decide) (fun c15 => ?_) (fun c15 => ?_)
      · refine g_iconst (v := 0) dX2_isThere_31 (by decide) ?_
        refine g_zret dX2_isThere_32 rfl (by first | rfl | assumption) ⟨_, _, rfl, rfl, ?_⟩
        first | exact ⟨⟨_, rfl, Or.inr rfl, fun _ => ⟨c1, c9, c15⟩⟩, rfl⟩ | exact ⟨⟨_, rfl, Or.inl rfl, fun h => absurd rfl h⟩, rfl⟩
      · refine g_aload_n dX2_isThere_18 rfl rfl ?_
        refine g_get dX2_isThere_19 flX2_22 rfl rfl ?_
        refine g_iload_n dX2_isThere_22 rfl rfl ?_
        refine g_zald dX2_isThere_23 rfl (vin (N := 100) (by decide) c1 c15) ?_
        refine g_if_eq (tgt := 31) dX2_isThere_24 (by decide) (fun c24 => ?_) (fun c24 => ?_)
        · refine g_iconst (v := 0) dX2_isThere_31 (by decide) ?_
          refine g_zret dX2_isThere_32 rfl (by first | rfl | assumption) ⟨_, _, rfl, rfl, ?_⟩
          first | exact ⟨⟨_, rfl, Or.inr rfl, fun _ => ⟨c1, c9, c15⟩⟩, rfl⟩ | exact ⟨⟨_, rfl, Or.inl rfl, fun h => absurd rfl h⟩, rfl⟩
        · refine g_iconst (v := 1) dX2_isThere_27 (by decide) ?_
          refine g_goto (tgt := 32) dX2_isThere_28 (by decide) ?_
          refine g_zret dX2_isThere_32 rfl (by first | rfl | assumption) ⟨_, _, rfl, rfl, ?_⟩
          first | exact ⟨⟨_, rfl, Or.inr rfl, fun _ => ⟨c1, c9, c15⟩⟩, rfl⟩ | exact ⟨⟨_, rfl, Or.inl rfl, fun h => absurd rfl h⟩, rfl⟩
set_option maxRecDepth 100000 in
set_option maxHeartbeats 4000000 in
theorem l_countThere4 (S : gS) : ∀ (m i : Nat) (a : Int32), i + m = 2 ^ 31 - 1 → (S.1 4 8 ≤ 0 → a = 0) → G MX2_countThere (1, 40) 4 [some (.ref 4), some (.int a), some (.int (nI i))] [] (wOf τ S) 0 0 (gN (wOf τ) fun v S' => (∃ r : Int32, v = .int r ∧ (S.1 4 8 ≤ 0 → r = 0)) ∧ S = S') := by
  intro m
  induction m with
  | zero =>
    intro i a hi ha
    have hle : S.1 4 8 ≤ nI i := by
      refine Classical.byContradiction fun z => ?_
      obtain ⟨j, hj, -, hij⟩ := nI_lt_of (by omega) z
      omega
    refine g_iload_n dX2_countThere_4 rfl rfl ?_
    refine g_aload_n dX2_countThere_5 rfl rfl ?_
    refine g_get dX2_countThere_6 flX2_52 rfl rfl ?_
    refine g_icmp_ge (tgt := 29) dX2_countThere_9 (by decide) (fun c9 => ?_) (fun c9 => ?_)
    · refine g_iload_n dX2_countThere_29 rfl rfl ?_
      refine g_iret dX2_countThere_30 rfl ⟨_, _, rfl, rfl, ?_⟩
      exact ⟨⟨_, rfl, ha⟩, rfl⟩
    · exact absurd hle c9
  | succ m ih =>
    intro i a hi ha
    refine g_iload_n dX2_countThere_4 rfl rfl ?_
    refine g_aload_n dX2_countThere_5 rfl rfl ?_
    refine g_get dX2_countThere_6 flX2_52 rfl rfl ?_
    refine g_icmp_ge (tgt := 29) dX2_countThere_9 (by decide) (fun c9 => ?_) (fun c9 => ?_)
    · refine g_iload_n dX2_countThere_29 rfl rfl ?_
      refine g_iret dX2_countThere_30 rfl ⟨_, _, rfl, rfl, ?_⟩
      exact ⟨⟨_, rfl, ha⟩, rfl⟩
    · refine g_aload_n dX2_countThere_12 rfl rfl ?_
      refine g_iload_n dX2_countThere_13 rfl rfl ?_
      refine cV1N (fun _ _ => rfl) dX2_countThere_14 mlX2_64 imX2_isThere seX2_isThere rfl rfl (c_isThere4 _ _) (by decide) (Nat.le_of_ble_eq_true rfl) (Nat.le_of_ble_eq_true rfl) (Nat.le_of_ble_eq_true rfl) ?_
      rintro _ _ ⟨⟨rt, rfl, ht01, ht⟩, rfl⟩
      refine g_if_eq (tgt := 23) dX2_countThere_17 (by decide) (fun c17 => ?_) (fun c17 => ?_)
      · refine g_iinc dX2_countThere_23 rfl (by decide) (by first | exact gi_1 _ | exact gi_p _) ?_
        refine g_goto (tgt := 4) dX2_countThere_26 (by decide) ?_
        exact ih (i + 1) _ (by omega) (fun z => absurd (Int32.le_trans z (nI_pos' (by omega))) c9)
      · refine g_iinc dX2_countThere_20 rfl (by decide) (by first | exact gi_1 _ | exact gi_p _) ?_
        refine g_iinc dX2_countThere_23 rfl (by decide) (by first | exact gi_1 _ | exact gi_p _) ?_
        refine g_goto (tgt := 4) dX2_countThere_26 (by decide) ?_
        exact ih (i + 1) _ (by omega) (fun z => absurd (Int32.le_trans z (nI_pos' (by omega))) c9)
set_option maxRecDepth 100000 in
set_option maxHeartbeats 4000000 in
theorem c_countThere4 (S : gS) : gCt MX2_countThere (1, 40) 0 0 [.ref 4] (wOf τ S) (gN (wOf τ) fun v S' => (∃ r : Int32, v = .int r ∧ (S.1 4 8 ≤ 0 → r = 0)) ∧ S = S') := by
  refine gCt.of (ls := [some (.ref 4), none, none]) 2 (by decide) rfl (Nat.le_of_ble_eq_true rfl) ?_
  refine g_iconst (v := 0) dX2_countThere_0 (by decide) ?_
  refine g_istore_n dX2_countThere_1 rfl (by decide) ?_
  refine g_iconst (v := 0) dX2_countThere_2 (by decide) ?_
  refine g_istore_n dX2_countThere_3 rfl (by decide) ?_
  exact l_countThere4 S (2 ^ 31 - 1) 0 0 (by omega) (fun _ => rfl)
set_option maxRecDepth 100000 in
set_option maxHeartbeats 4000000 in
theorem c_slotOf4 (S : gS) (x y : Int32) : gCt MX2_slotOf (0, 0) 0 0 [.ref 4, .int x, .int y] (wOf τ S) (gN (wOf τ) fun v S' => (∃ r : Int32, v = .int r) ∧ S = S') := by
  refine gCt.of (ls := [some (.ref 4), some (.int x), some (.int y), none]) 1 (by decide) rfl (Nat.le_of_ble_eq_true rfl) ?_
  refine g_iload_n dX2_slotOf_0 rfl rfl ?_
  refine g_if_lt (tgt := 24) dX2_slotOf_1 (by decide) (fun c1 => ?_) (fun c1 => ?_)
  · refine g_iconst (v := 0) dX2_slotOf_24 (by decide) ?_
    refine g_istore_n dX2_slotOf_25 rfl (by decide) ?_
    refine g_iload_n dX2_slotOf_26 rfl rfl ?_
    refine g_if_eq (tgt := 44) dX2_slotOf_27 (by decide) (fun c27 => ?_) (fun c27 => ?_)
    · refine g_iconst (v := (-1)) dX2_slotOf_44 (by decide) ?_
      refine g_iret dX2_slotOf_45 rfl ⟨_, _, rfl, rfl, ?_⟩
      exact ⟨⟨_, rfl⟩, rfl⟩
    · refine g_aload_n dX2_slotOf_30 rfl rfl ?_
      refine g_get dX2_slotOf_31 flX2_26 rfl rfl ?_
      refine g_iload_n dX2_slotOf_34 rfl rfl ?_
      refine g_bipush (v := 8) dX2_slotOf_35 (by decide) ?_
      refine g_imul dX2_slotOf_37 ?_
      refine g_iload_n dX2_slotOf_38 rfl rfl ?_
      refine g_iadd dX2_slotOf_39 ?_
      refine g_iald dX2_slotOf_40 rfl (by first | exact ix8 (N := 100) (by decide) c1 c7 c11 c17 | exact absurd rfl c27) ?_
      refine g_goto (tgt := 45) dX2_slotOf_41 (by decide) ?_
      refine g_iret dX2_slotOf_45 rfl ⟨_, _, rfl, rfl, ?_⟩
      exact ⟨⟨_, rfl⟩, rfl⟩
  · refine g_iload_n dX2_slotOf_4 rfl rfl ?_
    refine g_bipush (v := 100) dX2_slotOf_5 (by decide) ?_
    refine g_icmp_ge (tgt := 24) dX2_slotOf_7 (by decide) (fun c7 => ?_) (fun c7 => ?_)
    · refine g_iconst (v := 0) dX2_slotOf_24 (by decide) ?_
      refine g_istore_n dX2_slotOf_25 rfl (by decide) ?_
      refine g_iload_n dX2_slotOf_26 rfl rfl ?_
      refine g_if_eq (tgt := 44) dX2_slotOf_27 (by decide) (fun c27 => ?_) (fun c27 => ?_)
      · refine g_iconst (v := (-1)) dX2_slotOf_44 (by decide) ?_
        refine g_iret dX2_slotOf_45 rfl ⟨_, _, rfl, rfl, ?_⟩
        exact ⟨⟨_, rfl⟩, rfl⟩
      · refine g_aload_n dX2_slotOf_30 rfl rfl ?_
        refine g_get dX2_slotOf_31 flX2_26 rfl rfl ?_
        refine g_iload_n dX2_slotOf_34 rfl rfl ?_
        refine g_bipush (v := 8) dX2_slotOf_35 (by decide) ?_
        refine g_imul dX2_slotOf_37 ?_
        refine g_iload_n dX2_slotOf_38 rfl rfl ?_
        refine g_iadd dX2_slotOf_39 ?_
        refine g_iald dX2_slotOf_40 rfl (by first | exact ix8 (N := 100) (by decide) c1 c7 c11 c17 | exact absurd rfl c27) ?_
        refine g_goto (tgt := 45) dX2_slotOf_41 (by decide) ?_
        refine g_iret dX2_slotOf_45 rfl ⟨_, _, rfl, rfl, ?_⟩
        exact ⟨⟨_, rfl⟩, rfl⟩
    · refine g_iload_n dX2_slotOf_10 rfl rfl ?_
      refine g_if_lt (tgt := 24) dX2_slotOf_11 (by decide) (fun c11 => ?_) (fun c11 => ?_)
      · refine g_iconst (v := 0) dX2_slotOf_24 (by decide) ?_
        refine g_istore_n dX2_slotOf_25 rfl (by decide) ?_
        refine g_iload_n dX2_slotOf_26 rfl rfl ?_
        refine g_if_eq (tgt := 44) dX2_slotOf_27 (by decide) (fun c27 => ?_) (fun c27 => ?_)
        · refine g_iconst (v := (-1)) dX2_slotOf_44 (by decide) ?_
          refine g_iret dX2_slotOf_45 rfl ⟨_, _, rfl, rfl, ?_⟩
          exact ⟨⟨_, rfl⟩, rfl⟩
        · refine g_aload_n dX2_slotOf_30 rfl rfl ?_
          refine g_get dX2_slotOf_31 flX2_26 rfl rfl ?_
          refine g_iload_n dX2_slotOf_34 rfl rfl ?_
          refine g_bipush (v := 8) dX2_slotOf_35 (by decide) ?_
          refine g_imul dX2_slotOf_37 ?_
          refine g_iload_n dX2_slotOf_38 rfl rfl ?_
          refine g_iadd dX2_slotOf_39 ?_
          refine g_iald dX2_slotOf_40 rfl (by first | exact ix8 (N := 100) (by decide) c1 c7 c11 c17 | exact absurd rfl c27) ?_
          refine g_goto (tgt := 45) dX2_slotOf_41 (by decide) ?_
          refine g_iret dX2_slotOf_45 rfl ⟨_, _, rfl, rfl, ?_⟩
          exact ⟨⟨_, rfl⟩, rfl⟩
      · refine g_iload_n dX2_slotOf_14 rfl rfl ?_
        refine g_bipush (v := 8) dX2_slotOf_15 (by decide) ?_
        refine g_icmp_ge (tgt := 24) dX2_slotOf_17 (by decide) (fun c17 => ?_) (fun c17 => ?_)
        · refine g_iconst (v := 0) dX2_slotOf_24 (by decide) ?_
          refine g_istore_n dX2_slotOf_25 rfl (by decide) ?_
          refine g_iload_n dX2_slotOf_26 rfl rfl ?_
          refine g_if_eq (tgt := 44) dX2_slotOf_27 (by decide) (fun c27 => ?_) (fun c27 => ?_)
          · refine g_iconst (v := (-1)) dX2_slotOf_44 (by decide) ?_
            refine g_iret dX2_slotOf_45 rfl ⟨_, _, rfl, rfl, ?_⟩
            exact ⟨⟨_, rfl⟩, rfl⟩
          · refine g_aload_n dX2_slotOf_30 rfl rfl ?_
            refine g_get dX2_slotOf_31 flX2_26 rfl rfl ?_
            refine g_iload_n dX2_slotOf_34 rfl rfl ?_
            refine g_bipush (v := 8) dX2_slotOf_35 (by decide) ?_
            refine g_imul dX2_slotOf_37 ?_
            refine g_iload_n dX2_slotOf_38 rfl rfl ?_
            refine g_iadd dX2_slotOf_39 ?_
            refine g_iald dX2_slotOf_40 rfl (by first | exact ix8 (N := 100) (by decide) c1 c7 c11 c17 | exact absurd rfl c27) ?_
            refine g_goto (tgt := 45) dX2_slotOf_41 (by decide) ?_
            refine g_iret dX2_slotOf_45 rfl ⟨_, _, rfl, rfl, ?_⟩
            exact ⟨⟨_, rfl⟩, rfl⟩
        · refine g_iconst (v := 1) dX2_slotOf_20 (by decide) ?_
          refine g_goto (tgt := 25) dX2_slotOf_21 (by decide) ?_
          refine g_istore_n dX2_slotOf_25 rfl (by decide) ?_
          refine g_iload_n dX2_slotOf_26 rfl rfl ?_
          refine g_if_eq (tgt := 44) dX2_slotOf_27 (by decide) (fun c27 => ?_) (fun c27 => ?_)
          · refine g_iconst (v := (-1)) dX2_slotOf_44 (by decide) ?_
            refine g_iret dX2_slotOf_45 rfl ⟨_, _, rfl, rfl, ?_⟩
            exact ⟨⟨_, rfl⟩, rfl⟩
          · refine g_aload_n dX2_slotOf_30 rfl rfl ?_
            refine g_get dX2_slotOf_31 flX2_26 rfl rfl ?_
            refine g_iload_n dX2_slotOf_34 rfl rfl ?_
            refine g_bipush (v := 8) dX2_slotOf_35 (by decide) ?_
            refine g_imul dX2_slotOf_37 ?_
            refine g_iload_n dX2_slotOf_38 rfl rfl ?_
            refine g_iadd dX2_slotOf_39 ?_
            refine g_iald dX2_slotOf_40 rfl (by first | exact ix8 (N := 100) (by decide) c1 c7 c11 c17 | exact absurd rfl c27) ?_
            refine g_goto (tgt := 45) dX2_slotOf_41 (by decide) ?_
            refine g_iret dX2_slotOf_45 rfl ⟨_, _, rfl, rfl, ?_⟩
            exact ⟨⟨_, rfl⟩, rfl⟩
set_option maxRecDepth 100000 in
set_option maxHeartbeats 4000000 in
theorem c_edgesOfNow4 (S : gS) (x : Int32) : gCt MX2_edgesOfNow (0, 0) 0 0 [.ref 4, .int x] (wOf τ S) (gN (wOf τ) fun v S' => (∃ r : Int64, v = .long r ∧ ((∀ j, j < 64 → S.2.2 5 j = 0) → r = 0)) ∧ S = S') := by
  refine gCt.of (ls := [some (.ref 4), some (.int x)]) 0 (by decide) rfl (Nat.le_of_ble_eq_true rfl) ?_
  refine g_iload_n dX2_edgesOfNow_0 rfl rfl ?_
  refine g_if_lt (tgt := 19) dX2_edgesOfNow_1 (by decide) (fun c1 => ?_) (fun c1 => ?_)
  · refine g_lconst (v := 0) dX2_edgesOfNow_19 (by decide) ?_
    refine g_lret dX2_edgesOfNow_20 rfl ⟨_, _, rfl, rfl, ?_⟩
    refine ⟨⟨_, rfl, fun h => ?_⟩, rfl⟩
    first | rfl | (obtain ⟨j, hj, rfl, -⟩ := pk_mu (L := 64) c1 c7 (by decide); rw [nI_clamp (by omega)]; exact h j hj)
  · refine g_iload_n dX2_edgesOfNow_4 rfl rfl ?_
    refine g_bipush (v := 64) dX2_edgesOfNow_5 (by decide) ?_
    refine g_icmp_ge (tgt := 19) dX2_edgesOfNow_7 (by decide) (fun c7 => ?_) (fun c7 => ?_)
    · refine g_lconst (v := 0) dX2_edgesOfNow_19 (by decide) ?_
      refine g_lret dX2_edgesOfNow_20 rfl ⟨_, _, rfl, rfl, ?_⟩
      refine ⟨⟨_, rfl, fun h => ?_⟩, rfl⟩
      first | rfl | (obtain ⟨j, hj, rfl, -⟩ := pk_mu (L := 64) c1 c7 (by decide); rw [nI_clamp (by omega)]; exact h j hj)
    · refine g_aload_n dX2_edgesOfNow_10 rfl rfl ?_
      refine g_get dX2_edgesOfNow_11 flX2_9 rfl rfl ?_
      refine g_iload_n dX2_edgesOfNow_14 rfl rfl ?_
      refine g_lald dX2_edgesOfNow_15 rfl (vin (N := 64) (by decide) c1 c7) ?_
      refine g_goto (tgt := 20) dX2_edgesOfNow_16 (by decide) ?_
      refine g_lret dX2_edgesOfNow_20 rfl ⟨_, _, rfl, rfl, ?_⟩
      refine ⟨⟨_, rfl, fun h => ?_⟩, rfl⟩
      first | rfl | (obtain ⟨j, hj, rfl, -⟩ := pk_mu (L := 64) c1 c7 (by decide); rw [nI_clamp (by omega)]; exact h j hj)
set_option maxRecDepth 100000 in
set_option maxHeartbeats 4000000 in
theorem c_edgesFrom4 (S : gS) (x y : Int32) : gCt MX2_edgesFrom (2, 64) 0 0 [.ref 4, .int x, .int y] (wOf τ S) (gN (wOf τ) fun v S' => (∃ r : Int64, v = .long r ∧ (x = -1 → (∀ j, j < 64 → S.2.2 5 j = 0) → r = 0)) ∧ S = S') := by
  refine gCt.of (ls := [some (.ref 4), some (.int x), some (.int y)]) 0 (by decide) rfl (Nat.le_of_ble_eq_true rfl) ?_
  refine g_iload_n dX2_edgesFrom_0 rfl rfl ?_
  refine g_iconst (v := (-1)) dX2_edgesFrom_1 (by decide) ?_
  refine g_icmp_ne (tgt := 11) dX2_edgesFrom_2 (by decide) (fun c2 => ?_) (fun c2 => ?_)
  · refine g_aload_n dX2_edgesFrom_11 rfl rfl ?_
    refine g_get dX2_edgesFrom_12 flX2_18 rfl rfl ?_
    refine g_aload_n dX2_edgesFrom_15 rfl rfl ?_
    refine g_iload_n dX2_edgesFrom_16 rfl rfl ?_
    refine g_iload_n dX2_edgesFrom_17 rfl rfl ?_
    refine g_bipush (v := 8) dX2_edgesFrom_18 (by decide) ?_
    refine g_idiv dX2_edgesFrom_20 (by decide) ?_
    refine cV2N (fun _ _ => rfl) dX2_edgesFrom_21 mlX2_72 imX2_slotOf seX2_slotOf rfl rfl (c_slotOf4 _ _ _) (by decide) (Nat.le_of_ble_eq_true rfl) (Nat.le_of_ble_eq_true rfl) (Nat.le_of_ble_eq_true rfl) ?_
    rintro _ _ ⟨⟨r, rfl⟩, rfl⟩
    refine g_iload_n dX2_edgesFrom_24 rfl rfl ?_
    refine g_bipush (v := 8) dX2_edgesFrom_25 (by decide) ?_
    refine g_irem dX2_edgesFrom_27 (by decide) ?_
    refine cV2N (fun _ _ => rfl) dX2_edgesFrom_28 mlX2_76 imX0_edgesOf seX0_edgesOf rfl rfl (c_edgesOf6 _ _ _) (by decide) (Nat.le_of_ble_eq_true rfl) (Nat.le_of_ble_eq_true rfl) (Nat.le_of_ble_eq_true rfl) ?_
    rintro _ _ ⟨⟨r2, rfl⟩, rfl⟩
    refine g_lret dX2_edgesFrom_31 rfl ⟨_, _, rfl, rfl, ?_⟩
    exact ⟨⟨_, rfl, fun h => absurd h c2⟩, rfl⟩
  · refine g_aload_n dX2_edgesFrom_5 rfl rfl ?_
    refine g_iload_n dX2_edgesFrom_6 rfl rfl ?_
    refine cV1N (fun _ _ => rfl) dX2_edgesFrom_7 mlX2_68 imX2_edgesOfNow seX2_edgesOfNow rfl rfl (c_edgesOfNow4 _ _) (by decide) (Nat.le_of_ble_eq_true rfl) (Nat.le_of_ble_eq_true rfl) (Nat.le_of_ble_eq_true rfl) ?_
    rintro _ _ ⟨⟨en, rfl, hen⟩, rfl⟩
    refine g_lret dX2_edgesFrom_10 rfl ⟨_, _, rfl, rfl, ?_⟩
    exact ⟨⟨_, rfl, fun _ => hen⟩, rfl⟩
set_option maxRecDepth 100000 in
set_option maxHeartbeats 4000000 in
theorem c_joins4 (S : gS) (x y z : Int32) : gCt MX2_joins (3, 90) 0 0 [.ref 4, .int x, .int y, .int z] (wOf τ S) (gN (wOf τ) fun v S' => (∃ r : Int32, v = .int r ∧ (r = 0 ∨ r = 1) ∧ (x = -1 → (∀ j, j < 64 → S.2.2 5 j = 0) → r = 0)) ∧ S = S') := by
  refine gCt.of (ls := [some (.ref 4), some (.int x), some (.int y), some (.int z)]) 0 (by decide) rfl (Nat.le_of_ble_eq_true rfl) ?_
  refine g_aload_n dX2_joins_0 rfl rfl ?_
  refine g_iload_n dX2_joins_1 rfl rfl ?_
  refine g_iload_n dX2_joins_2 rfl rfl ?_
  refine cV2N (fun _ _ => rfl) dX2_joins_3 mlX2_80 imX2_edgesFrom seX2_edgesFrom rfl rfl (c_edgesFrom4 _ _ _) (by decide) (Nat.le_of_ble_eq_true rfl) (Nat.le_of_ble_eq_true rfl) (Nat.le_of_ble_eq_true rfl) ?_
  rintro _ _ ⟨⟨ef, rfl, hef⟩, rfl⟩
  refine g_iload_n dX2_joins_6 rfl rfl ?_
  refine g_lushr dX2_joins_7 ?_
  refine g_lconst (v := 1) dX2_joins_8 (by decide) ?_
  refine g_land dX2_joins_9 ?_
  refine g_lconst (v := 0) dX2_joins_10 (by decide) ?_
  refine g_lcmp dX2_joins_11 ?_
  refine g_if_eq (tgt := 19) dX2_joins_12 (by decide) (fun c12 => ?_) (fun c12 => ?_)
  · refine g_iconst (v := 0) dX2_joins_19 (by decide) ?_
    refine g_zret dX2_joins_20 rfl (by first | rfl | assumption) ⟨_, _, rfl, rfl, ?_⟩
    first | exact ⟨⟨_, rfl, Or.inl rfl, fun _ _ => rfl⟩, rfl⟩ | exact ⟨⟨_, rfl, Or.inr rfl, fun h1 h2 => absurd (by rw [hef h1 h2, sh0]; exact cmp00) c12⟩, rfl⟩
  · refine g_iconst (v := 1) dX2_joins_15 (by decide) ?_
    refine g_goto (tgt := 20) dX2_joins_16 (by decide) ?_
    refine g_zret dX2_joins_20 rfl (by first | rfl | assumption) ⟨_, _, rfl, rfl, ?_⟩
    first | exact ⟨⟨_, rfl, Or.inl rfl, fun _ _ => rfl⟩, rfl⟩ | exact ⟨⟨_, rfl, Or.inr rfl, fun h1 h2 => absurd (by rw [hef h1 h2, sh0]; exact cmp00) c12⟩, rfl⟩
set_option maxRecDepth 100000 in
set_option maxHeartbeats 4000000 in
theorem l_countEdges4 (S : gS) : ∀ (m i : Nat) (a : Int32), i + m = 64 → ((∀ j, j < 64 → S.2.2 5 j = 0) → a = 0) → G MX2_countEdges (1, 40) 4 [some (.ref 4), some (.int a), some (.int (nI i))] [] (wOf τ S) 0 0 (gN (wOf τ) fun v S' => (∃ r : Int32, v = .int r ∧ ((∀ j, j < 64 → S.2.2 5 j = 0) → r = 0)) ∧ S = S') := by
  intro m
  induction m with
  | zero =>
    intro i a hi ha
    obtain rfl : i = 64 := by omega
    refine g_iload_n dX2_countEdges_4 rfl rfl ?_
    refine g_bipush (v := 64) dX2_countEdges_5 (by decide) ?_
    refine g_icmp_ge (tgt := 28) dX2_countEdges_7 (by decide) (fun c7 => ?_) (fun c7 => ?_)
    · refine g_iload_n dX2_countEdges_28 rfl rfl ?_
      refine g_iret dX2_countEdges_29 rfl ⟨_, _, rfl, rfl, ?_⟩
      exact ⟨⟨_, rfl, ha⟩, rfl⟩
    · exact absurd (show (64 : Int32) ≤ nI 64 by decide) c7
  | succ m ih =>
    intro i a hi ha
    refine g_iload_n dX2_countEdges_4 rfl rfl ?_
    refine g_bipush (v := 64) dX2_countEdges_5 (by decide) ?_
    refine g_icmp_ge (tgt := 28) dX2_countEdges_7 (by decide) (fun c7 => ?_) (fun c7 => ?_)
    · refine g_iload_n dX2_countEdges_28 rfl rfl ?_
      refine g_iret dX2_countEdges_29 rfl ⟨_, _, rfl, rfl, ?_⟩
      exact ⟨⟨_, rfl, ha⟩, rfl⟩
    · refine g_iload_n dX2_countEdges_10 rfl rfl ?_
      refine g_aload_n dX2_countEdges_11 rfl rfl ?_
      refine g_get dX2_countEdges_12 flX2_9 rfl rfl ?_
      refine g_iload_n dX2_countEdges_15 rfl rfl ?_
      refine g_lald dX2_countEdges_16 rfl (vp_in_nI (by omega) (by decide)) ?_
      refine cS1N (fun _ _ => rfl) dX2_countEdges_17 mlX2_83 isJ13_bitCount_95d88 (c_bitCount _ _) (by decide) (Nat.le_of_ble_eq_true rfl) (Nat.le_of_ble_eq_true rfl) (Nat.le_of_ble_eq_true rfl) ?_
      rintro _ _ ⟨⟨bc, rfl, hbc⟩, rfl⟩
      refine g_iadd dX2_countEdges_20 ?_
      refine g_istore_n dX2_countEdges_21 rfl (by decide) ?_
      refine g_iinc dX2_countEdges_22 rfl (by decide) (by first | exact gi_1 _ | exact gi_p _) ?_
      refine g_goto (tgt := 4) dX2_countEdges_25 (by decide) ?_
      exact ih (i + 1) _ (by omega) (fun z => by rw [ha z, hbc (by rw [nI_clamp (by omega)]; exact z i (by omega))]; rfl)
set_option maxRecDepth 100000 in
set_option maxHeartbeats 4000000 in
theorem c_countEdges4 (S : gS) : gCt MX2_countEdges (1, 40) 0 0 [.ref 4] (wOf τ S) (gN (wOf τ) fun v S' => (∃ r : Int32, v = .int r ∧ ((∀ j, j < 64 → S.2.2 5 j = 0) → r = 0)) ∧ S = S') := by
  refine gCt.of (ls := [some (.ref 4), none, none]) 2 (by decide) rfl (Nat.le_of_ble_eq_true rfl) ?_
  refine g_iconst (v := 0) dX2_countEdges_0 (by decide) ?_
  refine g_istore_n dX2_countEdges_1 rfl (by decide) ?_
  refine g_iconst (v := 0) dX2_countEdges_2 (by decide) ?_
  refine g_istore_n dX2_countEdges_3 rfl (by decide) ?_
  exact l_countEdges4 S 64 0 0 (by omega) (fun _ => rfl)
set_option maxRecDepth 100000 in
set_option maxHeartbeats 4000000 in
theorem c_versionOfAnswer4 (S : gS) (x : Int32) : gCt MX2_versionOfAnswer (0, 0) 0 0 [.ref 4, .int x] (wOf τ S) (gN (wOf τ) fun v S' => (∃ r : Int32, v = .int r) ∧ S = S') := by
  refine gCt.of (ls := [some (.ref 4), some (.int x)]) 0 (by decide) rfl (Nat.le_of_ble_eq_true rfl) ?_
  refine g_iload_n dX2_versionOfAnswer_0 rfl rfl ?_
  refine g_if_lt (tgt := 19) dX2_versionOfAnswer_1 (by decide) (fun c1 => ?_) (fun c1 => ?_)
  · refine g_iconst (v := (-1)) dX2_versionOfAnswer_19 (by decide) ?_
    refine g_iret dX2_versionOfAnswer_20 rfl ⟨_, _, rfl, rfl, ?_⟩
    exact ⟨⟨_, rfl⟩, rfl⟩
  · refine g_iload_n dX2_versionOfAnswer_4 rfl rfl ?_
    refine g_bipush (v := 100) dX2_versionOfAnswer_5 (by decide) ?_
    refine g_icmp_ge (tgt := 19) dX2_versionOfAnswer_7 (by decide) (fun c7 => ?_) (fun c7 => ?_)
    · refine g_iconst (v := (-1)) dX2_versionOfAnswer_19 (by decide) ?_
      refine g_iret dX2_versionOfAnswer_20 rfl ⟨_, _, rfl, rfl, ?_⟩
      exact ⟨⟨_, rfl⟩, rfl⟩
    · refine g_aload_n dX2_versionOfAnswer_10 rfl rfl ?_
      refine g_get dX2_versionOfAnswer_11 flX2_30 rfl rfl ?_
      refine g_iload_n dX2_versionOfAnswer_14 rfl rfl ?_
      refine g_iald dX2_versionOfAnswer_15 rfl (vin (N := 100) (by decide) c1 c7) ?_
      refine g_goto (tgt := 20) dX2_versionOfAnswer_16 (by decide) ?_
      refine g_iret dX2_versionOfAnswer_20 rfl ⟨_, _, rfl, rfl, ?_⟩
      exact ⟨⟨_, rfl⟩, rfl⟩
set_option maxRecDepth 100000 in
set_option maxHeartbeats 4000000 in
theorem c_maskOfAnswer4 (S : gS) (x : Int32) : gCt MX2_maskOfAnswer (0, 0) 0 0 [.ref 4, .int x] (wOf τ S) (gN (wOf τ) fun v S' => (∃ r : Int64, v = .long r) ∧ S = S') := by
  refine gCt.of (ls := [some (.ref 4), some (.int x)]) 0 (by decide) rfl (Nat.le_of_ble_eq_true rfl) ?_
  refine g_iload_n dX2_maskOfAnswer_0 rfl rfl ?_
  refine g_if_lt (tgt := 19) dX2_maskOfAnswer_1 (by decide) (fun c1 => ?_) (fun c1 => ?_)
  · refine g_lconst (v := 0) dX2_maskOfAnswer_19 (by decide) ?_
    refine g_lret dX2_maskOfAnswer_20 rfl ⟨_, _, rfl, rfl, ?_⟩
    exact ⟨⟨_, rfl⟩, rfl⟩
  · refine g_iload_n dX2_maskOfAnswer_4 rfl rfl ?_
    refine g_bipush (v := 100) dX2_maskOfAnswer_5 (by decide) ?_
    refine g_icmp_ge (tgt := 19) dX2_maskOfAnswer_7 (by decide) (fun c7 => ?_) (fun c7 => ?_)
    · refine g_lconst (v := 0) dX2_maskOfAnswer_19 (by decide) ?_
      refine g_lret dX2_maskOfAnswer_20 rfl ⟨_, _, rfl, rfl, ?_⟩
      exact ⟨⟨_, rfl⟩, rfl⟩
    · refine g_aload_n dX2_maskOfAnswer_10 rfl rfl ?_
      refine g_get dX2_maskOfAnswer_11 flX2_33 rfl rfl ?_
      refine g_iload_n dX2_maskOfAnswer_14 rfl rfl ?_
      refine g_lald dX2_maskOfAnswer_15 rfl (vin (N := 100) (by decide) c1 c7) ?_
      refine g_goto (tgt := 20) dX2_maskOfAnswer_16 (by decide) ?_
      refine g_lret dX2_maskOfAnswer_20 rfl ⟨_, _, rfl, rfl, ?_⟩
      exact ⟨⟨_, rfl⟩, rfl⟩
def kfor14 (room : Int32) (S : gS) : gS := mS (mS (mS (mS (mS (mS (mL (mS S 14 6 room) 15 (fillL ((mS S 14 6 room).2.2 15) 0 64)) 16 3 0) 14 7 0) 14 8 0) 14 9 0) 14 10 0) 14 11 0
set_option maxRecDepth 100000 in
set_option maxHeartbeats 4000000 in
theorem c_knForget14 (S : gS) (x : Int32) : gCt MX2_forget (1, 40) 0 0 [.ref 14, .int x] (wOf τ S) (g0 (wOf τ) fun S' => S' = kfor14 x S) := by
  refine gCt.of (ls := [some (.ref 14), some (.int x)]) 0 (by decide) rfl (Nat.le_of_ble_eq_true rfl) ?_
  refine g_aload_n dX2_forget_0 rfl rfl ?_
  refine g_iload_n dX2_forget_1 rfl rfl ?_
  refine p_put dX2_forget_2 fpX2_36 rfl (Nat.le_of_ble_eq_true rfl) (fun _ => rfl) (fun _ => rfl) (by with_reducible first | exact wS_4_6 _ _ _ | exact wS_14_6 _ _ _) ?_
  refine g_aload_n dX2_forget_5 rfl rfl ?_
  refine g_get dX2_forget_6 flX2_9 rfl rfl ?_
  refine g_lconst (v := 0) dX2_forget_9 (by decide) ?_
  refine cS20 (fun _ _ => rfl) dX2_forget_10 mlX2_40 isJ7_fill_d0a16 (c_fillL15 _ _) (by decide) (Nat.le_of_ble_eq_true rfl) (Nat.le_of_ble_eq_true rfl) (Nat.le_of_ble_eq_true rfl) ?_
  rintro _ rfl
  refine g_aload_n dX2_forget_13 rfl rfl ?_
  refine g_get dX2_forget_14 flX2_18 rfl rfl ?_
  refine cV00 (fun _ _ => rfl) dX2_forget_17 mlX2_46 imX0_forget seX0_forget rfl rfl (c_chForget16 _) (by decide) (Nat.le_of_ble_eq_true rfl) (Nat.le_of_ble_eq_true rfl) (Nat.le_of_ble_eq_true rfl) ?_
  rintro _ rfl
  refine g_aload_n dX2_forget_20 rfl rfl ?_
  refine g_iconst (v := 0) dX2_forget_21 (by decide) ?_
  refine p_put dX2_forget_22 fpX2_49 rfl (Nat.le_of_ble_eq_true rfl) (fun _ => rfl) (fun _ => rfl) (by with_reducible first | exact wS_4_7 _ _ _ | exact wS_14_7 _ _ _) ?_
  refine g_aload_n dX2_forget_25 rfl rfl ?_
  refine g_iconst (v := 0) dX2_forget_26 (by decide) ?_
  refine p_put dX2_forget_27 fpX2_52 rfl (Nat.le_of_ble_eq_true rfl) (fun _ => rfl) (fun _ => rfl) (by with_reducible first | exact wS_4_8 _ _ _ | exact wS_14_8 _ _ _) ?_
  refine g_aload_n dX2_forget_30 rfl rfl ?_
  refine g_iconst (v := 0) dX2_forget_31 (by decide) ?_
  refine p_put dX2_forget_32 fpX2_55 rfl (Nat.le_of_ble_eq_true rfl) (fun _ => rfl) (fun _ => rfl) (by with_reducible first | exact wS_4_9 _ _ _ | exact wS_14_9 _ _ _) ?_
  refine g_aload_n dX2_forget_35 rfl rfl ?_
  refine g_iconst (v := 0) dX2_forget_36 (by decide) ?_
  refine p_put dX2_forget_37 fpX2_58 rfl (Nat.le_of_ble_eq_true rfl) (fun _ => rfl) (fun _ => rfl) (by with_reducible first | exact wS_4_10 _ _ _ | exact wS_14_10 _ _ _) ?_
  refine g_aload_n dX2_forget_40 rfl rfl ?_
  refine g_iconst (v := 0) dX2_forget_41 (by decide) ?_
  refine p_put dX2_forget_42 fpX2_61 rfl (Nat.le_of_ble_eq_true rfl) (fun _ => rfl) (fun _ => rfl) (by with_reducible first | exact wS_4_11 _ _ _ | exact wS_14_11 _ _ _) ?_
  refine g_vret dX2_forget_45 rfl ⟨_, rfl, rfl, ?_⟩
  rfl
set_option maxRecDepth 100000 in
set_option maxHeartbeats 4000000 in
theorem c_isThere14 (S : gS) (x : Int32) : gCt MX2_isThere (0, 0) 0 0 [.ref 14, .int x] (wOf τ S) (gN (wOf τ) fun v S' => (∃ r : Int32, v = .int r ∧ (r = 0 ∨ r = 1) ∧ (¬ r = 0 → ¬ x < 0 ∧ ¬ S.1 14 8 ≤ x ∧ ¬ 100 ≤ x)) ∧ S = S') := by
  refine gCt.of (ls := [some (.ref 14), some (.int x)]) 0 (by decide) rfl (Nat.le_of_ble_eq_true rfl) ?_
  refine g_iload_n dX2_isThere_0 rfl rfl ?_
  refine g_if_lt (tgt := 31) dX2_isThere_1 (by decide) (fun c1 => ?_) (fun c1 => ?_)
  · refine g_iconst (v := 0) dX2_isThere_31 (by decide) ?_
    refine g_zret dX2_isThere_32 rfl (by first | rfl | assumption) ⟨_, _, rfl, rfl, ?_⟩
    first | exact ⟨⟨_, rfl, Or.inr rfl, fun _ => ⟨c1, c9, c15⟩⟩, rfl⟩ | exact ⟨⟨_, rfl, Or.inl rfl, fun h => absurd rfl h⟩, rfl⟩
  · refine g_iload_n dX2_isThere_4 rfl rfl ?_
    refine g_aload_n dX2_isThere_5 rfl rfl ?_
    refine g_get dX2_isThere_6 flX2_52 rfl rfl ?_
    refine g_icmp_ge (tgt := 31) dX2_isThere_9 (by decide) (fun c9 => ?_) (fun c9 => ?_)
    · refine g_iconst (v := 0) dX2_isThere_31 (by decide) ?_
      refine g_zret dX2_isThere_32 rfl (by first | rfl | assumption) ⟨_, _, rfl, rfl, ?_⟩
      first | exact ⟨⟨_, rfl, Or.inr rfl, fun _ => ⟨c1, c9, c15⟩⟩, rfl⟩ | exact ⟨⟨_, rfl, Or.inl rfl, fun h => absurd rfl h⟩, rfl⟩
    · refine g_iload_n dX2_isThere_12 rfl rfl ?_
      refine g_bipush (v := 100) dX2_isThere_13 (by decide) ?_
      refine g_icmp_ge (tgt := 31) dX2_isThere_15 (by decide) (fun c15 => ?_) (fun c15 => ?_)
      · refine g_iconst (v := 0) dX2_isThere_31 (by decide) ?_
        refine g_zret dX2_isThere_32 rfl (by first | rfl | assumption) ⟨_, _, rfl, rfl, ?_⟩
        first | exact ⟨⟨_, rfl, Or.inr rfl, fun _ => ⟨c1, c9, c15⟩⟩, rfl⟩ | exact ⟨⟨_, rfl, Or.inl rfl, fun h => absurd rfl h⟩, rfl⟩
      · refine g_aload_n dX2_isThere_18 rfl rfl ?_
        refine g_get dX2_isThere_19 flX2_22 rfl rfl ?_
        refine g_iload_n dX2_isThere_22 rfl rfl ?_
        refine g_zald dX2_isThere_23 rfl (vin (N := 100) (by decide) c1 c15) ?_
        refine g_if_eq (tgt := 31) dX2_isThere_24 (by decide) (fun c24 => ?_) (fun c24 => ?_)
        · refine g_iconst (v := 0) dX2_isThere_31 (by decide) ?_
          refine g_zret dX2_isThere_32 rfl (by first | rfl | assumption) ⟨_, _, rfl, rfl, ?_⟩
          first | exact ⟨⟨_, rfl, Or.inr rfl, fun _ => ⟨c1, c9, c15⟩⟩, rfl⟩ | exact ⟨⟨_, rfl, Or.inl rfl, fun h => absurd rfl h⟩, rfl⟩
        · refine g_iconst (v := 1) dX2_isThere_27 (by decide) ?_
          refine g_goto (tgt := 32) dX2_isThere_28 (by decide) ?_
          refine g_zret dX2_isThere_32 rfl (by first | rfl | assumption) ⟨_, _, rfl, rfl, ?_⟩
          first | exact ⟨⟨_, rfl, Or.inr rfl, fun _ => ⟨c1, c9, c15⟩⟩, rfl⟩ | exact ⟨⟨_, rfl, Or.inl rfl, fun h => absurd rfl h⟩, rfl⟩
set_option maxRecDepth 100000 in
set_option maxHeartbeats 4000000 in
theorem l_countThere14 (S : gS) : ∀ (m i : Nat) (a : Int32), i + m = 2 ^ 31 - 1 → (S.1 14 8 ≤ 0 → a = 0) → G MX2_countThere (1, 40) 4 [some (.ref 14), some (.int a), some (.int (nI i))] [] (wOf τ S) 0 0 (gN (wOf τ) fun v S' => (∃ r : Int32, v = .int r ∧ (S.1 14 8 ≤ 0 → r = 0)) ∧ S = S') := by
  intro m
  induction m with
  | zero =>
    intro i a hi ha
    have hle : S.1 14 8 ≤ nI i := by
      refine Classical.byContradiction fun z => ?_
      obtain ⟨j, hj, -, hij⟩ := nI_lt_of (by omega) z
      omega
    refine g_iload_n dX2_countThere_4 rfl rfl ?_
    refine g_aload_n dX2_countThere_5 rfl rfl ?_
    refine g_get dX2_countThere_6 flX2_52 rfl rfl ?_
    refine g_icmp_ge (tgt := 29) dX2_countThere_9 (by decide) (fun c9 => ?_) (fun c9 => ?_)
    · refine g_iload_n dX2_countThere_29 rfl rfl ?_
      refine g_iret dX2_countThere_30 rfl ⟨_, _, rfl, rfl, ?_⟩
      exact ⟨⟨_, rfl, ha⟩, rfl⟩
    · exact absurd hle c9
  | succ m ih =>
    intro i a hi ha
    refine g_iload_n dX2_countThere_4 rfl rfl ?_
    refine g_aload_n dX2_countThere_5 rfl rfl ?_
    refine g_get dX2_countThere_6 flX2_52 rfl rfl ?_
    refine g_icmp_ge (tgt := 29) dX2_countThere_9 (by decide) (fun c9 => ?_) (fun c9 => ?_)
    · refine g_iload_n dX2_countThere_29 rfl rfl ?_
      refine g_iret dX2_countThere_30 rfl ⟨_, _, rfl, rfl, ?_⟩
      exact ⟨⟨_, rfl, ha⟩, rfl⟩
    · refine g_aload_n dX2_countThere_12 rfl rfl ?_
      refine g_iload_n dX2_countThere_13 rfl rfl ?_
      refine cV1N (fun _ _ => rfl) dX2_countThere_14 mlX2_64 imX2_isThere seX2_isThere rfl rfl (c_isThere14 _ _) (by decide) (Nat.le_of_ble_eq_true rfl) (Nat.le_of_ble_eq_true rfl) (Nat.le_of_ble_eq_true rfl) ?_
      rintro _ _ ⟨⟨rt, rfl, ht01, ht⟩, rfl⟩
      refine g_if_eq (tgt := 23) dX2_countThere_17 (by decide) (fun c17 => ?_) (fun c17 => ?_)
      · refine g_iinc dX2_countThere_23 rfl (by decide) (by first | exact gi_1 _ | exact gi_p _) ?_
        refine g_goto (tgt := 4) dX2_countThere_26 (by decide) ?_
        exact ih (i + 1) _ (by omega) (fun z => absurd (Int32.le_trans z (nI_pos' (by omega))) c9)
      · refine g_iinc dX2_countThere_20 rfl (by decide) (by first | exact gi_1 _ | exact gi_p _) ?_
        refine g_iinc dX2_countThere_23 rfl (by decide) (by first | exact gi_1 _ | exact gi_p _) ?_
        refine g_goto (tgt := 4) dX2_countThere_26 (by decide) ?_
        exact ih (i + 1) _ (by omega) (fun z => absurd (Int32.le_trans z (nI_pos' (by omega))) c9)
set_option maxRecDepth 100000 in
set_option maxHeartbeats 4000000 in
theorem c_countThere14 (S : gS) : gCt MX2_countThere (1, 40) 0 0 [.ref 14] (wOf τ S) (gN (wOf τ) fun v S' => (∃ r : Int32, v = .int r ∧ (S.1 14 8 ≤ 0 → r = 0)) ∧ S = S') := by
  refine gCt.of (ls := [some (.ref 14), none, none]) 2 (by decide) rfl (Nat.le_of_ble_eq_true rfl) ?_
  refine g_iconst (v := 0) dX2_countThere_0 (by decide) ?_
  refine g_istore_n dX2_countThere_1 rfl (by decide) ?_
  refine g_iconst (v := 0) dX2_countThere_2 (by decide) ?_
  refine g_istore_n dX2_countThere_3 rfl (by decide) ?_
  exact l_countThere14 S (2 ^ 31 - 1) 0 0 (by omega) (fun _ => rfl)
set_option maxRecDepth 100000 in
set_option maxHeartbeats 4000000 in
theorem c_slotOf14 (S : gS) (x y : Int32) : gCt MX2_slotOf (0, 0) 0 0 [.ref 14, .int x, .int y] (wOf τ S) (gN (wOf τ) fun v S' => (∃ r : Int32, v = .int r) ∧ S = S') := by
  refine gCt.of (ls := [some (.ref 14), some (.int x), some (.int y), none]) 1 (by decide) rfl (Nat.le_of_ble_eq_true rfl) ?_
  refine g_iload_n dX2_slotOf_0 rfl rfl ?_
  refine g_if_lt (tgt := 24) dX2_slotOf_1 (by decide) (fun c1 => ?_) (fun c1 => ?_)
  · refine g_iconst (v := 0) dX2_slotOf_24 (by decide) ?_
    refine g_istore_n dX2_slotOf_25 rfl (by decide) ?_
    refine g_iload_n dX2_slotOf_26 rfl rfl ?_
    refine g_if_eq (tgt := 44) dX2_slotOf_27 (by decide) (fun c27 => ?_) (fun c27 => ?_)
    · refine g_iconst (v := (-1)) dX2_slotOf_44 (by decide) ?_
      refine g_iret dX2_slotOf_45 rfl ⟨_, _, rfl, rfl, ?_⟩
      exact ⟨⟨_, rfl⟩, rfl⟩
    · refine g_aload_n dX2_slotOf_30 rfl rfl ?_
      refine g_get dX2_slotOf_31 flX2_26 rfl rfl ?_
      refine g_iload_n dX2_slotOf_34 rfl rfl ?_
      refine g_bipush (v := 8) dX2_slotOf_35 (by decide) ?_
      refine g_imul dX2_slotOf_37 ?_
      refine g_iload_n dX2_slotOf_38 rfl rfl ?_
      refine g_iadd dX2_slotOf_39 ?_
      refine g_iald dX2_slotOf_40 rfl (by first | exact ix8 (N := 100) (by decide) c1 c7 c11 c17 | exact absurd rfl c27) ?_
      refine g_goto (tgt := 45) dX2_slotOf_41 (by decide) ?_
      refine g_iret dX2_slotOf_45 rfl ⟨_, _, rfl, rfl, ?_⟩
      exact ⟨⟨_, rfl⟩, rfl⟩
  · refine g_iload_n dX2_slotOf_4 rfl rfl ?_
    refine g_bipush (v := 100) dX2_slotOf_5 (by decide) ?_
    refine g_icmp_ge (tgt := 24) dX2_slotOf_7 (by decide) (fun c7 => ?_) (fun c7 => ?_)
    · refine g_iconst (v := 0) dX2_slotOf_24 (by decide) ?_
      refine g_istore_n dX2_slotOf_25 rfl (by decide) ?_
      refine g_iload_n dX2_slotOf_26 rfl rfl ?_
      refine g_if_eq (tgt := 44) dX2_slotOf_27 (by decide) (fun c27 => ?_) (fun c27 => ?_)
      · refine g_iconst (v := (-1)) dX2_slotOf_44 (by decide) ?_
        refine g_iret dX2_slotOf_45 rfl ⟨_, _, rfl, rfl, ?_⟩
        exact ⟨⟨_, rfl⟩, rfl⟩
      · refine g_aload_n dX2_slotOf_30 rfl rfl ?_
        refine g_get dX2_slotOf_31 flX2_26 rfl rfl ?_
        refine g_iload_n dX2_slotOf_34 rfl rfl ?_
        refine g_bipush (v := 8) dX2_slotOf_35 (by decide) ?_
        refine g_imul dX2_slotOf_37 ?_
        refine g_iload_n dX2_slotOf_38 rfl rfl ?_
        refine g_iadd dX2_slotOf_39 ?_
        refine g_iald dX2_slotOf_40 rfl (by first | exact ix8 (N := 100) (by decide) c1 c7 c11 c17 | exact absurd rfl c27) ?_
        refine g_goto (tgt := 45) dX2_slotOf_41 (by decide) ?_
        refine g_iret dX2_slotOf_45 rfl ⟨_, _, rfl, rfl, ?_⟩
        exact ⟨⟨_, rfl⟩, rfl⟩
    · refine g_iload_n dX2_slotOf_10 rfl rfl ?_
      refine g_if_lt (tgt := 24) dX2_slotOf_11 (by decide) (fun c11 => ?_) (fun c11 => ?_)
      · refine g_iconst (v := 0) dX2_slotOf_24 (by decide) ?_
        refine g_istore_n dX2_slotOf_25 rfl (by decide) ?_
        refine g_iload_n dX2_slotOf_26 rfl rfl ?_
        refine g_if_eq (tgt := 44) dX2_slotOf_27 (by decide) (fun c27 => ?_) (fun c27 => ?_)
        · refine g_iconst (v := (-1)) dX2_slotOf_44 (by decide) ?_
          refine g_iret dX2_slotOf_45 rfl ⟨_, _, rfl, rfl, ?_⟩
          exact ⟨⟨_, rfl⟩, rfl⟩
        · refine g_aload_n dX2_slotOf_30 rfl rfl ?_
          refine g_get dX2_slotOf_31 flX2_26 rfl rfl ?_
          refine g_iload_n dX2_slotOf_34 rfl rfl ?_
          refine g_bipush (v := 8) dX2_slotOf_35 (by decide) ?_
          refine g_imul dX2_slotOf_37 ?_
          refine g_iload_n dX2_slotOf_38 rfl rfl ?_
          refine g_iadd dX2_slotOf_39 ?_
          refine g_iald dX2_slotOf_40 rfl (by first | exact ix8 (N := 100) (by decide) c1 c7 c11 c17 | exact absurd rfl c27) ?_
          refine g_goto (tgt := 45) dX2_slotOf_41 (by decide) ?_
          refine g_iret dX2_slotOf_45 rfl ⟨_, _, rfl, rfl, ?_⟩
          exact ⟨⟨_, rfl⟩, rfl⟩
      · refine g_iload_n dX2_slotOf_14 rfl rfl ?_
        refine g_bipush (v := 8) dX2_slotOf_15 (by decide) ?_
        refine g_icmp_ge (tgt := 24) dX2_slotOf_17 (by decide) (fun c17 => ?_) (fun c17 => ?_)
        · refine g_iconst (v := 0) dX2_slotOf_24 (by decide) ?_
          refine g_istore_n dX2_slotOf_25 rfl (by decide) ?_
          refine g_iload_n dX2_slotOf_26 rfl rfl ?_
          refine g_if_eq (tgt := 44) dX2_slotOf_27 (by decide) (fun c27 => ?_) (fun c27 => ?_)
          · refine g_iconst (v := (-1)) dX2_slotOf_44 (by decide) ?_
            refine g_iret dX2_slotOf_45 rfl ⟨_, _, rfl, rfl, ?_⟩
            exact ⟨⟨_, rfl⟩, rfl⟩
          · refine g_aload_n dX2_slotOf_30 rfl rfl ?_
            refine g_get dX2_slotOf_31 flX2_26 rfl rfl ?_
            refine g_iload_n dX2_slotOf_34 rfl rfl ?_
            refine g_bipush (v := 8) dX2_slotOf_35 (by decide) ?_
            refine g_imul dX2_slotOf_37 ?_
            refine g_iload_n dX2_slotOf_38 rfl rfl ?_
            refine g_iadd dX2_slotOf_39 ?_
            refine g_iald dX2_slotOf_40 rfl (by first | exact ix8 (N := 100) (by decide) c1 c7 c11 c17 | exact absurd rfl c27) ?_
            refine g_goto (tgt := 45) dX2_slotOf_41 (by decide) ?_
            refine g_iret dX2_slotOf_45 rfl ⟨_, _, rfl, rfl, ?_⟩
            exact ⟨⟨_, rfl⟩, rfl⟩
        · refine g_iconst (v := 1) dX2_slotOf_20 (by decide) ?_
          refine g_goto (tgt := 25) dX2_slotOf_21 (by decide) ?_
          refine g_istore_n dX2_slotOf_25 rfl (by decide) ?_
          refine g_iload_n dX2_slotOf_26 rfl rfl ?_
          refine g_if_eq (tgt := 44) dX2_slotOf_27 (by decide) (fun c27 => ?_) (fun c27 => ?_)
          · refine g_iconst (v := (-1)) dX2_slotOf_44 (by decide) ?_
            refine g_iret dX2_slotOf_45 rfl ⟨_, _, rfl, rfl, ?_⟩
            exact ⟨⟨_, rfl⟩, rfl⟩
          · refine g_aload_n dX2_slotOf_30 rfl rfl ?_
            refine g_get dX2_slotOf_31 flX2_26 rfl rfl ?_
            refine g_iload_n dX2_slotOf_34 rfl rfl ?_
            refine g_bipush (v := 8) dX2_slotOf_35 (by decide) ?_
            refine g_imul dX2_slotOf_37 ?_
            refine g_iload_n dX2_slotOf_38 rfl rfl ?_
            refine g_iadd dX2_slotOf_39 ?_
            refine g_iald dX2_slotOf_40 rfl (by first | exact ix8 (N := 100) (by decide) c1 c7 c11 c17 | exact absurd rfl c27) ?_
            refine g_goto (tgt := 45) dX2_slotOf_41 (by decide) ?_
            refine g_iret dX2_slotOf_45 rfl ⟨_, _, rfl, rfl, ?_⟩
            exact ⟨⟨_, rfl⟩, rfl⟩
set_option maxRecDepth 100000 in
set_option maxHeartbeats 4000000 in
theorem c_edgesOfNow14 (S : gS) (x : Int32) : gCt MX2_edgesOfNow (0, 0) 0 0 [.ref 14, .int x] (wOf τ S) (gN (wOf τ) fun v S' => (∃ r : Int64, v = .long r ∧ ((∀ j, j < 64 → S.2.2 15 j = 0) → r = 0)) ∧ S = S') := by
  refine gCt.of (ls := [some (.ref 14), some (.int x)]) 0 (by decide) rfl (Nat.le_of_ble_eq_true rfl) ?_
  refine g_iload_n dX2_edgesOfNow_0 rfl rfl ?_
  refine g_if_lt (tgt := 19) dX2_edgesOfNow_1 (by decide) (fun c1 => ?_) (fun c1 => ?_)
  · refine g_lconst (v := 0) dX2_edgesOfNow_19 (by decide) ?_
    refine g_lret dX2_edgesOfNow_20 rfl ⟨_, _, rfl, rfl, ?_⟩
    refine ⟨⟨_, rfl, fun h => ?_⟩, rfl⟩
    first | rfl | (obtain ⟨j, hj, rfl, -⟩ := pk_mu (L := 64) c1 c7 (by decide); rw [nI_clamp (by omega)]; exact h j hj)
  · refine g_iload_n dX2_edgesOfNow_4 rfl rfl ?_
    refine g_bipush (v := 64) dX2_edgesOfNow_5 (by decide) ?_
    refine g_icmp_ge (tgt := 19) dX2_edgesOfNow_7 (by decide) (fun c7 => ?_) (fun c7 => ?_)
    · refine g_lconst (v := 0) dX2_edgesOfNow_19 (by decide) ?_
      refine g_lret dX2_edgesOfNow_20 rfl ⟨_, _, rfl, rfl, ?_⟩
      refine ⟨⟨_, rfl, fun h => ?_⟩, rfl⟩
      first | rfl | (obtain ⟨j, hj, rfl, -⟩ := pk_mu (L := 64) c1 c7 (by decide); rw [nI_clamp (by omega)]; exact h j hj)
    · refine g_aload_n dX2_edgesOfNow_10 rfl rfl ?_
      refine g_get dX2_edgesOfNow_11 flX2_9 rfl rfl ?_
      refine g_iload_n dX2_edgesOfNow_14 rfl rfl ?_
      refine g_lald dX2_edgesOfNow_15 rfl (vin (N := 64) (by decide) c1 c7) ?_
      refine g_goto (tgt := 20) dX2_edgesOfNow_16 (by decide) ?_
      refine g_lret dX2_edgesOfNow_20 rfl ⟨_, _, rfl, rfl, ?_⟩
      refine ⟨⟨_, rfl, fun h => ?_⟩, rfl⟩
      first | rfl | (obtain ⟨j, hj, rfl, -⟩ := pk_mu (L := 64) c1 c7 (by decide); rw [nI_clamp (by omega)]; exact h j hj)
set_option maxRecDepth 100000 in
set_option maxHeartbeats 4000000 in
theorem c_edgesFrom14 (S : gS) (x y : Int32) : gCt MX2_edgesFrom (2, 64) 0 0 [.ref 14, .int x, .int y] (wOf τ S) (gN (wOf τ) fun v S' => (∃ r : Int64, v = .long r ∧ (x = -1 → (∀ j, j < 64 → S.2.2 15 j = 0) → r = 0)) ∧ S = S') := by
  refine gCt.of (ls := [some (.ref 14), some (.int x), some (.int y)]) 0 (by decide) rfl (Nat.le_of_ble_eq_true rfl) ?_
  refine g_iload_n dX2_edgesFrom_0 rfl rfl ?_
  refine g_iconst (v := (-1)) dX2_edgesFrom_1 (by decide) ?_
  refine g_icmp_ne (tgt := 11) dX2_edgesFrom_2 (by decide) (fun c2 => ?_) (fun c2 => ?_)
  · refine g_aload_n dX2_edgesFrom_11 rfl rfl ?_
    refine g_get dX2_edgesFrom_12 flX2_18 rfl rfl ?_
    refine g_aload_n dX2_edgesFrom_15 rfl rfl ?_
    refine g_iload_n dX2_edgesFrom_16 rfl rfl ?_
    refine g_iload_n dX2_edgesFrom_17 rfl rfl ?_
    refine g_bipush (v := 8) dX2_edgesFrom_18 (by decide) ?_
    refine g_idiv dX2_edgesFrom_20 (by decide) ?_
    refine cV2N (fun _ _ => rfl) dX2_edgesFrom_21 mlX2_72 imX2_slotOf seX2_slotOf rfl rfl (c_slotOf14 _ _ _) (by decide) (Nat.le_of_ble_eq_true rfl) (Nat.le_of_ble_eq_true rfl) (Nat.le_of_ble_eq_true rfl) ?_
    rintro _ _ ⟨⟨r, rfl⟩, rfl⟩
    refine g_iload_n dX2_edgesFrom_24 rfl rfl ?_
    refine g_bipush (v := 8) dX2_edgesFrom_25 (by decide) ?_
    refine g_irem dX2_edgesFrom_27 (by decide) ?_
    refine cV2N (fun _ _ => rfl) dX2_edgesFrom_28 mlX2_76 imX0_edgesOf seX0_edgesOf rfl rfl (c_edgesOf16 _ _ _) (by decide) (Nat.le_of_ble_eq_true rfl) (Nat.le_of_ble_eq_true rfl) (Nat.le_of_ble_eq_true rfl) ?_
    rintro _ _ ⟨⟨r2, rfl⟩, rfl⟩
    refine g_lret dX2_edgesFrom_31 rfl ⟨_, _, rfl, rfl, ?_⟩
    exact ⟨⟨_, rfl, fun h => absurd h c2⟩, rfl⟩
  · refine g_aload_n dX2_edgesFrom_5 rfl rfl ?_
    refine g_iload_n dX2_edgesFrom_6 rfl rfl ?_
    refine cV1N (fun _ _ => rfl) dX2_edgesFrom_7 mlX2_68 imX2_edgesOfNow seX2_edgesOfNow rfl rfl (c_edgesOfNow14 _ _) (by decide) (Nat.le_of_ble_eq_true rfl) (Nat.le_of_ble_eq_true rfl) (Nat.le_of_ble_eq_true rfl) ?_
    rintro _ _ ⟨⟨en, rfl, hen⟩, rfl⟩
    refine g_lret dX2_edgesFrom_10 rfl ⟨_, _, rfl, rfl, ?_⟩
    exact ⟨⟨_, rfl, fun _ => hen⟩, rfl⟩
set_option maxRecDepth 100000 in
set_option maxHeartbeats 4000000 in
theorem c_joins14 (S : gS) (x y z : Int32) : gCt MX2_joins (3, 90) 0 0 [.ref 14, .int x, .int y, .int z] (wOf τ S) (gN (wOf τ) fun v S' => (∃ r : Int32, v = .int r ∧ (r = 0 ∨ r = 1) ∧ (x = -1 → (∀ j, j < 64 → S.2.2 15 j = 0) → r = 0)) ∧ S = S') := by
  refine gCt.of (ls := [some (.ref 14), some (.int x), some (.int y), some (.int z)]) 0 (by decide) rfl (Nat.le_of_ble_eq_true rfl) ?_
  refine g_aload_n dX2_joins_0 rfl rfl ?_
  refine g_iload_n dX2_joins_1 rfl rfl ?_
  refine g_iload_n dX2_joins_2 rfl rfl ?_
  refine cV2N (fun _ _ => rfl) dX2_joins_3 mlX2_80 imX2_edgesFrom seX2_edgesFrom rfl rfl (c_edgesFrom14 _ _ _) (by decide) (Nat.le_of_ble_eq_true rfl) (Nat.le_of_ble_eq_true rfl) (Nat.le_of_ble_eq_true rfl) ?_
  rintro _ _ ⟨⟨ef, rfl, hef⟩, rfl⟩
  refine g_iload_n dX2_joins_6 rfl rfl ?_
  refine g_lushr dX2_joins_7 ?_
  refine g_lconst (v := 1) dX2_joins_8 (by decide) ?_
  refine g_land dX2_joins_9 ?_
  refine g_lconst (v := 0) dX2_joins_10 (by decide) ?_
  refine g_lcmp dX2_joins_11 ?_
  refine g_if_eq (tgt := 19) dX2_joins_12 (by decide) (fun c12 => ?_) (fun c12 => ?_)
  · refine g_iconst (v := 0) dX2_joins_19 (by decide) ?_
    refine g_zret dX2_joins_20 rfl (by first | rfl | assumption) ⟨_, _, rfl, rfl, ?_⟩
    first | exact ⟨⟨_, rfl, Or.inl rfl, fun _ _ => rfl⟩, rfl⟩ | exact ⟨⟨_, rfl, Or.inr rfl, fun h1 h2 => absurd (by rw [hef h1 h2, sh0]; exact cmp00) c12⟩, rfl⟩
  · refine g_iconst (v := 1) dX2_joins_15 (by decide) ?_
    refine g_goto (tgt := 20) dX2_joins_16 (by decide) ?_
    refine g_zret dX2_joins_20 rfl (by first | rfl | assumption) ⟨_, _, rfl, rfl, ?_⟩
    first | exact ⟨⟨_, rfl, Or.inl rfl, fun _ _ => rfl⟩, rfl⟩ | exact ⟨⟨_, rfl, Or.inr rfl, fun h1 h2 => absurd (by rw [hef h1 h2, sh0]; exact cmp00) c12⟩, rfl⟩
set_option maxRecDepth 100000 in
set_option maxHeartbeats 4000000 in
theorem l_countEdges14 (S : gS) : ∀ (m i : Nat) (a : Int32), i + m = 64 → ((∀ j, j < 64 → S.2.2 15 j = 0) → a = 0) → G MX2_countEdges (1, 40) 4 [some (.ref 14), some (.int a), some (.int (nI i))] [] (wOf τ S) 0 0 (gN (wOf τ) fun v S' => (∃ r : Int32, v = .int r ∧ ((∀ j, j < 64 → S.2.2 15 j = 0) → r = 0)) ∧ S = S') := by
  intro m
  induction m with
  | zero =>
    intro i a hi ha
    obtain rfl : i = 64 := by omega
    refine g_iload_n dX2_countEdges_4 rfl rfl ?_
    refine g_bipush (v := 64) dX2_countEdges_5 (by decide) ?_
    refine g_icmp_ge (tgt := 28) dX2_countEdges_7 (by decide) (fun c7 => ?_) (fun c7 => ?_)
    · refine g_iload_n dX2_countEdges_28 rfl rfl ?_
      refine g_iret dX2_countEdges_29 rfl ⟨_, _, rfl, rfl, ?_⟩
      exact ⟨⟨_, rfl, ha⟩, rfl⟩
    · exact absurd (show (64 : Int32) ≤ nI 64 by decide) c7
  | succ m ih =>
    intro i a hi ha
    refine g_iload_n dX2_countEdges_4 rfl rfl ?_
    refine g_bipush (v := 64) dX2_countEdges_5 (by decide) ?_
    refine g_icmp_ge (tgt := 28) dX2_countEdges_7 (by decide) (fun c7 => ?_) (fun c7 => ?_)
    · refine g_iload_n dX2_countEdges_28 rfl rfl ?_
      refine g_iret dX2_countEdges_29 rfl ⟨_, _, rfl, rfl, ?_⟩
      exact ⟨⟨_, rfl, ha⟩, rfl⟩
    · refine g_iload_n dX2_countEdges_10 rfl rfl ?_
      refine g_aload_n dX2_countEdges_11 rfl rfl ?_
      refine g_get dX2_countEdges_12 flX2_9 rfl rfl ?_
      refine g_iload_n dX2_countEdges_15 rfl rfl ?_
      refine g_lald dX2_countEdges_16 rfl (vp_in_nI (by omega) (by decide)) ?_
      refine cS1N (fun _ _ => rfl) dX2_countEdges_17 mlX2_83 isJ13_bitCount_95d88 (c_bitCount _ _) (by decide) (Nat.le_of_ble_eq_true rfl) (Nat.le_of_ble_eq_true rfl) (Nat.le_of_ble_eq_true rfl) ?_
      rintro _ _ ⟨⟨bc, rfl, hbc⟩, rfl⟩
      refine g_iadd dX2_countEdges_20 ?_
      refine g_istore_n dX2_countEdges_21 rfl (by decide) ?_
      refine g_iinc dX2_countEdges_22 rfl (by decide) (by first | exact gi_1 _ | exact gi_p _) ?_
      refine g_goto (tgt := 4) dX2_countEdges_25 (by decide) ?_
      exact ih (i + 1) _ (by omega) (fun z => by rw [ha z, hbc (by rw [nI_clamp (by omega)]; exact z i (by omega))]; rfl)
set_option maxRecDepth 100000 in
set_option maxHeartbeats 4000000 in
theorem c_countEdges14 (S : gS) : gCt MX2_countEdges (1, 40) 0 0 [.ref 14] (wOf τ S) (gN (wOf τ) fun v S' => (∃ r : Int32, v = .int r ∧ ((∀ j, j < 64 → S.2.2 15 j = 0) → r = 0)) ∧ S = S') := by
  refine gCt.of (ls := [some (.ref 14), none, none]) 2 (by decide) rfl (Nat.le_of_ble_eq_true rfl) ?_
  refine g_iconst (v := 0) dX2_countEdges_0 (by decide) ?_
  refine g_istore_n dX2_countEdges_1 rfl (by decide) ?_
  refine g_iconst (v := 0) dX2_countEdges_2 (by decide) ?_
  refine g_istore_n dX2_countEdges_3 rfl (by decide) ?_
  exact l_countEdges14 S 64 0 0 (by omega) (fun _ => rfl)
set_option maxRecDepth 100000 in
set_option maxHeartbeats 4000000 in
theorem c_versionOfAnswer14 (S : gS) (x : Int32) : gCt MX2_versionOfAnswer (0, 0) 0 0 [.ref 14, .int x] (wOf τ S) (gN (wOf τ) fun v S' => (∃ r : Int32, v = .int r) ∧ S = S') := by
  refine gCt.of (ls := [some (.ref 14), some (.int x)]) 0 (by decide) rfl (Nat.le_of_ble_eq_true rfl) ?_
  refine g_iload_n dX2_versionOfAnswer_0 rfl rfl ?_
  refine g_if_lt (tgt := 19) dX2_versionOfAnswer_1 (by decide) (fun c1 => ?_) (fun c1 => ?_)
  · refine g_iconst (v := (-1)) dX2_versionOfAnswer_19 (by decide) ?_
    refine g_iret dX2_versionOfAnswer_20 rfl ⟨_, _, rfl, rfl, ?_⟩
    exact ⟨⟨_, rfl⟩, rfl⟩
  · refine g_iload_n dX2_versionOfAnswer_4 rfl rfl ?_
    refine g_bipush (v := 100) dX2_versionOfAnswer_5 (by decide) ?_
    refine g_icmp_ge (tgt := 19) dX2_versionOfAnswer_7 (by decide) (fun c7 => ?_) (fun c7 => ?_)
    · refine g_iconst (v := (-1)) dX2_versionOfAnswer_19 (by decide) ?_
      refine g_iret dX2_versionOfAnswer_20 rfl ⟨_, _, rfl, rfl, ?_⟩
      exact ⟨⟨_, rfl⟩, rfl⟩
    · refine g_aload_n dX2_versionOfAnswer_10 rfl rfl ?_
      refine g_get dX2_versionOfAnswer_11 flX2_30 rfl rfl ?_
      refine g_iload_n dX2_versionOfAnswer_14 rfl rfl ?_
      refine g_iald dX2_versionOfAnswer_15 rfl (vin (N := 100) (by decide) c1 c7) ?_
      refine g_goto (tgt := 20) dX2_versionOfAnswer_16 (by decide) ?_
      refine g_iret dX2_versionOfAnswer_20 rfl ⟨_, _, rfl, rfl, ?_⟩
      exact ⟨⟨_, rfl⟩, rfl⟩
set_option maxRecDepth 100000 in
set_option maxHeartbeats 4000000 in
theorem c_maskOfAnswer14 (S : gS) (x : Int32) : gCt MX2_maskOfAnswer (0, 0) 0 0 [.ref 14, .int x] (wOf τ S) (gN (wOf τ) fun v S' => (∃ r : Int64, v = .long r) ∧ S = S') := by
  refine gCt.of (ls := [some (.ref 14), some (.int x)]) 0 (by decide) rfl (Nat.le_of_ble_eq_true rfl) ?_
  refine g_iload_n dX2_maskOfAnswer_0 rfl rfl ?_
  refine g_if_lt (tgt := 19) dX2_maskOfAnswer_1 (by decide) (fun c1 => ?_) (fun c1 => ?_)
  · refine g_lconst (v := 0) dX2_maskOfAnswer_19 (by decide) ?_
    refine g_lret dX2_maskOfAnswer_20 rfl ⟨_, _, rfl, rfl, ?_⟩
    exact ⟨⟨_, rfl⟩, rfl⟩
  · refine g_iload_n dX2_maskOfAnswer_4 rfl rfl ?_
    refine g_bipush (v := 100) dX2_maskOfAnswer_5 (by decide) ?_
    refine g_icmp_ge (tgt := 19) dX2_maskOfAnswer_7 (by decide) (fun c7 => ?_) (fun c7 => ?_)
    · refine g_lconst (v := 0) dX2_maskOfAnswer_19 (by decide) ?_
      refine g_lret dX2_maskOfAnswer_20 rfl ⟨_, _, rfl, rfl, ?_⟩
      exact ⟨⟨_, rfl⟩, rfl⟩
    · refine g_aload_n dX2_maskOfAnswer_10 rfl rfl ?_
      refine g_get dX2_maskOfAnswer_11 flX2_33 rfl rfl ?_
      refine g_iload_n dX2_maskOfAnswer_14 rfl rfl ?_
      refine g_lald dX2_maskOfAnswer_15 rfl (vin (N := 100) (by decide) c1 c7) ?_
      refine g_goto (tgt := 20) dX2_maskOfAnswer_16 (by decide) ?_
      refine g_lret dX2_maskOfAnswer_20 rfl ⟨_, _, rfl, rfl, ?_⟩
      exact ⟨⟨_, rfl⟩, rfl⟩
end
