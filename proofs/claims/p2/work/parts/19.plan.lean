section
variable {τ : gW}
theorem cmp_eq {x y : Int64} (h : x = y) : lg_cmp x y = 0 := by
  subst h
  unfold lg_cmp
  simp
theorem z1 : narrow .boolean (.int 1) = .int 1 := rfl
theorem n315 {x : Int32} (h : x ≤ 0) (h0 : ¬ x ≤ nI 0) : False := h0 h
set_option maxRecDepth 100000 in
set_option maxHeartbeats 4000000 in
theorem l_isAlike (S : gS) (x g : Int32) : ∀ (m i : Nat), i + m = 8 → G MX0_isAlike (2, 64) 3 [some (.ref 6), some (.int x), some (.ref 4), some (.int g), some (.int (nI i))] [] (wOf τ S) 0 0 (gN (wOf τ) fun v S' => (∃ r : Int32, v = .int r ∧ (r = 0 ∨ r = 1)) ∧ S = S') := by
  intro m
  induction m with
  | zero =>
    intro i hi
    obtain rfl : i = 8 := by omega
    refine g_iload dX0_isAlike_3 rfl ?_
    refine g_bipush (v := 8) dX0_isAlike_5 (by decide) ?_
    refine g_icmp_ge (tgt := 40) dX0_isAlike_7 (by decide) (fun c7 => ?_) (fun c7 => ?_)
    · refine g_iconst (v := 1) dX0_isAlike_40 (by decide) ?_
      refine g_zret dX0_isAlike_41 rfl (by first | rfl | assumption) ⟨_, _, rfl, rfl, ?_⟩
      first | exact ⟨⟨_, rfl, Or.inl rfl⟩, rfl⟩ | exact ⟨⟨_, rfl, Or.inr rfl⟩, rfl⟩
    · exact absurd (show (8 : Int32) ≤ nI 8 by decide) c7
  | succ m ih =>
    intro i hi
    refine g_iload dX0_isAlike_3 rfl ?_
    refine g_bipush (v := 8) dX0_isAlike_5 (by decide) ?_
    refine g_icmp_ge (tgt := 40) dX0_isAlike_7 (by decide) (fun c7 => ?_) (fun c7 => ?_)
    · refine g_iconst (v := 1) dX0_isAlike_40 (by decide) ?_
      refine g_zret dX0_isAlike_41 rfl (by first | rfl | assumption) ⟨_, _, rfl, rfl, ?_⟩
      first | exact ⟨⟨_, rfl, Or.inl rfl⟩, rfl⟩ | exact ⟨⟨_, rfl, Or.inr rfl⟩, rfl⟩
    · refine g_aload_n dX0_isAlike_10 rfl rfl ?_
      refine g_iload_n dX0_isAlike_11 rfl rfl ?_
      refine g_iload dX0_isAlike_12 rfl ?_
      refine cV2N (fun _ _ => rfl) dX0_isAlike_14 mlX0_53 imX0_edgesOf seX0_edgesOf rfl rfl (c_edgesOf6 _ _ _) (by decide) (Nat.le_of_ble_eq_true rfl) (Nat.le_of_ble_eq_true rfl) (Nat.le_of_ble_eq_true rfl) ?_
      rintro _ _ ⟨⟨r2, rfl⟩, rfl⟩
      refine g_aload_n dX0_isAlike_17 rfl rfl ?_
      refine g_iload_n dX0_isAlike_18 rfl rfl ?_
      refine g_bipush (v := 8) dX0_isAlike_19 (by decide) ?_
      refine g_imul dX0_isAlike_21 ?_
      refine g_iload dX0_isAlike_22 rfl ?_
      refine g_iadd dX0_isAlike_24 ?_
      refine cV1N (fun _ _ => rfl) dX0_isAlike_25 mlX0_56 imX2_edgesOfNow seX2_edgesOfNow rfl rfl (c_edgesOfNow4 _ _) (by decide) (Nat.le_of_ble_eq_true rfl) (Nat.le_of_ble_eq_true rfl) (Nat.le_of_ble_eq_true rfl) ?_
      rintro _ _ ⟨⟨en, rfl, hen⟩, rfl⟩
      refine g_lcmp dX0_isAlike_28 ?_
      refine g_if_eq (tgt := 34) dX0_isAlike_29 (by decide) (fun c29 => ?_) (fun c29 => ?_)
      · refine g_iinc dX0_isAlike_34 rfl (by decide) (by first | exact gi_1 _ | exact gi_p _) ?_
        refine g_goto (tgt := 3) dX0_isAlike_37 (by decide) ?_
        exact ih (i + 1) (by omega)
      · refine g_iconst (v := 0) dX0_isAlike_32 (by decide) ?_
        refine g_zret dX0_isAlike_33 rfl (by first | rfl | assumption) ⟨_, _, rfl, rfl, ?_⟩
        first | exact ⟨⟨_, rfl, Or.inl rfl⟩, rfl⟩ | exact ⟨⟨_, rfl, Or.inr rfl⟩, rfl⟩
set_option maxRecDepth 100000 in
set_option maxHeartbeats 4000000 in
theorem c_isAlike (S : gS) (x g : Int32) : gCt MX0_isAlike (2, 64) 0 0 [.ref 6, .int x, .ref 4, .int g] (wOf τ S) (gN (wOf τ) fun v S' => (∃ r : Int32, v = .int r ∧ (r = 0 ∨ r = 1)) ∧ S = S') := by
  refine gCt.of (ls := [some (.ref 6), some (.int x), some (.ref 4), some (.int g), none]) 1 (by decide) rfl (Nat.le_of_ble_eq_true rfl) ?_
  refine g_iconst (v := 0) dX0_isAlike_0 (by decide) ?_
  refine g_istore dX0_isAlike_1 (by decide) ?_
  exact l_isAlike S x g 8 0 rfl
set_option maxRecDepth 100000 in
set_option maxHeartbeats 4000000 in
theorem l_namedAlike (S : gS) (g : Int32) : ∀ (m i : Nat) (a : Int32) (l5 : Option Value), i + m = 2 ^ 31 - 1 → (S.1 6 3 ≤ 0 → a = -1) → G MX0_namedAlike (3, 90) 5 [some (.ref 6), some (.ref 4), some (.int g), some (.int a), some (.int (nI i)), l5] [] (wOf τ S) 0 0 (gN (wOf τ) fun v S' => (∃ r : Int32, v = .int r ∧ (S.1 6 3 ≤ 0 → r = -1)) ∧ S = S') := by
  intro m
  induction m with
  | zero =>
    intro i a l5 hi ha
    have hle : S.1 6 3 ≤ nI i := by
      refine Classical.byContradiction fun z => ?_
      obtain ⟨j, hj, -, hij⟩ := nI_lt_of (by omega) z
      omega
    refine g_iload dX0_namedAlike_5 rfl ?_
    refine g_aload_n dX0_namedAlike_7 rfl rfl ?_
    refine g_get dX0_namedAlike_8 flX0_22 rfl rfl ?_
    refine g_icmp_ge (tgt := 62) dX0_namedAlike_11 (by decide) (fun c11 => ?_) (fun c11 => ?_)
    · refine g_iload_n dX0_namedAlike_62 rfl rfl ?_
      refine g_iret dX0_namedAlike_63 rfl ⟨_, _, rfl, rfl, ?_⟩
      exact ⟨⟨_, rfl, ha⟩, rfl⟩
    · exact absurd hle c11
  | succ m ih =>
    intro i a l5 hi ha
    refine g_iload dX0_namedAlike_5 rfl ?_
    refine g_aload_n dX0_namedAlike_7 rfl rfl ?_
    refine g_get dX0_namedAlike_8 flX0_22 rfl rfl ?_
    refine g_icmp_ge (tgt := 62) dX0_namedAlike_11 (by decide) (fun c11 => ?_) (fun c11 => ?_)
    · refine g_iload_n dX0_namedAlike_62 rfl rfl ?_
      refine g_iret dX0_namedAlike_63 rfl ⟨_, _, rfl, rfl, ?_⟩
      exact ⟨⟨_, rfl, ha⟩, rfl⟩
    · refine g_aload_n dX0_namedAlike_14 rfl rfl ?_
      refine g_iload dX0_namedAlike_15 rfl ?_
      refine cV1N (fun _ _ => rfl) dX0_namedAlike_17 mlX0_46 imX0_numberIn seX0_numberIn rfl rfl (c_numberIn6 _ _) (by decide) (Nat.le_of_ble_eq_true rfl) (Nat.le_of_ble_eq_true rfl) (Nat.le_of_ble_eq_true rfl) ?_
      rintro _ _ ⟨⟨rn, rfl⟩, rfl⟩
      refine g_istore dX0_namedAlike_20 (by decide) ?_
      refine g_aload_n dX0_namedAlike_22 rfl rfl ?_
      refine g_iload dX0_namedAlike_23 rfl ?_
      refine cV1N (fun _ _ => rfl) dX0_namedAlike_25 mlX0_43 imX0_namesOf seX0_namesOf rfl rfl (c_namesOf6 _ _) (by decide) (Nat.le_of_ble_eq_true rfl) (Nat.le_of_ble_eq_true rfl) (Nat.le_of_ble_eq_true rfl) ?_
      rintro _ _ ⟨⟨rm, rfl, -⟩, rfl⟩
      refine g_if_le (tgt := 56) dX0_namedAlike_28 (by decide) (fun c28 => ?_) (fun c28 => ?_)
      · refine g_iinc dX0_namedAlike_56 rfl (by decide) (by first | exact gi_1 _ | exact gi_p _) ?_
        refine g_goto (tgt := 5) dX0_namedAlike_59 (by decide) ?_
        exact ih (i + 1) _ _ (by omega) (fun z => absurd (Int32.le_trans z (nI_pos' (by omega))) c11)
      · refine g_iload_n dX0_namedAlike_31 rfl rfl ?_
        refine g_iconst (v := (-1)) dX0_namedAlike_32 (by decide) ?_
        refine g_icmp_eq (tgt := 42) dX0_namedAlike_33 (by decide) (fun c33 => ?_) (fun c33 => ?_)
        · refine g_aload_n dX0_namedAlike_42 rfl rfl ?_
          refine g_iload dX0_namedAlike_43 rfl ?_
          refine g_aload_n dX0_namedAlike_45 rfl rfl ?_
          refine g_iload_n dX0_namedAlike_46 rfl rfl ?_
          refine cV3N (fun _ _ => rfl) dX0_namedAlike_47 mlX0_49 imX0_isAlike seX0_isAlike rfl rfl (c_isAlike _ _ _) (by decide) (Nat.le_of_ble_eq_true rfl) (Nat.le_of_ble_eq_true rfl) (Nat.le_of_ble_eq_true rfl) ?_
          rintro _ _ ⟨⟨ra, rfl, -⟩, rfl⟩
          refine g_if_eq (tgt := 56) dX0_namedAlike_50 (by decide) (fun c50 => ?_) (fun c50 => ?_)
          · refine g_iinc dX0_namedAlike_56 rfl (by decide) (by first | exact gi_1 _ | exact gi_p _) ?_
            refine g_goto (tgt := 5) dX0_namedAlike_59 (by decide) ?_
            exact ih (i + 1) _ _ (by omega) (fun z => absurd (Int32.le_trans z (nI_pos' (by omega))) c11)
          · refine g_iload dX0_namedAlike_53 rfl ?_
            refine g_istore_n dX0_namedAlike_55 rfl (by decide) ?_
            refine g_iinc dX0_namedAlike_56 rfl (by decide) (by first | exact gi_1 _ | exact gi_p _) ?_
            refine g_goto (tgt := 5) dX0_namedAlike_59 (by decide) ?_
            exact ih (i + 1) _ _ (by omega) (fun z => absurd (Int32.le_trans z (nI_pos' (by omega))) c11)
        · refine g_iload dX0_namedAlike_36 rfl ?_
          refine g_iload_n dX0_namedAlike_38 rfl rfl ?_
          refine g_icmp_ge (tgt := 56) dX0_namedAlike_39 (by decide) (fun c39 => ?_) (fun c39 => ?_)
          · refine g_iinc dX0_namedAlike_56 rfl (by decide) (by first | exact gi_1 _ | exact gi_p _) ?_
            refine g_goto (tgt := 5) dX0_namedAlike_59 (by decide) ?_
            exact ih (i + 1) _ _ (by omega) (fun z => absurd (Int32.le_trans z (nI_pos' (by omega))) c11)
          · refine g_aload_n dX0_namedAlike_42 rfl rfl ?_
            refine g_iload dX0_namedAlike_43 rfl ?_
            refine g_aload_n dX0_namedAlike_45 rfl rfl ?_
            refine g_iload_n dX0_namedAlike_46 rfl rfl ?_
            refine cV3N (fun _ _ => rfl) dX0_namedAlike_47 mlX0_49 imX0_isAlike seX0_isAlike rfl rfl (c_isAlike _ _ _) (by decide) (Nat.le_of_ble_eq_true rfl) (Nat.le_of_ble_eq_true rfl) (Nat.le_of_ble_eq_true rfl) ?_
            rintro _ _ ⟨⟨ra, rfl, -⟩, rfl⟩
            refine g_if_eq (tgt := 56) dX0_namedAlike_50 (by decide) (fun c50 => ?_) (fun c50 => ?_)
            · refine g_iinc dX0_namedAlike_56 rfl (by decide) (by first | exact gi_1 _ | exact gi_p _) ?_
              refine g_goto (tgt := 5) dX0_namedAlike_59 (by decide) ?_
              exact ih (i + 1) _ _ (by omega) (fun z => absurd (Int32.le_trans z (nI_pos' (by omega))) c11)
            · refine g_iload dX0_namedAlike_53 rfl ?_
              refine g_istore_n dX0_namedAlike_55 rfl (by decide) ?_
              refine g_iinc dX0_namedAlike_56 rfl (by decide) (by first | exact gi_1 _ | exact gi_p _) ?_
              refine g_goto (tgt := 5) dX0_namedAlike_59 (by decide) ?_
              exact ih (i + 1) _ _ (by omega) (fun z => absurd (Int32.le_trans z (nI_pos' (by omega))) c11)
set_option maxRecDepth 100000 in
set_option maxHeartbeats 4000000 in
theorem c_namedAlike (S : gS) (g : Int32) : gCt MX0_namedAlike (3, 90) 0 0 [.ref 6, .ref 4, .int g] (wOf τ S) (gN (wOf τ) fun v S' => (∃ r : Int32, v = .int r ∧ (S.1 6 3 ≤ 0 → r = -1)) ∧ S = S') := by
  refine gCt.of (ls := [some (.ref 6), some (.ref 4), some (.int g), none, none, none]) 3 (by decide) rfl (Nat.le_of_ble_eq_true rfl) ?_
  refine g_iconst (v := (-1)) dX0_namedAlike_0 (by decide) ?_
  refine g_istore_n dX0_namedAlike_1 rfl (by decide) ?_
  refine g_iconst (v := 0) dX0_namedAlike_2 (by decide) ?_
  refine g_istore dX0_namedAlike_3 (by decide) ?_
  exact l_namedAlike S g (2 ^ 31 - 1) 0 (-1) none (by omega) (fun _ => rfl)
set_option maxRecDepth 100000 in
set_option maxHeartbeats 4000000 in
theorem l_mark2 (S : gS) : ∀ (m i : Nat) (f : Nat → Int32) (l3 : Option Value), i + m = 2 ^ 31 - 1 → (S.1 6 3 ≤ 0 → ∀ j, j < 323 → f j = 0) → G MX0_markNamed (2, 64) 20 [some (.ref 6), some (.ref 27), some (.int (nI i)), l3] [] (wOf τ (mA S 27 f)) 0 0 (g0 (wOf τ) fun S' => ∃ f : Nat → Int32, S' = mA S 27 f ∧ (S.1 6 3 ≤ 0 → ∀ j, j < 323 → f j = 0)) := by
  intro m
  induction m with
  | zero =>
    intro i f l3 hi hf
    have hle : S.1 6 3 ≤ nI i := by
      refine Classical.byContradiction fun z => ?_
      obtain ⟨j, hj, -, hij⟩ := nI_lt_of (by omega) z
      omega
    refine g_iload_n dX0_markNamed_20 rfl rfl ?_
    refine g_aload_n dX0_markNamed_21 rfl rfl ?_
    refine g_get dX0_markNamed_22 flX0_22 rfl rfl ?_
    refine g_icmp_ge (tgt := 62) dX0_markNamed_25 (by decide) (fun c25 => ?_) (fun c25 => ?_)
    · refine g_vret dX0_markNamed_62 rfl ⟨_, rfl, rfl, ?_⟩
      exact ⟨f, rfl, hf⟩
    · exact absurd hle c25
  | succ m ih =>
    intro i f l3 hi hf
    refine g_iload_n dX0_markNamed_20 rfl rfl ?_
    refine g_aload_n dX0_markNamed_21 rfl rfl ?_
    refine g_get dX0_markNamed_22 flX0_22 rfl rfl ?_
    refine g_icmp_ge (tgt := 62) dX0_markNamed_25 (by decide) (fun c25 => ?_) (fun c25 => ?_)
    · refine g_vret dX0_markNamed_62 rfl ⟨_, rfl, rfl, ?_⟩
      exact ⟨f, rfl, hf⟩
    · refine g_aload_n dX0_markNamed_28 rfl rfl ?_
      refine g_iload_n dX0_markNamed_29 rfl rfl ?_
      refine cV1N (fun _ _ => rfl) dX0_markNamed_30 mlX0_46 imX0_numberIn seX0_numberIn rfl rfl (c_numberIn6 _ _) (by decide) (Nat.le_of_ble_eq_true rfl) (Nat.le_of_ble_eq_true rfl) (Nat.le_of_ble_eq_true rfl) ?_
      rintro _ _ ⟨⟨rn, rfl⟩, rfl⟩
      refine g_istore_n dX0_markNamed_33 rfl (by decide) ?_
      refine g_aload_n dX0_markNamed_34 rfl rfl ?_
      refine g_iload_n dX0_markNamed_35 rfl rfl ?_
      refine cV1N (fun _ _ => rfl) dX0_markNamed_36 mlX0_43 imX0_namesOf seX0_namesOf rfl rfl (c_namesOf6 _ _) (by decide) (Nat.le_of_ble_eq_true rfl) (Nat.le_of_ble_eq_true rfl) (Nat.le_of_ble_eq_true rfl) ?_
      rintro _ _ ⟨⟨rm, rfl, -⟩, rfl⟩
      refine g_if_le (tgt := 56) dX0_markNamed_39 (by decide) (fun c39 => ?_) (fun c39 => ?_)
      · refine g_iinc dX0_markNamed_56 rfl (by decide) (by first | exact gi_1 _ | exact gi_p _) ?_
        refine g_goto (tgt := 20) dX0_markNamed_59 (by decide) ?_
        first | exact ih (i + 1) _ _ (by omega) (fun z => absurd (Int32.le_trans z (nI_pos' (by omega))) c25) | (rw [mA_mA]; exact ih (i + 1) _ _ (by omega) (fun z => absurd (Int32.le_trans z (nI_pos' (by omega))) c25))
      · refine g_iload_n dX0_markNamed_42 rfl rfl ?_
        refine g_if_lt (tgt := 56) dX0_markNamed_43 (by decide) (fun c43 => ?_) (fun c43 => ?_)
        · refine g_iinc dX0_markNamed_56 rfl (by decide) (by first | exact gi_1 _ | exact gi_p _) ?_
          refine g_goto (tgt := 20) dX0_markNamed_59 (by decide) ?_
          first | exact ih (i + 1) _ _ (by omega) (fun z => absurd (Int32.le_trans z (nI_pos' (by omega))) c25) | (rw [mA_mA]; exact ih (i + 1) _ _ (by omega) (fun z => absurd (Int32.le_trans z (nI_pos' (by omega))) c25))
        · refine g_iload_n dX0_markNamed_46 rfl rfl ?_
          refine g_aload_n dX0_markNamed_47 rfl rfl ?_
          refine g_alen dX0_markNamed_48 rfl (fun _ => rfl) ?_
          refine g_icmp_ge (tgt := 56) dX0_markNamed_49 (by decide) (fun c49 => ?_) (fun c49 => ?_)
          · refine g_iinc dX0_markNamed_56 rfl (by decide) (by first | exact gi_1 _ | exact gi_p _) ?_
            refine g_goto (tgt := 20) dX0_markNamed_59 (by decide) ?_
            first | exact ih (i + 1) _ _ (by omega) (fun z => absurd (Int32.le_trans z (nI_pos' (by omega))) c25) | (rw [mA_mA]; exact ih (i + 1) _ _ (by omega) (fun z => absurd (Int32.le_trans z (nI_pos' (by omega))) c25))
          · refine g_aload_n dX0_markNamed_52 rfl rfl ?_
            refine g_iload_n dX0_markNamed_53 rfl rfl ?_
            refine g_iconst (v := 1) dX0_markNamed_54 (by decide) ?_
            refine p_zast dX0_markNamed_55 rfl (vin (N := 323) (by decide) c43 c49) (by with_reducible first | exact wA_27 _ _ _) ?_
            refine g_iinc dX0_markNamed_56 rfl (by decide) (by first | exact gi_1 _ | exact gi_p _) ?_
            refine g_goto (tgt := 20) dX0_markNamed_59 (by decide) ?_
            first | exact ih (i + 1) _ _ (by omega) (fun z => absurd (Int32.le_trans z (nI_pos' (by omega))) c25) | (rw [mA_mA]; exact ih (i + 1) _ _ (by omega) (fun z => absurd (Int32.le_trans z (nI_pos' (by omega))) c25))
set_option maxRecDepth 100000 in
set_option maxHeartbeats 4000000 in
theorem l_mark1 (S : gS) : ∀ (m i : Nat) (f : Nat → Int32), i + m = 323 → (∀ j, j < i → f j = 0) → G MX0_markNamed (2, 64) 2 [some (.ref 6), some (.ref 27), some (.int (nI i)), none] [] (wOf τ (mA S 27 f)) 0 0 (g0 (wOf τ) fun S' => ∃ f : Nat → Int32, S' = mA S 27 f ∧ (S.1 6 3 ≤ 0 → ∀ j, j < 323 → f j = 0)) := by
  intro m
  induction m with
  | zero =>
    intro i f hi hf
    obtain rfl : i = 323 := by omega
    refine g_iload_n dX0_markNamed_2 rfl rfl ?_
    refine g_aload_n dX0_markNamed_3 rfl rfl ?_
    refine g_alen dX0_markNamed_4 rfl (fun _ => rfl) ?_
    refine g_icmp_ge (tgt := 18) dX0_markNamed_5 (by decide) (fun c5 => ?_) (fun c5 => ?_)
    · refine g_iconst (v := 0) dX0_markNamed_18 (by decide) ?_
      refine g_istore_n dX0_markNamed_19 rfl (by decide) ?_
      exact l_mark2 S (2 ^ 31 - 1) 0 f none (by omega) (fun _ => hf)
    · exact absurd (nI_le (a := 323) (b := 323) (Nat.le_refl _) (by decide)) c5
  | succ m ih =>
    intro i f hi hf
    refine g_iload_n dX0_markNamed_2 rfl rfl ?_
    refine g_aload_n dX0_markNamed_3 rfl rfl ?_
    refine g_alen dX0_markNamed_4 rfl (fun _ => rfl) ?_
    refine g_icmp_ge (tgt := 18) dX0_markNamed_5 (by decide) (fun c5 => ?_) (fun c5 => ?_)
    · exact absurd c5 (nI_ge (b := 323) (by omega) (by decide))
    · refine g_aload_n dX0_markNamed_8 rfl rfl ?_
      refine g_iload_n dX0_markNamed_9 rfl rfl ?_
      refine g_iconst (v := 0) dX0_markNamed_10 (by decide) ?_
      refine p_zast dX0_markNamed_11 rfl (vp_in_nI (by omega) (by decide)) (by with_reducible first | exact wA_27 _ _ _) ?_
      refine g_iinc dX0_markNamed_12 rfl (by decide) (by first | exact gi_1 _ | exact gi_p _) ?_
      refine g_goto (tgt := 2) dX0_markNamed_15 (by decide) ?_
      rw [mA_mA]
      refine ih (i + 1) _ (by omega) (fun j hj => ?_)
      rw [nI_clamp (by omega)]
      simp only [upd]
      by_cases e : j = i
      · rw [if_pos e]; rfl
      · rw [if_neg e]; exact hf j (by omega)
set_option maxRecDepth 100000 in
set_option maxHeartbeats 4000000 in
theorem c_markNamed (S : gS) : gCt MX0_markNamed (2, 64) 0 0 [.ref 6, .ref 27] (wOf τ S) (g0 (wOf τ) fun S' => ∃ f : Nat → Int32, S' = mA S 27 f ∧ (S.1 6 3 ≤ 0 → ∀ j, j < 323 → f j = 0)) := by
  refine gCt.of (ls := [some (.ref 6), some (.ref 27), none, none]) 2 (by decide) rfl (Nat.le_of_ble_eq_true rfl) ?_
  refine g_iconst (v := 0) dX0_markNamed_0 (by decide) ?_
  refine g_istore_n dX0_markNamed_1 rfl (by decide) ?_
  have h := l_mark1 (τ := τ) S 323 0 (S.2.1 27) rfl (fun j hj => by omega)
  rw [mA_self] at h
  exact h
set_option maxRecDepth 100000 in
set_option maxHeartbeats 4000000 in
theorem c_numberOf (S : gS) (x : Int32) : gCt MX3_numberOf (0, 0) 0 0 [.ref 24, .int x] (wOf τ S) (gN (wOf τ) fun v S' => (∃ r : Int32, v = .int r ∧ (x = nI 0 → r = S.2.1 25 0)) ∧ S = S') := by
  refine gCt.of (ls := [some (.ref 24), some (.int x)]) 0 (by decide) rfl (Nat.le_of_ble_eq_true rfl) ?_
  refine g_iload_n dX3_numberOf_0 rfl rfl ?_
  refine g_if_lt (tgt := 19) dX3_numberOf_1 (by decide) (fun c1 => ?_) (fun c1 => ?_)
  · refine g_iconst (v := (-1)) dX3_numberOf_19 (by decide) ?_
    refine g_iret dX3_numberOf_20 rfl ⟨_, _, rfl, rfl, ?_⟩
    refine ⟨⟨_, rfl, fun h => ?_⟩, rfl⟩
    subst h
    first | rfl | exact absurd c1 (nI_pos (by decide)) | exact absurd c7 (nI_ge (b := 8) (by decide) (by decide))
  · refine g_iload_n dX3_numberOf_4 rfl rfl ?_
    refine g_bipush (v := 8) dX3_numberOf_5 (by decide) ?_
    refine g_icmp_ge (tgt := 19) dX3_numberOf_7 (by decide) (fun c7 => ?_) (fun c7 => ?_)
    · refine g_iconst (v := (-1)) dX3_numberOf_19 (by decide) ?_
      refine g_iret dX3_numberOf_20 rfl ⟨_, _, rfl, rfl, ?_⟩
      refine ⟨⟨_, rfl, fun h => ?_⟩, rfl⟩
      subst h
      first | rfl | exact absurd c1 (nI_pos (by decide)) | exact absurd c7 (nI_ge (b := 8) (by decide) (by decide))
    · refine g_aload_n dX3_numberOf_10 rfl rfl ?_
      refine g_get dX3_numberOf_11 flX3_9 rfl rfl ?_
      refine g_iload_n dX3_numberOf_14 rfl rfl ?_
      refine g_iald dX3_numberOf_15 rfl (vin (N := 8) (by decide) c1 c7) ?_
      refine g_goto (tgt := 20) dX3_numberOf_16 (by decide) ?_
      refine g_iret dX3_numberOf_20 rfl ⟨_, _, rfl, rfl, ?_⟩
      refine ⟨⟨_, rfl, fun h => ?_⟩, rfl⟩
      subst h
      first | rfl | exact absurd c1 (nI_pos (by decide)) | exact absurd c7 (nI_ge (b := 8) (by decide) (by decide))
set_option maxRecDepth 100000 in
set_option maxHeartbeats 4000000 in
theorem c_isNew (S : gS) (x : Int32) : gCt MX3_isNew (0, 0) 0 0 [.ref 24, .int x] (wOf τ S) (gN (wOf τ) fun v S' => (∃ r : Int32, v = .int r ∧ (r = 0 ∨ r = 1)) ∧ S = S') := by
  refine gCt.of (ls := [some (.ref 24), some (.int x)]) 0 (by decide) rfl (Nat.le_of_ble_eq_true rfl) ?_
  refine g_iload_n dX3_isNew_0 rfl rfl ?_
  refine g_if_lt (tgt := 23) dX3_isNew_1 (by decide) (fun c1 => ?_) (fun c1 => ?_)
  · refine g_iconst (v := 0) dX3_isNew_23 (by decide) ?_
    refine g_zret dX3_isNew_24 rfl (by first | rfl | assumption) ⟨_, _, rfl, rfl, ?_⟩
    first | exact ⟨⟨_, rfl, Or.inl rfl⟩, rfl⟩ | exact ⟨⟨_, rfl, Or.inr rfl⟩, rfl⟩
  · refine g_iload_n dX3_isNew_4 rfl rfl ?_
    refine g_bipush (v := 8) dX3_isNew_5 (by decide) ?_
    refine g_icmp_ge (tgt := 23) dX3_isNew_7 (by decide) (fun c7 => ?_) (fun c7 => ?_)
    · refine g_iconst (v := 0) dX3_isNew_23 (by decide) ?_
      refine g_zret dX3_isNew_24 rfl (by first | rfl | assumption) ⟨_, _, rfl, rfl, ?_⟩
      first | exact ⟨⟨_, rfl, Or.inl rfl⟩, rfl⟩ | exact ⟨⟨_, rfl, Or.inr rfl⟩, rfl⟩
    · refine g_aload_n dX3_isNew_10 rfl rfl ?_
      refine g_get dX3_isNew_11 flX3_15 rfl rfl ?_
      refine g_iload_n dX3_isNew_14 rfl rfl ?_
      refine g_zald dX3_isNew_15 rfl (vin (N := 8) (by decide) c1 c7) ?_
      refine g_if_eq (tgt := 23) dX3_isNew_16 (by decide) (fun c16 => ?_) (fun c16 => ?_)
      · refine g_iconst (v := 0) dX3_isNew_23 (by decide) ?_
        refine g_zret dX3_isNew_24 rfl (by first | rfl | assumption) ⟨_, _, rfl, rfl, ?_⟩
        first | exact ⟨⟨_, rfl, Or.inl rfl⟩, rfl⟩ | exact ⟨⟨_, rfl, Or.inr rfl⟩, rfl⟩
      · refine g_iconst (v := 1) dX3_isNew_19 (by decide) ?_
        refine g_goto (tgt := 24) dX3_isNew_20 (by decide) ?_
        refine g_zret dX3_isNew_24 rfl (by first | rfl | assumption) ⟨_, _, rfl, rfl, ?_⟩
        first | exact ⟨⟨_, rfl, Or.inl rfl⟩, rfl⟩ | exact ⟨⟨_, rfl, Or.inr rfl⟩, rfl⟩
set_option maxRecDepth 100000 in
set_option maxHeartbeats 4000000 in
theorem c_bytes (S : gS) : gCt MX3_bytes (0, 0) 0 0 [.ref 24] (wOf τ S) (gN (wOf τ) fun v S' => v = .int (S.1 24 3 * 76 + 16 + 12) ∧ S = S') := by
  refine gCt.of (ls := [some (.ref 24)]) 0 (by decide) rfl (Nat.le_of_ble_eq_true rfl) ?_
  refine g_aload_n dX3_bytes_0 rfl rfl ?_
  refine g_get dX3_bytes_1 flX3_22 rfl rfl ?_
  refine g_bipush (v := 76) dX3_bytes_4 (by decide) ?_
  refine g_imul dX3_bytes_6 ?_
  refine g_bipush (v := 16) dX3_bytes_7 (by decide) ?_
  refine g_iadd dX3_bytes_9 ?_
  refine g_bipush (v := 12) dX3_bytes_10 (by decide) ?_
  refine g_iadd dX3_bytes_12 ?_
  refine g_iret dX3_bytes_13 rfl ⟨_, _, rfl, rfl, ?_⟩
  exact ⟨rfl, rfl⟩
set_option maxRecDepth 100000 in
set_option maxHeartbeats 4000000 in
theorem l_areAlike (S : gS) (x g : Int32) : ∀ (m i : Nat), i + m = 8 → G MX3_areAlike (1, 40) 3 [some (.ref 24), some (.ref 4), some (.int x), some (.int g), some (.int (nI i))] [] (wOf τ S) 0 0 (gN (wOf τ) fun v S' => (∃ r : Int32, v = .int r ∧ ((∀ j, j < 64 → S.2.2 5 j = 0) → ¬ r = 0)) ∧ S = S') := by
  intro m
  induction m with
  | zero =>
    intro i hi
    obtain rfl : i = 8 := by omega
    refine g_iload dX3_areAlike_3 rfl ?_
    refine g_bipush (v := 8) dX3_areAlike_5 (by decide) ?_
    refine g_icmp_ge (tgt := 44) dX3_areAlike_7 (by decide) (fun c7 => ?_) (fun c7 => ?_)
    · refine g_iconst (v := 1) dX3_areAlike_44 (by decide) ?_
      refine g_zret dX3_areAlike_45 rfl (by first | rfl | assumption) ⟨_, _, rfl, rfl, ?_⟩
      exact ⟨⟨_, rfl, fun _ => by decide⟩, rfl⟩
    · exact absurd (show (8 : Int32) ≤ nI 8 by decide) c7
  | succ m ih =>
    intro i hi
    refine g_iload dX3_areAlike_3 rfl ?_
    refine g_bipush (v := 8) dX3_areAlike_5 (by decide) ?_
    refine g_icmp_ge (tgt := 44) dX3_areAlike_7 (by decide) (fun c7 => ?_) (fun c7 => ?_)
    · refine g_iconst (v := 1) dX3_areAlike_44 (by decide) ?_
      refine g_zret dX3_areAlike_45 rfl (by first | rfl | assumption) ⟨_, _, rfl, rfl, ?_⟩
      exact ⟨⟨_, rfl, fun _ => by decide⟩, rfl⟩
    · refine g_aload_n dX3_areAlike_10 rfl rfl ?_
      refine g_iload_n dX3_areAlike_11 rfl rfl ?_
      refine g_bipush (v := 8) dX3_areAlike_12 (by decide) ?_
      refine g_imul dX3_areAlike_14 ?_
      refine g_iload dX3_areAlike_15 rfl ?_
      refine g_iadd dX3_areAlike_17 ?_
      refine cV1N (fun _ _ => rfl) dX3_areAlike_18 mlX3_59 imX2_edgesOfNow seX2_edgesOfNow rfl rfl (c_edgesOfNow4 _ _) (by decide) (Nat.le_of_ble_eq_true rfl) (Nat.le_of_ble_eq_true rfl) (Nat.le_of_ble_eq_true rfl) ?_
      rintro _ _ ⟨⟨ea, rfl, hea⟩, rfl⟩
      refine g_aload_n dX3_areAlike_21 rfl rfl ?_
      refine g_iload_n dX3_areAlike_22 rfl rfl ?_
      refine g_bipush (v := 8) dX3_areAlike_23 (by decide) ?_
      refine g_imul dX3_areAlike_25 ?_
      refine g_iload dX3_areAlike_26 rfl ?_
      refine g_iadd dX3_areAlike_28 ?_
      refine cV1N (fun _ _ => rfl) dX3_areAlike_29 mlX3_59 imX2_edgesOfNow seX2_edgesOfNow rfl rfl (c_edgesOfNow4 _ _) (by decide) (Nat.le_of_ble_eq_true rfl) (Nat.le_of_ble_eq_true rfl) (Nat.le_of_ble_eq_true rfl) ?_
      rintro _ _ ⟨⟨eb, rfl, heb⟩, rfl⟩
      refine g_lcmp dX3_areAlike_32 ?_
      refine g_if_eq (tgt := 38) dX3_areAlike_33 (by decide) (fun c33 => ?_) (fun c33 => ?_)
      · refine g_iinc dX3_areAlike_38 rfl (by decide) (by first | exact gi_1 _ | exact gi_p _) ?_
        refine g_goto (tgt := 3) dX3_areAlike_41 (by decide) ?_
        exact ih (i + 1) (by omega)
      · refine g_iconst (v := 0) dX3_areAlike_36 (by decide) ?_
        refine g_zret dX3_areAlike_37 rfl (by first | rfl | assumption) ⟨_, _, rfl, rfl, ?_⟩
        exact ⟨⟨_, rfl, fun h => absurd (cmp_eq (by rw [hea h, heb h])) c33⟩, rfl⟩
set_option maxRecDepth 100000 in
set_option maxHeartbeats 4000000 in
theorem c_areAlike (S : gS) (x g : Int32) : gCt MX3_areAlike (1, 40) 0 0 [.ref 24, .ref 4, .int x, .int g] (wOf τ S) (gN (wOf τ) fun v S' => (∃ r : Int32, v = .int r ∧ ((∀ j, j < 64 → S.2.2 5 j = 0) → ¬ r = 0)) ∧ S = S') := by
  refine gCt.of (ls := [some (.ref 24), some (.ref 4), some (.int x), some (.int g), none]) 1 (by decide) rfl (Nat.le_of_ble_eq_true rfl) ?_
  refine g_iconst (v := 0) dX3_areAlike_0 (by decide) ?_
  refine g_istore dX3_areAlike_1 (by decide) ?_
  exact l_areAlike S x g 8 0 rfl
set_option maxRecDepth 100000 in
set_option maxHeartbeats 4000000 in
theorem l_alikeBefore (S : gS) (g : Int32) : ∀ (m i : Nat), i + m = 2 ^ 31 - 1 → ((∀ j, j < 64 → S.2.2 5 j = 0) → i = 0) → G MX3_alikeBefore (2, 64) 2 [some (.ref 24), some (.ref 4), some (.int g), some (.int (nI i))] [] (wOf τ S) 0 0 (gN (wOf τ) fun v S' => (∃ r : Int32, v = .int r ∧ (g ≤ 0 → r = -1) ∧ (¬ g ≤ 0 → (∀ j, j < 64 → S.2.2 5 j = 0) → r = S.2.1 25 0)) ∧ S = S') := by
  intro m
  induction m with
  | zero =>
    intro i hi h0
    have hle : g ≤ nI i := by
      refine Classical.byContradiction fun z => ?_
      obtain ⟨j, hj, -, hij⟩ := nI_lt_of (by omega) z
      omega
    refine g_iload_n dX3_alikeBefore_2 rfl rfl ?_
    refine g_iload_n dX3_alikeBefore_3 rfl rfl ?_
    refine g_icmp_ge (tgt := 29) dX3_alikeBefore_4 (by decide) (fun c4 => ?_) (fun c4 => ?_)
    · refine g_iconst (v := (-1)) dX3_alikeBefore_29 (by decide) ?_
      refine g_iret dX3_alikeBefore_30 rfl ⟨_, _, rfl, rfl, ?_⟩
      exact ⟨⟨_, rfl, fun _ => rfl, fun _ h => by have := h0 h; omega⟩, rfl⟩
    · exact absurd hle c4
  | succ m ih =>
    intro i hi h0
    refine g_iload_n dX3_alikeBefore_2 rfl rfl ?_
    refine g_iload_n dX3_alikeBefore_3 rfl rfl ?_
    refine g_icmp_ge (tgt := 29) dX3_alikeBefore_4 (by decide) (fun c4 => ?_) (fun c4 => ?_)
    · refine g_iconst (v := (-1)) dX3_alikeBefore_29 (by decide) ?_
      refine g_iret dX3_alikeBefore_30 rfl ⟨_, _, rfl, rfl, ?_⟩
      exact ⟨⟨_, rfl, fun _ => rfl, fun h1 h => absurd (by rw [h0 h] at c4; exact c4) h1⟩, rfl⟩
    · refine g_aload_n dX3_alikeBefore_7 rfl rfl ?_
      refine g_aload_n dX3_alikeBefore_8 rfl rfl ?_
      refine g_iload_n dX3_alikeBefore_9 rfl rfl ?_
      refine g_iload_n dX3_alikeBefore_10 rfl rfl ?_
      refine cV3N (fun _ _ => rfl) dX3_alikeBefore_11 mlX3_52 imX3_areAlike seX3_areAlike rfl rfl (c_areAlike _ _ _) (by decide) (Nat.le_of_ble_eq_true rfl) (Nat.le_of_ble_eq_true rfl) (Nat.le_of_ble_eq_true rfl) ?_
      rintro _ _ ⟨⟨ra, rfl, hra⟩, rfl⟩
      refine g_if_eq (tgt := 23) dX3_alikeBefore_14 (by decide) (fun c14 => ?_) (fun c14 => ?_)
      · refine g_iinc dX3_alikeBefore_23 rfl (by decide) (by first | exact gi_1 _ | exact gi_p _) ?_
        refine g_goto (tgt := 2) dX3_alikeBefore_26 (by decide) ?_
        exact ih (i + 1) (by omega) (fun h => absurd c14 (hra h))
      · refine g_aload_n dX3_alikeBefore_17 rfl rfl ?_
        refine g_iload_n dX3_alikeBefore_18 rfl rfl ?_
        refine cV1N (fun _ _ => rfl) dX3_alikeBefore_19 mlX3_56 imX3_numberOf seX3_numberOf rfl rfl (c_numberOf _ _) (by decide) (Nat.le_of_ble_eq_true rfl) (Nat.le_of_ble_eq_true rfl) (Nat.le_of_ble_eq_true rfl) ?_
        rintro _ _ ⟨⟨rno, rfl, hno⟩, rfl⟩
        refine g_iret dX3_alikeBefore_22 rfl ⟨_, _, rfl, rfl, ?_⟩
        refine ⟨⟨_, rfl, fun h => absurd (Int32.le_trans h (nI_pos' (by omega))) c4, fun _ h => ?_⟩, rfl⟩
        exact hno (by rw [h0 h])
set_option maxRecDepth 100000 in
set_option maxHeartbeats 4000000 in
theorem c_alikeBefore (S : gS) (g : Int32) : gCt MX3_alikeBefore (2, 64) 0 0 [.ref 24, .ref 4, .int g] (wOf τ S) (gN (wOf τ) fun v S' => (∃ r : Int32, v = .int r ∧ (g ≤ 0 → r = -1) ∧ (¬ g ≤ 0 → (∀ j, j < 64 → S.2.2 5 j = 0) → r = S.2.1 25 0)) ∧ S = S') := by
  refine gCt.of (ls := [some (.ref 24), some (.ref 4), some (.int g), none]) 1 (by decide) rfl (Nat.le_of_ble_eq_true rfl) ?_
  refine g_iconst (v := 0) dX3_alikeBefore_0 (by decide) ?_
  refine g_istore_n dX3_alikeBefore_1 rfl (by decide) ?_
  exact l_alikeBefore S g (2 ^ 31 - 1) 0 (by omega) (fun _ => rfl)
set_option maxRecDepth 100000 in
set_option maxHeartbeats 4000000 in
theorem l_takeLeast (S : gS) (x : Int32) : ∀ (m i : Nat), i + m = 323 → (S.2.1 27 0 = 0 → i = 0) → G MX3_takeLeast (0, 0) 2 [some (.ref 24), some (.int x), some (.int (nI i))] [] (wOf τ S) 0 0 (gN (wOf τ) fun v S' => (∃ r : Int32, v = .int r ∧ (¬ x ≤ 0 → S.2.1 27 0 = 0 → r = 0)) ∧ ∃ f : Nat → Int32, S' = mA S 27 f) := by
  intro m
  induction m with
  | zero =>
    intro i hi h0
    obtain rfl : i = 323 := by omega
    refine g_iload_n dX3_takeLeast_2 rfl rfl ?_
    refine g_aload_n dX3_takeLeast_3 rfl rfl ?_
    refine g_get dX3_takeLeast_4 flX3_19 rfl rfl ?_
    refine g_alen dX3_takeLeast_7 rfl (fun _ => rfl) ?_
    refine g_icmp_ge (tgt := 40) dX3_takeLeast_8 (by decide) (fun c8 => ?_) (fun c8 => ?_)
    · refine g_iconst (v := (-1)) dX3_takeLeast_40 (by decide) ?_
      refine g_iret dX3_takeLeast_41 rfl ⟨_, _, rfl, rfl, ?_⟩
      exact ⟨⟨_, rfl, fun _ h => by have := h0 h; omega⟩, S.2.1 27, (mA_self S 27).symm⟩
    · exact absurd (nI_le (a := 323) (b := 323) (Nat.le_refl _) (by decide)) c8
  | succ m ih =>
    intro i hi h0
    refine g_iload_n dX3_takeLeast_2 rfl rfl ?_
    refine g_aload_n dX3_takeLeast_3 rfl rfl ?_
    refine g_get dX3_takeLeast_4 flX3_19 rfl rfl ?_
    refine g_alen dX3_takeLeast_7 rfl (fun _ => rfl) ?_
    refine g_icmp_ge (tgt := 40) dX3_takeLeast_8 (by decide) (fun c8 => ?_) (fun c8 => ?_)
    · refine g_iconst (v := (-1)) dX3_takeLeast_40 (by decide) ?_
      refine g_iret dX3_takeLeast_41 rfl ⟨_, _, rfl, rfl, ?_⟩
      first | exact absurd c8 (nI_ge (b := 323) (by omega) (by decide)) | exact ⟨⟨_, rfl, fun h1 h => absurd (by rw [h0 h] at c13; exact c13) h1⟩, S.2.1 27, (mA_self S 27).symm⟩
    · refine g_iload_n dX3_takeLeast_11 rfl rfl ?_
      refine g_iload_n dX3_takeLeast_12 rfl rfl ?_
      refine g_icmp_ge (tgt := 40) dX3_takeLeast_13 (by decide) (fun c13 => ?_) (fun c13 => ?_)
      · refine g_iconst (v := (-1)) dX3_takeLeast_40 (by decide) ?_
        refine g_iret dX3_takeLeast_41 rfl ⟨_, _, rfl, rfl, ?_⟩
        first | exact absurd c8 (nI_ge (b := 323) (by omega) (by decide)) | exact ⟨⟨_, rfl, fun h1 h => absurd (by rw [h0 h] at c13; exact c13) h1⟩, S.2.1 27, (mA_self S 27).symm⟩
      · refine g_aload_n dX3_takeLeast_16 rfl rfl ?_
        refine g_get dX3_takeLeast_17 flX3_19 rfl rfl ?_
        refine g_iload_n dX3_takeLeast_20 rfl rfl ?_
        refine g_zald dX3_takeLeast_21 rfl (vp_in_nI (by omega) (by decide)) ?_
        refine g_if_ne (tgt := 34) dX3_takeLeast_22 (by decide) (fun c22 => ?_) (fun c22 => ?_)
        · refine g_iinc dX3_takeLeast_34 rfl (by decide) (by first | exact gi_1 _ | exact gi_p _) ?_
          refine g_goto (tgt := 2) dX3_takeLeast_37 (by decide) ?_
          exact ih (i + 1) (by omega) (fun h => absurd (by rw [nI_clamp (by omega), h0 h]; exact h) c22)
        · refine g_aload_n dX3_takeLeast_25 rfl rfl ?_
          refine g_get dX3_takeLeast_26 flX3_19 rfl rfl ?_
          refine g_iload_n dX3_takeLeast_29 rfl rfl ?_
          refine g_iconst (v := 1) dX3_takeLeast_30 (by decide) ?_
          refine p_zast dX3_takeLeast_31 rfl (vp_in_nI (by omega) (by decide)) (by with_reducible first | exact wA_27 _ _ _) ?_
          refine g_iload_n dX3_takeLeast_32 rfl rfl ?_
          refine g_iret dX3_takeLeast_33 rfl ⟨_, _, rfl, rfl, ?_⟩
          exact ⟨⟨_, rfl, fun _ h => by rw [h0 h]; rfl⟩, _, rfl⟩
set_option maxRecDepth 100000 in
set_option maxHeartbeats 4000000 in
theorem c_takeLeast (S : gS) (x : Int32) : gCt MX3_takeLeast (0, 0) 0 0 [.ref 24, .int x] (wOf τ S) (gN (wOf τ) fun v S' => (∃ r : Int32, v = .int r ∧ (¬ x ≤ 0 → S.2.1 27 0 = 0 → r = 0)) ∧ ∃ f : Nat → Int32, S' = mA S 27 f) := by
  refine gCt.of (ls := [some (.ref 24), some (.int x), none]) 1 (by decide) rfl (Nat.le_of_ble_eq_true rfl) ?_
  refine g_iconst (v := 0) dX3_takeLeast_0 (by decide) ?_
  refine g_istore_n dX3_takeLeast_1 rfl (by decide) ?_
  exact l_takeLeast S x 323 0 rfl (fun _ => rfl)
end
