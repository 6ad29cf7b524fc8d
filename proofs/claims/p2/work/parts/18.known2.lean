section
variable {τ : gW}
set_option maxRecDepth 100000 in
set_option maxHeartbeats 4000000 in
theorem c_isChange4 (S : gS) (x y z : Int32) : gCt MX2_isChange (1, 40) 0 0 [.ref 4, .int x, .int y, .int z] (wOf τ S) (gN (wOf τ) fun v S' => (∃ r : Int32, v = .int r ∧ (r = 0 ∨ r = 1)) ∧ S = S') := by
  refine gCt.of (ls := [some (.ref 4), some (.int x), some (.int y), some (.int z)]) 0 (by decide) rfl (Nat.le_of_ble_eq_true rfl) ?_
  refine g_iload_n dX2_isChange_0 rfl rfl ?_
  refine g_bipush (v := 64) dX2_isChange_1 (by decide) ?_
  refine g_icmp_ge (tgt := 36) dX2_isChange_3 (by decide) (fun c3 => ?_) (fun c3 => ?_)
  · refine g_iconst (v := 0) dX2_isChange_36 (by decide) ?_
    refine g_zret dX2_isChange_37 rfl (by first | rfl | assumption) ⟨_, _, rfl, rfl, ?_⟩
    first | exact ⟨⟨_, rfl, Or.inl rfl⟩, rfl⟩ | exact ⟨⟨_, rfl, Or.inr rfl⟩, rfl⟩ | exact ⟨⟨_, rfl, ht01⟩, rfl⟩
  · refine g_iload_n dX2_isChange_6 rfl rfl ?_
    refine g_bipush (v := 64) dX2_isChange_7 (by decide) ?_
    refine g_icmp_ge (tgt := 36) dX2_isChange_9 (by decide) (fun c9 => ?_) (fun c9 => ?_)
    · refine g_iconst (v := 0) dX2_isChange_36 (by decide) ?_
      refine g_zret dX2_isChange_37 rfl (by first | rfl | assumption) ⟨_, _, rfl, rfl, ?_⟩
      first | exact ⟨⟨_, rfl, Or.inl rfl⟩, rfl⟩ | exact ⟨⟨_, rfl, Or.inr rfl⟩, rfl⟩ | exact ⟨⟨_, rfl, ht01⟩, rfl⟩
    · refine g_iload_n dX2_isChange_12 rfl rfl ?_
      refine g_iconst (v := 1) dX2_isChange_13 (by decide) ?_
      refine g_icmp_gt (tgt := 36) dX2_isChange_14 (by decide) (fun c14 => ?_) (fun c14 => ?_)
      · refine g_iconst (v := 0) dX2_isChange_36 (by decide) ?_
        refine g_zret dX2_isChange_37 rfl (by first | rfl | assumption) ⟨_, _, rfl, rfl, ?_⟩
        first | exact ⟨⟨_, rfl, Or.inl rfl⟩, rfl⟩ | exact ⟨⟨_, rfl, Or.inr rfl⟩, rfl⟩ | exact ⟨⟨_, rfl, ht01⟩, rfl⟩
      · refine g_aload_n dX2_isChange_17 rfl rfl ?_
        refine g_iload_n dX2_isChange_18 rfl rfl ?_
        refine cV1N (fun _ _ => rfl) dX2_isChange_19 mlX2_68 imX2_edgesOfNow seX2_edgesOfNow rfl rfl (c_edgesOfNow4 _ _) (by decide) (Nat.le_of_ble_eq_true rfl) (Nat.le_of_ble_eq_true rfl) (Nat.le_of_ble_eq_true rfl) ?_
        rintro _ _ ⟨⟨en, rfl, hen⟩, rfl⟩
        refine g_iload_n dX2_isChange_22 rfl rfl ?_
        refine g_lushr dX2_isChange_23 ?_
        refine g_lconst (v := 1) dX2_isChange_24 (by decide) ?_
        refine g_land dX2_isChange_25 ?_
        refine g_iload_n dX2_isChange_26 rfl rfl ?_
        refine g_i2l dX2_isChange_27 ?_
        refine g_lcmp dX2_isChange_28 ?_
        refine g_if_eq (tgt := 36) dX2_isChange_29 (by decide) (fun c29 => ?_) (fun c29 => ?_)
        · refine g_iconst (v := 0) dX2_isChange_36 (by decide) ?_
          refine g_zret dX2_isChange_37 rfl (by first | rfl | assumption) ⟨_, _, rfl, rfl, ?_⟩
          first | exact ⟨⟨_, rfl, Or.inl rfl⟩, rfl⟩ | exact ⟨⟨_, rfl, Or.inr rfl⟩, rfl⟩ | exact ⟨⟨_, rfl, ht01⟩, rfl⟩
        · refine g_iconst (v := 1) dX2_isChange_32 (by decide) ?_
          refine g_goto (tgt := 37) dX2_isChange_33 (by decide) ?_
          refine g_zret dX2_isChange_37 rfl (by first | rfl | assumption) ⟨_, _, rfl, rfl, ?_⟩
          first | exact ⟨⟨_, rfl, Or.inl rfl⟩, rfl⟩ | exact ⟨⟨_, rfl, Or.inr rfl⟩, rfl⟩ | exact ⟨⟨_, rfl, ht01⟩, rfl⟩
set_option maxRecDepth 100000 in
set_option maxHeartbeats 4000000 in
theorem l_haveCome4 (S : gS) (t : Int32) : ∀ (m i : Nat), i + m = 8 → G MX2_haveCome (2, 66) 2 [some (.ref 4), some (.ref 1), some (.int t), some (.int (nI i))] [] (wOf τ S) 0 0 (gN (wOf τ) fun v S' => (∃ r : Int32, v = .int r ∧ (r = 0 ∨ r = 1)) ∧ S = S') := by
  intro m
  induction m with
  | zero =>
    intro i hi
    obtain rfl : i = 8 := by omega
    refine g_iload_n dX2_haveCome_2 rfl rfl ?_
    refine g_bipush (v := 8) dX2_haveCome_3 (by decide) ?_
    refine g_icmp_ge (tgt := 38) dX2_haveCome_5 (by decide) (fun c5 => ?_) (fun c5 => ?_)
    · refine g_iconst (v := 1) dX2_haveCome_38 (by decide) ?_
      refine g_zret dX2_haveCome_39 rfl (by first | rfl | assumption) ⟨_, _, rfl, rfl, ?_⟩
      first | exact ⟨⟨_, rfl, Or.inl rfl⟩, rfl⟩ | exact ⟨⟨_, rfl, Or.inr rfl⟩, rfl⟩ | exact ⟨⟨_, rfl, ht01⟩, rfl⟩
    · exact absurd (show (8 : Int32) ≤ nI 8 by decide) c5
  | succ m ih =>
    intro i hi
    refine g_iload_n dX2_haveCome_2 rfl rfl ?_
    refine g_bipush (v := 8) dX2_haveCome_3 (by decide) ?_
    refine g_icmp_ge (tgt := 38) dX2_haveCome_5 (by decide) (fun c5 => ?_) (fun c5 => ?_)
    · refine g_iconst (v := 1) dX2_haveCome_38 (by decide) ?_
      refine g_zret dX2_haveCome_39 rfl (by first | rfl | assumption) ⟨_, _, rfl, rfl, ?_⟩
      first | exact ⟨⟨_, rfl, Or.inl rfl⟩, rfl⟩ | exact ⟨⟨_, rfl, Or.inr rfl⟩, rfl⟩ | exact ⟨⟨_, rfl, ht01⟩, rfl⟩
    · refine g_aload_n dX2_haveCome_8 rfl rfl ?_
      refine g_get dX2_haveCome_9 flX2_18 rfl rfl ?_
      refine g_aload_n dX2_haveCome_12 rfl rfl ?_
      refine g_iload_n dX2_haveCome_13 rfl rfl ?_
      refine g_iconst (v := 2) dX2_haveCome_14 (by decide) ?_
      refine g_iload_n dX2_haveCome_15 rfl rfl ?_
      refine g_imul dX2_haveCome_16 ?_
      refine g_iadd dX2_haveCome_17 ?_
      refine g_iconst (v := 2) dX2_haveCome_18 (by decide) ?_
      refine cV2N (fun _ _ => rfl) dX2_haveCome_19 mlX2_113 imX1_number seX1_number rfl rfl (c_number _ _ 2 (by decide)) (by decide) (Nat.le_of_ble_eq_true rfl) (Nat.le_of_ble_eq_true rfl) (Nat.le_of_ble_eq_true rfl) ?_
      rintro _ _ ⟨rfl, rfl⟩
      refine g_l2i dX2_haveCome_22 ?_
      refine cV1N (fun _ _ => rfl) dX2_haveCome_23 mlX2_120 imX0_find seX0_find rfl rfl (c_find6 _ _) (by decide) (Nat.le_of_ble_eq_true rfl) (Nat.le_of_ble_eq_true rfl) (Nat.le_of_ble_eq_true rfl) ?_
      rintro _ _ ⟨⟨rf, rfl, -⟩, rfl⟩
      refine g_iconst (v := (-1)) dX2_haveCome_26 (by decide) ?_
      refine g_icmp_ne (tgt := 32) dX2_haveCome_27 (by decide) (fun c27 => ?_) (fun c27 => ?_)
      · refine g_iinc dX2_haveCome_32 rfl (by decide) (by first | exact gi_1 _ | exact gi_p _) ?_
        refine g_goto (tgt := 2) dX2_haveCome_35 (by decide) ?_
        exact ih (i + 1) (by omega)
      · refine g_iconst (v := 0) dX2_haveCome_30 (by decide) ?_
        refine g_zret dX2_haveCome_31 rfl (by first | rfl | assumption) ⟨_, _, rfl, rfl, ?_⟩
        first | exact ⟨⟨_, rfl, Or.inl rfl⟩, rfl⟩ | exact ⟨⟨_, rfl, Or.inr rfl⟩, rfl⟩ | exact ⟨⟨_, rfl, ht01⟩, rfl⟩
set_option maxRecDepth 100000 in
set_option maxHeartbeats 4000000 in
theorem c_haveCome4 (S : gS) (t : Int32) : gCt MX2_haveCome (2, 66) 0 0 [.ref 4, .ref 1, .int t] (wOf τ S) (gN (wOf τ) fun v S' => (∃ r : Int32, v = .int r ∧ (r = 0 ∨ r = 1)) ∧ S = S') := by
  refine gCt.of (ls := [some (.ref 4), some (.ref 1), some (.int t), none]) 1 (by decide) rfl (Nat.le_of_ble_eq_true rfl) ?_
  refine g_iconst (v := 0) dX2_haveCome_0 (by decide) ?_
  refine g_istore_n dX2_haveCome_1 rfl (by decide) ?_
  exact l_haveCome4 S t 8 0 rfl
set_option maxRecDepth 100000 in
set_option maxHeartbeats 4000000 in
theorem c_isTextRight4 (S : gS) (x : Int32) : gCt MX2_isTextRight (3, 90) 0 0 [.ref 4, .ref 1, .int x] (wOf τ S) (gN (wOf τ) fun v S' => (∃ r : Int32, v = .int r ∧ (r = 0 ∨ r = 1)) ∧ S = S') := by
  refine gCt.of (ls := [some (.ref 4), some (.ref 1), some (.int x), none, none]) 2 (by decide) rfl (Nat.le_of_ble_eq_true rfl) ?_
  refine g_aload_n dX2_isTextRight_0 rfl rfl ?_
  refine g_iload_n dX2_isTextRight_1 rfl rfl ?_
  refine g_iconst (v := 1) dX2_isTextRight_2 (by decide) ?_
  refine g_iadd dX2_isTextRight_3 ?_
  refine g_iconst (v := 2) dX2_isTextRight_4 (by decide) ?_
  refine cV2N (fun _ _ => rfl) dX2_isTextRight_5 mlX2_113 imX1_number seX1_number rfl rfl (c_number _ _ 2 (by decide)) (by decide) (Nat.le_of_ble_eq_true rfl) (Nat.le_of_ble_eq_true rfl) (Nat.le_of_ble_eq_true rfl) ?_
  rintro _ _ ⟨rfl, rfl⟩
  refine g_l2i dX2_isTextRight_8 ?_
  refine g_istore_n dX2_isTextRight_9 rfl (by decide) ?_
  refine g_iload_n dX2_isTextRight_10 rfl rfl ?_
  refine g_iconst (v := 4) dX2_isTextRight_11 (by decide) ?_
  refine g_iadd dX2_isTextRight_12 ?_
  refine g_istore dX2_isTextRight_13 (by decide) ?_
  refine g_aload_n dX2_isTextRight_15 rfl rfl ?_
  refine g_iload_n dX2_isTextRight_16 rfl rfl ?_
  refine cV1N (fun _ _ => rfl) dX2_isTextRight_17 mlX2_100 imX1_get seX1_get rfl rfl (c_get _ _) (by decide) (Nat.le_of_ble_eq_true rfl) (Nat.le_of_ble_eq_true rfl) (Nat.le_of_ble_eq_true rfl) ?_
  rintro _ _ ⟨rfl, rfl⟩
  refine g_tsw (ts := [56, 88, 131, 161, 207, 213]) dX2_isTextRight_20 (by decide) (fun t ht => ?_)
  simp only [List.mem_cons, List.not_mem_nil, or_false] at ht
  rcases ht with rfl | rfl | rfl | rfl | rfl | rfl
  · refine g_iload_n dX2_isTextRight_56 rfl rfl ?_
    refine g_aload_n dX2_isTextRight_57 rfl rfl ?_
    refine g_get dX2_isTextRight_58 flX2_36 rfl rfl ?_
    refine g_icmp_ge (tgt := 86) dX2_isTextRight_61 (by decide) (fun c61 => ?_) (fun c61 => ?_)
    · refine g_iconst (v := 0) dX2_isTextRight_86 (by decide) ?_
      refine g_zret dX2_isTextRight_87 rfl (by first | rfl | assumption) ⟨_, _, rfl, rfl, ?_⟩
      first | exact ⟨⟨_, rfl, Or.inl rfl⟩, rfl⟩ | exact ⟨⟨_, rfl, Or.inr rfl⟩, rfl⟩ | exact ⟨⟨_, rfl, ht01⟩, rfl⟩
    · refine g_aload_n dX2_isTextRight_64 rfl rfl ?_
      refine g_get dX2_isTextRight_65 flX2_18 rfl rfl ?_
      refine g_aload_n dX2_isTextRight_68 rfl rfl ?_
      refine g_get dX2_isTextRight_69 flX2_18 rfl rfl ?_
      refine g_iload_n dX2_isTextRight_72 rfl rfl ?_
      refine cV1N (fun _ _ => rfl) dX2_isTextRight_73 mlX2_120 imX0_find seX0_find rfl rfl (c_find6 _ _) (by decide) (Nat.le_of_ble_eq_true rfl) (Nat.le_of_ble_eq_true rfl) (Nat.le_of_ble_eq_true rfl) ?_
      rintro _ _ ⟨⟨rf, rfl, -⟩, rfl⟩
      refine cV1N (fun _ _ => rfl) dX2_isTextRight_76 mlX2_123 imX0_namesOf seX0_namesOf rfl rfl (c_namesOf6 _ _) (by decide) (Nat.le_of_ble_eq_true rfl) (Nat.le_of_ble_eq_true rfl) (Nat.le_of_ble_eq_true rfl) ?_
      rintro _ _ ⟨⟨rn, rfl, -⟩, rfl⟩
      refine g_if_ne (tgt := 86) dX2_isTextRight_79 (by decide) (fun c79 => ?_) (fun c79 => ?_)
      · refine g_iconst (v := 0) dX2_isTextRight_86 (by decide) ?_
        refine g_zret dX2_isTextRight_87 rfl (by first | rfl | assumption) ⟨_, _, rfl, rfl, ?_⟩
        first | exact ⟨⟨_, rfl, Or.inl rfl⟩, rfl⟩ | exact ⟨⟨_, rfl, Or.inr rfl⟩, rfl⟩ | exact ⟨⟨_, rfl, ht01⟩, rfl⟩
      · refine g_iconst (v := 1) dX2_isTextRight_82 (by decide) ?_
        refine g_goto (tgt := 87) dX2_isTextRight_83 (by decide) ?_
        refine g_zret dX2_isTextRight_87 rfl (by first | rfl | assumption) ⟨_, _, rfl, rfl, ?_⟩
        first | exact ⟨⟨_, rfl, Or.inl rfl⟩, rfl⟩ | exact ⟨⟨_, rfl, Or.inr rfl⟩, rfl⟩ | exact ⟨⟨_, rfl, ht01⟩, rfl⟩
  · refine g_iload_n dX2_isTextRight_88 rfl rfl ?_
    refine g_aload_n dX2_isTextRight_89 rfl rfl ?_
    refine g_get dX2_isTextRight_90 flX2_49 rfl rfl ?_
    refine g_icmp_ne (tgt := 129) dX2_isTextRight_93 (by decide) (fun c93 => ?_) (fun c93 => ?_)
    · refine g_iconst (v := 0) dX2_isTextRight_129 (by decide) ?_
      refine g_zret dX2_isTextRight_130 rfl (by first | rfl | assumption) ⟨_, _, rfl, rfl, ?_⟩
      first | exact ⟨⟨_, rfl, Or.inl rfl⟩, rfl⟩ | exact ⟨⟨_, rfl, Or.inr rfl⟩, rfl⟩ | exact ⟨⟨_, rfl, ht01⟩, rfl⟩
    · refine g_aload_n dX2_isTextRight_96 rfl rfl ?_
      refine g_aload_n dX2_isTextRight_97 rfl rfl ?_
      refine g_iload dX2_isTextRight_98 rfl ?_
      refine cV1N (fun _ _ => rfl) dX2_isTextRight_100 mlX2_100 imX1_get seX1_get rfl rfl (c_get _ _) (by decide) (Nat.le_of_ble_eq_true rfl) (Nat.le_of_ble_eq_true rfl) (Nat.le_of_ble_eq_true rfl) ?_
      rintro _ _ ⟨rfl, rfl⟩
      refine g_aload_n dX2_isTextRight_103 rfl rfl ?_
      refine g_iload dX2_isTextRight_104 rfl ?_
      refine g_iconst (v := 1) dX2_isTextRight_106 (by decide) ?_
      refine g_iadd dX2_isTextRight_107 ?_
      refine cV1N (fun _ _ => rfl) dX2_isTextRight_108 mlX2_100 imX1_get seX1_get rfl rfl (c_get _ _) (by decide) (Nat.le_of_ble_eq_true rfl) (Nat.le_of_ble_eq_true rfl) (Nat.le_of_ble_eq_true rfl) ?_
      rintro _ _ ⟨rfl, rfl⟩
      refine g_aload_n dX2_isTextRight_111 rfl rfl ?_
      refine g_iload dX2_isTextRight_112 rfl ?_
      refine g_iconst (v := 2) dX2_isTextRight_114 (by decide) ?_
      refine g_iadd dX2_isTextRight_115 ?_
      refine cV1N (fun _ _ => rfl) dX2_isTextRight_116 mlX2_100 imX1_get seX1_get rfl rfl (c_get _ _) (by decide) (Nat.le_of_ble_eq_true rfl) (Nat.le_of_ble_eq_true rfl) (Nat.le_of_ble_eq_true rfl) ?_
      rintro _ _ ⟨rfl, rfl⟩
      refine cV3N (fun _ _ => rfl) dX2_isTextRight_119 mlX2_126 imX2_isChange seX2_isChange rfl rfl (c_isChange4 _ _ _ _) (by decide) (Nat.le_of_ble_eq_true rfl) (Nat.le_of_ble_eq_true rfl) (Nat.le_of_ble_eq_true rfl) ?_
      rintro _ _ ⟨⟨rc, rfl, -⟩, rfl⟩
      refine g_if_eq (tgt := 129) dX2_isTextRight_122 (by decide) (fun c122 => ?_) (fun c122 => ?_)
      · refine g_iconst (v := 0) dX2_isTextRight_129 (by decide) ?_
        refine g_zret dX2_isTextRight_130 rfl (by first | rfl | assumption) ⟨_, _, rfl, rfl, ?_⟩
        first | exact ⟨⟨_, rfl, Or.inl rfl⟩, rfl⟩ | exact ⟨⟨_, rfl, Or.inr rfl⟩, rfl⟩ | exact ⟨⟨_, rfl, ht01⟩, rfl⟩
      · refine g_iconst (v := 1) dX2_isTextRight_125 (by decide) ?_
        refine g_goto (tgt := 130) dX2_isTextRight_126 (by decide) ?_
        refine g_zret dX2_isTextRight_130 rfl (by first | rfl | assumption) ⟨_, _, rfl, rfl, ?_⟩
        first | exact ⟨⟨_, rfl, Or.inl rfl⟩, rfl⟩ | exact ⟨⟨_, rfl, Or.inr rfl⟩, rfl⟩ | exact ⟨⟨_, rfl, ht01⟩, rfl⟩
  · refine g_iload_n dX2_isTextRight_131 rfl rfl ?_
    refine g_aload_n dX2_isTextRight_132 rfl rfl ?_
    refine g_get dX2_isTextRight_133 flX2_52 rfl rfl ?_
    refine g_icmp_ne (tgt := 159) dX2_isTextRight_136 (by decide) (fun c136 => ?_) (fun c136 => ?_)
    · refine g_iconst (v := 0) dX2_isTextRight_159 (by decide) ?_
      refine g_zret dX2_isTextRight_160 rfl (by first | rfl | assumption) ⟨_, _, rfl, rfl, ?_⟩
      first | exact ⟨⟨_, rfl, Or.inl rfl⟩, rfl⟩ | exact ⟨⟨_, rfl, Or.inr rfl⟩, rfl⟩ | exact ⟨⟨_, rfl, ht01⟩, rfl⟩
    · refine g_iload_n dX2_isTextRight_139 rfl rfl ?_
      refine g_bipush (v := 100) dX2_isTextRight_140 (by decide) ?_
      refine g_icmp_ge (tgt := 159) dX2_isTextRight_142 (by decide) (fun c142 => ?_) (fun c142 => ?_)
      · refine g_iconst (v := 0) dX2_isTextRight_159 (by decide) ?_
        refine g_zret dX2_isTextRight_160 rfl (by first | rfl | assumption) ⟨_, _, rfl, rfl, ?_⟩
        first | exact ⟨⟨_, rfl, Or.inl rfl⟩, rfl⟩ | exact ⟨⟨_, rfl, Or.inr rfl⟩, rfl⟩ | exact ⟨⟨_, rfl, ht01⟩, rfl⟩
      · refine g_aload_n dX2_isTextRight_145 rfl rfl ?_
        refine g_aload_n dX2_isTextRight_146 rfl rfl ?_
        refine g_iload dX2_isTextRight_147 rfl ?_
        refine cV2N (fun _ _ => rfl) dX2_isTextRight_149 mlX2_130 imX2_haveCome seX2_haveCome rfl rfl (c_haveCome4 _ _) (by decide) (Nat.le_of_ble_eq_true rfl) (Nat.le_of_ble_eq_true rfl) (Nat.le_of_ble_eq_true rfl) ?_
        rintro _ _ ⟨⟨rh, rfl, -⟩, rfl⟩
        refine g_if_eq (tgt := 159) dX2_isTextRight_152 (by decide) (fun c152 => ?_) (fun c152 => ?_)
        · refine g_iconst (v := 0) dX2_isTextRight_159 (by decide) ?_
          refine g_zret dX2_isTextRight_160 rfl (by first | rfl | assumption) ⟨_, _, rfl, rfl, ?_⟩
          first | exact ⟨⟨_, rfl, Or.inl rfl⟩, rfl⟩ | exact ⟨⟨_, rfl, Or.inr rfl⟩, rfl⟩ | exact ⟨⟨_, rfl, ht01⟩, rfl⟩
        · refine g_iconst (v := 1) dX2_isTextRight_155 (by decide) ?_
          refine g_goto (tgt := 160) dX2_isTextRight_156 (by decide) ?_
          refine g_zret dX2_isTextRight_160 rfl (by first | rfl | assumption) ⟨_, _, rfl, rfl, ?_⟩
          first | exact ⟨⟨_, rfl, Or.inl rfl⟩, rfl⟩ | exact ⟨⟨_, rfl, Or.inr rfl⟩, rfl⟩ | exact ⟨⟨_, rfl, ht01⟩, rfl⟩
  · refine g_iload_n dX2_isTextRight_161 rfl rfl ?_
    refine g_aload_n dX2_isTextRight_162 rfl rfl ?_
    refine g_get dX2_isTextRight_163 flX2_55 rfl rfl ?_
    refine g_icmp_ne (tgt := 205) dX2_isTextRight_166 (by decide) (fun c166 => ?_) (fun c166 => ?_)
    · refine g_iconst (v := 0) dX2_isTextRight_205 (by decide) ?_
      refine g_zret dX2_isTextRight_206 rfl (by first | rfl | assumption) ⟨_, _, rfl, rfl, ?_⟩
      first | exact ⟨⟨_, rfl, Or.inl rfl⟩, rfl⟩ | exact ⟨⟨_, rfl, Or.inr rfl⟩, rfl⟩ | exact ⟨⟨_, rfl, ht01⟩, rfl⟩
    · refine g_iload_n dX2_isTextRight_169 rfl rfl ?_
      refine g_bipush (v := 100) dX2_isTextRight_170 (by decide) ?_
      refine g_icmp_ge (tgt := 205) dX2_isTextRight_172 (by decide) (fun c172 => ?_) (fun c172 => ?_)
      · refine g_iconst (v := 0) dX2_isTextRight_205 (by decide) ?_
        refine g_zret dX2_isTextRight_206 rfl (by first | rfl | assumption) ⟨_, _, rfl, rfl, ?_⟩
        first | exact ⟨⟨_, rfl, Or.inl rfl⟩, rfl⟩ | exact ⟨⟨_, rfl, Or.inr rfl⟩, rfl⟩ | exact ⟨⟨_, rfl, ht01⟩, rfl⟩
      · refine g_aload_n dX2_isTextRight_175 rfl rfl ?_
        refine g_aload_n dX2_isTextRight_176 rfl rfl ?_
        refine g_iload dX2_isTextRight_177 rfl ?_
        refine cV1N (fun _ _ => rfl) dX2_isTextRight_179 mlX2_100 imX1_get seX1_get rfl rfl (c_get _ _) (by decide) (Nat.le_of_ble_eq_true rfl) (Nat.le_of_ble_eq_true rfl) (Nat.le_of_ble_eq_true rfl) ?_
        rintro _ _ ⟨rfl, rfl⟩
        refine cV1N (fun _ _ => rfl) dX2_isTextRight_182 mlX2_64 imX2_isThere seX2_isThere rfl rfl (c_isThere4 _ _) (by decide) (Nat.le_of_ble_eq_true rfl) (Nat.le_of_ble_eq_true rfl) (Nat.le_of_ble_eq_true rfl) ?_
        rintro _ _ ⟨⟨rt, rfl, ht01, ht⟩, rfl⟩
        refine g_if_eq (tgt := 205) dX2_isTextRight_185 (by decide) (fun c185 => ?_) (fun c185 => ?_)
        · refine g_iconst (v := 0) dX2_isTextRight_205 (by decide) ?_
          refine g_zret dX2_isTextRight_206 rfl (by first | rfl | assumption) ⟨_, _, rfl, rfl, ?_⟩
          first | exact ⟨⟨_, rfl, Or.inl rfl⟩, rfl⟩ | exact ⟨⟨_, rfl, Or.inr rfl⟩, rfl⟩ | exact ⟨⟨_, rfl, ht01⟩, rfl⟩
        · refine g_aload_n dX2_isTextRight_188 rfl rfl ?_
          refine g_iload dX2_isTextRight_189 rfl ?_
          refine g_iconst (v := 1) dX2_isTextRight_191 (by decide) ?_
          refine g_iadd dX2_isTextRight_192 ?_
          refine cV1N (fun _ _ => rfl) dX2_isTextRight_193 mlX2_100 imX1_get seX1_get rfl rfl (c_get _ _) (by decide) (Nat.le_of_ble_eq_true rfl) (Nat.le_of_ble_eq_true rfl) (Nat.le_of_ble_eq_true rfl) ?_
          rintro _ _ ⟨rfl, rfl⟩
          refine g_bipush (v := 64) dX2_isTextRight_196 (by decide) ?_
          refine g_icmp_ge (tgt := 205) dX2_isTextRight_198 (by decide) (fun c198 => ?_) (fun c198 => ?_)
          · refine g_iconst (v := 0) dX2_isTextRight_205 (by decide) ?_
            refine g_zret dX2_isTextRight_206 rfl (by first | rfl | assumption) ⟨_, _, rfl, rfl, ?_⟩
            first | exact ⟨⟨_, rfl, Or.inl rfl⟩, rfl⟩ | exact ⟨⟨_, rfl, Or.inr rfl⟩, rfl⟩ | exact ⟨⟨_, rfl, ht01⟩, rfl⟩
          · refine g_iconst (v := 1) dX2_isTextRight_201 (by decide) ?_
            refine g_goto (tgt := 206) dX2_isTextRight_202 (by decide) ?_
            refine g_zret dX2_isTextRight_206 rfl (by first | rfl | assumption) ⟨_, _, rfl, rfl, ?_⟩
            first | exact ⟨⟨_, rfl, Or.inl rfl⟩, rfl⟩ | exact ⟨⟨_, rfl, Or.inr rfl⟩, rfl⟩ | exact ⟨⟨_, rfl, ht01⟩, rfl⟩
  · refine g_aload_n dX2_isTextRight_207 rfl rfl ?_
    refine g_iload_n dX2_isTextRight_208 rfl rfl ?_
    refine cV1N (fun _ _ => rfl) dX2_isTextRight_209 mlX2_64 imX2_isThere seX2_isThere rfl rfl (c_isThere4 _ _) (by decide) (Nat.le_of_ble_eq_true rfl) (Nat.le_of_ble_eq_true rfl) (Nat.le_of_ble_eq_true rfl) ?_
    rintro _ _ ⟨⟨rt, rfl, ht01, ht⟩, rfl⟩
    refine g_zret dX2_isTextRight_212 rfl (by rcases ht01 with rfl | rfl <;> rfl) ⟨_, _, rfl, rfl, ?_⟩
    first | exact ⟨⟨_, rfl, Or.inl rfl⟩, rfl⟩ | exact ⟨⟨_, rfl, Or.inr rfl⟩, rfl⟩ | exact ⟨⟨_, rfl, ht01⟩, rfl⟩
  · refine g_iconst (v := 0) dX2_isTextRight_213 (by decide) ?_
    refine g_zret dX2_isTextRight_214 rfl (by first | rfl | assumption) ⟨_, _, rfl, rfl, ?_⟩
    first | exact ⟨⟨_, rfl, Or.inl rfl⟩, rfl⟩ | exact ⟨⟨_, rfl, Or.inr rfl⟩, rfl⟩ | exact ⟨⟨_, rfl, ht01⟩, rfl⟩
set_option maxRecDepth 100000 in
set_option maxHeartbeats 4000000 in
theorem c_isRowRight4 (S : gS) (x y : Int32) : gCt MX2_isRowRight (4, 120) 0 0 [.ref 4, .ref 1, .int x, .int y] (wOf τ S) (gN (wOf τ) fun v S' => (∃ r : Int32, v = .int r ∧ (r = 0 ∨ r = 1)) ∧ S = S') := by
  refine gCt.of (ls := [some (.ref 4), some (.ref 1), some (.int x), some (.int y), none, none]) 2 (by decide) rfl (Nat.le_of_ble_eq_true rfl) ?_
  refine g_aload_n dX2_isRowRight_0 rfl rfl ?_
  refine g_iload_n dX2_isRowRight_1 rfl rfl ?_
  refine cV1N (fun _ _ => rfl) dX2_isRowRight_2 mlX2_100 imX1_get seX1_get rfl rfl (c_get _ _) (by decide) (Nat.le_of_ble_eq_true rfl) (Nat.le_of_ble_eq_true rfl) (Nat.le_of_ble_eq_true rfl) ?_
  rintro _ _ ⟨rfl, rfl⟩
  refine cS1N (fun _ _ => rfl) dX2_isRowRight_5 mlX2_106 isX4_sizeOf (c_sizeOf _ _) (by decide) (Nat.le_of_ble_eq_true rfl) (Nat.le_of_ble_eq_true rfl) (Nat.le_of_ble_eq_true rfl) ?_
  rintro _ _ ⟨⟨rs, rfl⟩, rfl⟩
  refine g_istore dX2_isRowRight_8 (by decide) ?_
  refine g_iload_n dX2_isRowRight_10 rfl rfl ?_
  refine g_iconst (v := 4) dX2_isRowRight_11 (by decide) ?_
  refine g_iadd dX2_isRowRight_12 ?_
  refine g_iload dX2_isRowRight_13 rfl ?_
  refine g_iadd dX2_isRowRight_15 ?_
  refine g_istore dX2_isRowRight_16 (by decide) ?_
  refine g_iload dX2_isRowRight_18 rfl ?_
  refine g_iconst (v := (-1)) dX2_isRowRight_20 (by decide) ?_
  refine g_icmp_eq (tgt := 45) dX2_isRowRight_21 (by decide) (fun c21 => ?_) (fun c21 => ?_)
  · refine g_iconst (v := 0) dX2_isRowRight_45 (by decide) ?_
    refine g_zret dX2_isRowRight_46 rfl (by first | rfl | assumption) ⟨_, _, rfl, rfl, ?_⟩
    first | exact ⟨⟨_, rfl, Or.inl rfl⟩, rfl⟩ | exact ⟨⟨_, rfl, Or.inr rfl⟩, rfl⟩ | exact ⟨⟨_, rfl, ht01⟩, rfl⟩
  · refine g_iload dX2_isRowRight_24 rfl ?_
    refine g_bipush (v := 8) dX2_isRowRight_26 (by decide) ?_
    refine g_iadd dX2_isRowRight_28 ?_
    refine g_iload_n dX2_isRowRight_29 rfl rfl ?_
    refine g_icmp_gt (tgt := 45) dX2_isRowRight_30 (by decide) (fun c30 => ?_) (fun c30 => ?_)
    · refine g_iconst (v := 0) dX2_isRowRight_45 (by decide) ?_
      refine g_zret dX2_isRowRight_46 rfl (by first | rfl | assumption) ⟨_, _, rfl, rfl, ?_⟩
      first | exact ⟨⟨_, rfl, Or.inl rfl⟩, rfl⟩ | exact ⟨⟨_, rfl, Or.inr rfl⟩, rfl⟩ | exact ⟨⟨_, rfl, ht01⟩, rfl⟩
    · refine g_aload_n dX2_isRowRight_33 rfl rfl ?_
      refine g_iload_n dX2_isRowRight_34 rfl rfl ?_
      refine g_iconst (v := 3) dX2_isRowRight_35 (by decide) ?_
      refine g_iadd dX2_isRowRight_36 ?_
      refine cV1N (fun _ _ => rfl) dX2_isRowRight_37 mlX2_100 imX1_get seX1_get rfl rfl (c_get _ _) (by decide) (Nat.le_of_ble_eq_true rfl) (Nat.le_of_ble_eq_true rfl) (Nat.le_of_ble_eq_true rfl) ?_
      rintro _ _ ⟨rfl, rfl⟩
      refine g_iload dX2_isRowRight_40 rfl ?_
      refine g_icmp_eq (tgt := 47) dX2_isRowRight_42 (by decide) (fun c42 => ?_) (fun c42 => ?_)
      · refine g_aload_n dX2_isRowRight_47 rfl rfl ?_
        refine g_iload_n dX2_isRowRight_48 rfl rfl ?_
        refine g_iload dX2_isRowRight_49 rfl ?_
        refine g_iload_n dX2_isRowRight_51 rfl rfl ?_
        refine g_i2l dX2_isRowRight_52 ?_
        refine cV3N (fun _ _ => rfl) dX2_isRowRight_53 mlX2_109 imX1_sum seX1_sum rfl rfl (c_sum _ _ _ _) (by decide) (Nat.le_of_ble_eq_true rfl) (Nat.le_of_ble_eq_true rfl) (Nat.le_of_ble_eq_true rfl) ?_
        rintro _ _ ⟨rfl, rfl⟩
        refine g_aload_n dX2_isRowRight_56 rfl rfl ?_
        refine g_iload dX2_isRowRight_57 rfl ?_
        refine g_bipush (v := 8) dX2_isRowRight_59 (by decide) ?_
        refine cV2N (fun _ _ => rfl) dX2_isRowRight_61 mlX2_113 imX1_number seX1_number rfl rfl (c_number _ _ 8 (by decide)) (by decide) (Nat.le_of_ble_eq_true rfl) (Nat.le_of_ble_eq_true rfl) (Nat.le_of_ble_eq_true rfl) ?_
        rintro _ _ ⟨rfl, rfl⟩
        refine g_lcmp dX2_isRowRight_64 ?_
        refine g_if_ne (tgt := 81) dX2_isRowRight_65 (by decide) (fun c65 => ?_) (fun c65 => ?_)
        · refine g_iconst (v := 0) dX2_isRowRight_81 (by decide) ?_
          refine g_zret dX2_isRowRight_82 rfl (by first | rfl | assumption) ⟨_, _, rfl, rfl, ?_⟩
          first | exact ⟨⟨_, rfl, Or.inl rfl⟩, rfl⟩ | exact ⟨⟨_, rfl, Or.inr rfl⟩, rfl⟩ | exact ⟨⟨_, rfl, ht01⟩, rfl⟩
        · refine g_aload_n dX2_isRowRight_68 rfl rfl ?_
          refine g_aload_n dX2_isRowRight_69 rfl rfl ?_
          refine g_iload_n dX2_isRowRight_70 rfl rfl ?_
          refine cV2N (fun _ _ => rfl) dX2_isRowRight_71 mlX2_116 imX2_isTextRight seX2_isTextRight rfl rfl (c_isTextRight4 _ _) (by decide) (Nat.le_of_ble_eq_true rfl) (Nat.le_of_ble_eq_true rfl) (Nat.le_of_ble_eq_true rfl) ?_
          rintro _ _ ⟨⟨rtx, rfl, -⟩, rfl⟩
          refine g_if_eq (tgt := 81) dX2_isRowRight_74 (by decide) (fun c74 => ?_) (fun c74 => ?_)
          · refine g_iconst (v := 0) dX2_isRowRight_81 (by decide) ?_
            refine g_zret dX2_isRowRight_82 rfl (by first | rfl | assumption) ⟨_, _, rfl, rfl, ?_⟩
            first | exact ⟨⟨_, rfl, Or.inl rfl⟩, rfl⟩ | exact ⟨⟨_, rfl, Or.inr rfl⟩, rfl⟩ | exact ⟨⟨_, rfl, ht01⟩, rfl⟩
          · refine g_iconst (v := 1) dX2_isRowRight_77 (by decide) ?_
            refine g_goto (tgt := 82) dX2_isRowRight_78 (by decide) ?_
            refine g_zret dX2_isRowRight_82 rfl (by first | rfl | assumption) ⟨_, _, rfl, rfl, ?_⟩
            first | exact ⟨⟨_, rfl, Or.inl rfl⟩, rfl⟩ | exact ⟨⟨_, rfl, Or.inr rfl⟩, rfl⟩ | exact ⟨⟨_, rfl, ht01⟩, rfl⟩
      · refine g_iconst (v := 0) dX2_isRowRight_45 (by decide) ?_
        refine g_zret dX2_isRowRight_46 rfl (by first | rfl | assumption) ⟨_, _, rfl, rfl, ?_⟩
        first | exact ⟨⟨_, rfl, Or.inl rfl⟩, rfl⟩ | exact ⟨⟨_, rfl, Or.inr rfl⟩, rfl⟩ | exact ⟨⟨_, rfl, ht01⟩, rfl⟩
set_option maxRecDepth 100000 in
set_option maxHeartbeats 4000000 in
theorem c_takeChange4 (S : gS) (x y : Int32) : gCt MX2_takeChange (0, 0) 0 0 [.ref 4, .int x, .int y] (wOf τ S) (g0 (wOf τ) fun S' => C8 S S') := by
  refine gCt.of (ls := [some (.ref 4), some (.int x), some (.int y)]) 0 (by decide) rfl (Nat.le_of_ble_eq_true rfl) ?_
  refine g_iload_n dX2_takeChange_0 rfl rfl ?_
  refine g_if_lt (tgt := 22) dX2_takeChange_1 (by decide) (fun c1 => ?_) (fun c1 => ?_)
  · refine g_aload_n dX2_takeChange_22 rfl rfl ?_
    refine g_dup dX2_takeChange_23 rfl ?_
    refine g_get dX2_takeChange_24 flX2_49 rfl rfl ?_
    refine g_iconst (v := 1) dX2_takeChange_27 (by decide) ?_
    refine g_iadd dX2_takeChange_28 ?_
    refine p_put dX2_takeChange_29 fpX2_49 rfl (Nat.le_of_ble_eq_true rfl) (fun _ => rfl) (fun _ => rfl) (by with_reducible first | exact wS_4_7 _ _ _ | exact wS_14_7 _ _ _) ?_
    refine g_vret dX2_takeChange_32 rfl ⟨_, rfl, rfl, ?_⟩
    repeat' (with_reducible first | exact C8.rf _ | assumption | apply C8.a | apply C8.s | apply C8.l)
    all_goals decide
  · refine g_iload_n dX2_takeChange_4 rfl rfl ?_
    refine g_bipush (v := 64) dX2_takeChange_5 (by decide) ?_
    refine g_icmp_ge (tgt := 22) dX2_takeChange_7 (by decide) (fun c7 => ?_) (fun c7 => ?_)
    · refine g_aload_n dX2_takeChange_22 rfl rfl ?_
      refine g_dup dX2_takeChange_23 rfl ?_
      refine g_get dX2_takeChange_24 flX2_49 rfl rfl ?_
      refine g_iconst (v := 1) dX2_takeChange_27 (by decide) ?_
      refine g_iadd dX2_takeChange_28 ?_
      refine p_put dX2_takeChange_29 fpX2_49 rfl (Nat.le_of_ble_eq_true rfl) (fun _ => rfl) (fun _ => rfl) (by with_reducible first | exact wS_4_7 _ _ _ | exact wS_14_7 _ _ _) ?_
      refine g_vret dX2_takeChange_32 rfl ⟨_, rfl, rfl, ?_⟩
      repeat' (with_reducible first | exact C8.rf _ | assumption | apply C8.a | apply C8.s | apply C8.l)
      all_goals decide
    · refine g_aload_n dX2_takeChange_10 rfl rfl ?_
      refine g_get dX2_takeChange_11 flX2_9 rfl rfl ?_
      refine g_iload_n dX2_takeChange_14 rfl rfl ?_
      refine g_dup2_11 dX2_takeChange_15 rfl rfl ?_
      refine g_lald dX2_takeChange_16 rfl (vin (N := 64) (by decide) c1 c7) ?_
      refine g_lconst (v := 1) dX2_takeChange_17 (by decide) ?_
      refine g_iload_n dX2_takeChange_18 rfl rfl ?_
      refine g_lshl dX2_takeChange_19 ?_
      refine g_lxor dX2_takeChange_20 ?_
      refine p_last dX2_takeChange_21 rfl (vin (N := 64) (by decide) c1 c7) (by with_reducible first | exact wA_5 _ _ _) ?_
      refine g_aload_n dX2_takeChange_22 rfl rfl ?_
      refine g_dup dX2_takeChange_23 rfl ?_
      refine g_get dX2_takeChange_24 flX2_49 rfl rfl ?_
      refine g_iconst (v := 1) dX2_takeChange_27 (by decide) ?_
      refine g_iadd dX2_takeChange_28 ?_
      refine p_put dX2_takeChange_29 fpX2_49 rfl (Nat.le_of_ble_eq_true rfl) (fun _ => rfl) (fun _ => rfl) (by with_reducible first | exact wS_4_7 _ _ _ | exact wS_14_7 _ _ _) ?_
      refine g_vret dX2_takeChange_32 rfl ⟨_, rfl, rfl, ?_⟩
      repeat' (with_reducible first | exact C8.rf _ | assumption | apply C8.a | apply C8.s | apply C8.l)
      all_goals decide
set_option maxRecDepth 100000 in
set_option maxHeartbeats 4000000 in
theorem l_hasBefore4 (S : gS) (x y : Int32) : ∀ (m i : Nat), i + m = 2 ^ 31 - 1 → G MX2_hasBefore (1, 40) 2 [some (.ref 4), some (.int x), some (.int y), some (.int (nI i))] [] (wOf τ S) 0 0 (gN (wOf τ) fun v S' => (∃ r : Int32, v = .int r ∧ (r = 0 ∨ r = 1)) ∧ S = S') := by
  intro m
  induction m with
  | zero =>
    intro i hi
    have hle : y ≤ nI i := by
      refine Classical.byContradiction fun z => ?_
      obtain ⟨j, hj, -, hij⟩ := nI_lt_of (by omega) z
      omega
    refine g_iload_n dX2_hasBefore_2 rfl rfl ?_
    refine g_iload_n dX2_hasBefore_3 rfl rfl ?_
    refine g_icmp_ge (tgt := 30) dX2_hasBefore_4 (by decide) (fun c4 => ?_) (fun c4 => ?_)
    · refine g_iconst (v := 0) dX2_hasBefore_30 (by decide) ?_
      refine g_zret dX2_hasBefore_31 rfl (by first | rfl | assumption) ⟨_, _, rfl, rfl, ?_⟩
      first | exact ⟨⟨_, rfl, Or.inl rfl⟩, rfl⟩ | exact ⟨⟨_, rfl, Or.inr rfl⟩, rfl⟩ | exact ⟨⟨_, rfl, ht01⟩, rfl⟩
    · exact absurd hle c4
  | succ m ih =>
    intro i hi
    refine g_iload_n dX2_hasBefore_2 rfl rfl ?_
    refine g_iload_n dX2_hasBefore_3 rfl rfl ?_
    refine g_icmp_ge (tgt := 30) dX2_hasBefore_4 (by decide) (fun c4 => ?_) (fun c4 => ?_)
    · refine g_iconst (v := 0) dX2_hasBefore_30 (by decide) ?_
      refine g_zret dX2_hasBefore_31 rfl (by first | rfl | assumption) ⟨_, _, rfl, rfl, ?_⟩
      first | exact ⟨⟨_, rfl, Or.inl rfl⟩, rfl⟩ | exact ⟨⟨_, rfl, Or.inr rfl⟩, rfl⟩ | exact ⟨⟨_, rfl, ht01⟩, rfl⟩
    · refine g_aload_n dX2_hasBefore_7 rfl rfl ?_
      refine g_iload_n dX2_hasBefore_8 rfl rfl ?_
      refine g_iload_n dX2_hasBefore_9 rfl rfl ?_
      refine cV2N (fun _ _ => rfl) dX2_hasBefore_10 mlX2_72 imX2_slotOf seX2_slotOf rfl rfl (c_slotOf4 _ _ _) (by decide) (Nat.le_of_ble_eq_true rfl) (Nat.le_of_ble_eq_true rfl) (Nat.le_of_ble_eq_true rfl) ?_
      rintro _ _ ⟨⟨rsl, rfl⟩, rfl⟩
      refine g_aload_n dX2_hasBefore_13 rfl rfl ?_
      refine g_iload_n dX2_hasBefore_14 rfl rfl ?_
      refine g_iload_n dX2_hasBefore_15 rfl rfl ?_
      refine cV2N (fun _ _ => rfl) dX2_hasBefore_16 mlX2_72 imX2_slotOf seX2_slotOf rfl rfl (c_slotOf4 _ _ _) (by decide) (Nat.le_of_ble_eq_true rfl) (Nat.le_of_ble_eq_true rfl) (Nat.le_of_ble_eq_true rfl) ?_
      rintro _ _ ⟨⟨rsl, rfl⟩, rfl⟩
      refine g_icmp_ne (tgt := 24) dX2_hasBefore_19 (by decide) (fun c19 => ?_) (fun c19 => ?_)
      · refine g_iinc dX2_hasBefore_24 rfl (by decide) (by first | exact gi_1 _ | exact gi_p _) ?_
        refine g_goto (tgt := 2) dX2_hasBefore_27 (by decide) ?_
        exact ih (i + 1) (by omega)
      · refine g_iconst (v := 1) dX2_hasBefore_22 (by decide) ?_
        refine g_zret dX2_hasBefore_23 rfl (by first | rfl | assumption) ⟨_, _, rfl, rfl, ?_⟩
        first | exact ⟨⟨_, rfl, Or.inl rfl⟩, rfl⟩ | exact ⟨⟨_, rfl, Or.inr rfl⟩, rfl⟩ | exact ⟨⟨_, rfl, ht01⟩, rfl⟩
set_option maxRecDepth 100000 in
set_option maxHeartbeats 4000000 in
theorem c_hasBefore4 (S : gS) (x y : Int32) : gCt MX2_hasBefore (1, 40) 0 0 [.ref 4, .int x, .int y] (wOf τ S) (gN (wOf τ) fun v S' => (∃ r : Int32, v = .int r ∧ (r = 0 ∨ r = 1)) ∧ S = S') := by
  refine gCt.of (ls := [some (.ref 4), some (.int x), some (.int y), none]) 1 (by decide) rfl (Nat.le_of_ble_eq_true rfl) ?_
  refine g_iconst (v := 0) dX2_hasBefore_0 (by decide) ?_
  refine g_istore_n dX2_hasBefore_1 rfl (by decide) ?_
  exact l_hasBefore4 S x y (2 ^ 31 - 1) 0 (by omega)
set_option maxRecDepth 100000 in
set_option maxHeartbeats 4000000 in
theorem l_nameChunks4 (S0 : gS) (x y : Int32) : ∀ (m i : Nat), i + m = 8 → ∀ S : gS, C8 S0 S → G MX2_nameChunks (2, 64) 2 [some (.ref 4), some (.int x), some (.int y), some (.int (nI i))] [] (wOf τ S) 0 0 (g0 (wOf τ) fun S' => C8 S0 S') := by
  intro m
  induction m with
  | zero =>
    intro i hi S hS
    obtain rfl : i = 8 := by omega
    refine g_iload_n dX2_nameChunks_2 rfl rfl ?_
    refine g_bipush (v := 8) dX2_nameChunks_3 (by decide) ?_
    refine g_icmp_ge (tgt := 37) dX2_nameChunks_5 (by decide) (fun c5 => ?_) (fun c5 => ?_)
    · refine g_vret dX2_nameChunks_37 rfl ⟨_, rfl, rfl, ?_⟩
      exact hS
    · exact absurd (show (8 : Int32) ≤ nI 8 by decide) c5
  | succ m ih =>
    intro i hi S hS
    refine g_iload_n dX2_nameChunks_2 rfl rfl ?_
    refine g_bipush (v := 8) dX2_nameChunks_3 (by decide) ?_
    refine g_icmp_ge (tgt := 37) dX2_nameChunks_5 (by decide) (fun c5 => ?_) (fun c5 => ?_)
    · refine g_vret dX2_nameChunks_37 rfl ⟨_, rfl, rfl, ?_⟩
      exact hS
    · refine g_aload_n dX2_nameChunks_8 rfl rfl ?_
      refine g_iload_n dX2_nameChunks_9 rfl rfl ?_
      refine g_iload_n dX2_nameChunks_10 rfl rfl ?_
      refine cV2N (fun _ _ => rfl) dX2_nameChunks_11 mlX2_154 imX2_hasBefore seX2_hasBefore rfl rfl (c_hasBefore4 _ _ _) (by decide) (Nat.le_of_ble_eq_true rfl) (Nat.le_of_ble_eq_true rfl) (Nat.le_of_ble_eq_true rfl) ?_
      rintro _ _ ⟨⟨rhb, rfl, -⟩, rfl⟩
      refine g_if_ne (tgt := 31) dX2_nameChunks_14 (by decide) (fun c14 => ?_) (fun c14 => ?_)
      · refine g_iinc dX2_nameChunks_31 rfl (by decide) (by first | exact gi_1 _ | exact gi_p _) ?_
        refine g_goto (tgt := 2) dX2_nameChunks_34 (by decide) ?_
        first | exact ih (i + 1) (by omega) _ hS | exact ih (i + 1) (by omega) _ (hS.tr hS1)
      · refine g_aload_n dX2_nameChunks_17 rfl rfl ?_
        refine g_get dX2_nameChunks_18 flX2_18 rfl rfl ?_
        refine g_aload_n dX2_nameChunks_21 rfl rfl ?_
        refine g_iload_n dX2_nameChunks_22 rfl rfl ?_
        refine g_iload_n dX2_nameChunks_23 rfl rfl ?_
        refine cV2N (fun _ _ => rfl) dX2_nameChunks_24 mlX2_72 imX2_slotOf seX2_slotOf rfl rfl (c_slotOf4 _ _ _) (by decide) (Nat.le_of_ble_eq_true rfl) (Nat.le_of_ble_eq_true rfl) (Nat.le_of_ble_eq_true rfl) ?_
        rintro _ _ ⟨⟨rsl, rfl⟩, rfl⟩
        refine g_iload_n dX2_nameChunks_27 rfl rfl ?_
        refine cV20 (fun _ _ => rfl) dX2_nameChunks_28 mlX2_158 imX0_addName seX0_addName rfl rfl (c_addName6 _ _ _) (by decide) (Nat.le_of_ble_eq_true rfl) (Nat.le_of_ble_eq_true rfl) (Nat.le_of_ble_eq_true rfl) ?_
        rintro S1 hS1
        refine g_iinc dX2_nameChunks_31 rfl (by decide) (by first | exact gi_1 _ | exact gi_p _) ?_
        refine g_goto (tgt := 2) dX2_nameChunks_34 (by decide) ?_
        first | exact ih (i + 1) (by omega) _ hS | exact ih (i + 1) (by omega) _ (hS.tr hS1)
set_option maxRecDepth 100000 in
set_option maxHeartbeats 4000000 in
theorem c_nameChunks4 (S : gS) (x y : Int32) : gCt MX2_nameChunks (2, 64) 0 0 [.ref 4, .int x, .int y] (wOf τ S) (g0 (wOf τ) fun S' => C8 S S') := by
  refine gCt.of (ls := [some (.ref 4), some (.int x), some (.int y), none]) 1 (by decide) rfl (Nat.le_of_ble_eq_true rfl) ?_
  refine g_iconst (v := 0) dX2_nameChunks_0 (by decide) ?_
  refine g_istore_n dX2_nameChunks_1 rfl (by decide) ?_
  exact l_nameChunks4 S x y 8 0 rfl S (C8.rf S)
set_option maxRecDepth 100000 in
set_option maxHeartbeats 4000000 in
theorem l_takeVersion4 (S0 : gS) (t : Int32) (h1 : ¬ S0.1 4 8 < 0) (h2 : S0.1 4 8 < 100) : ∀ (m i : Nat), i + m = 8 → ∀ S : gS, Cl S0 S ∧ S.1 = S0.1 → G MX2_takeVersion (3, 88) 19 [some (.ref 4), some (.ref 1), some (.int t), some (.int (nI i))] [] (wOf τ S) 0 0 (g0 (wOf τ) fun S' => Cl S0 S') := by
  intro m
  induction m with
  | zero =>
    intro i hi S hS
    obtain rfl : i = 8 := by omega
    have h1 : ¬ S.1 4 8 < 0 := by rw [hS.2]; exact h1
    have h2 : S.1 4 8 < 100 := by rw [hS.2]; exact h2
    refine g_iload_n dX2_takeVersion_19 rfl rfl ?_
    refine g_bipush (v := 8) dX2_takeVersion_20 (by decide) ?_
    refine g_icmp_ge (tgt := 63) dX2_takeVersion_22 (by decide) (fun c22 => ?_) (fun c22 => ?_)
    · refine g_aload_n dX2_takeVersion_63 rfl rfl ?_
      refine g_get dX2_takeVersion_64 flX2_22 rfl rfl ?_
      refine g_aload_n dX2_takeVersion_67 rfl rfl ?_
      refine g_get dX2_takeVersion_68 flX2_52 rfl rfl ?_
      refine g_iconst (v := 1) dX2_takeVersion_71 (by decide) ?_
      refine p_zast dX2_takeVersion_72 rfl (vin2 (N := 100) (by decide) h1 h2) (by with_reducible first | exact wA_10 _ _ _) ?_
      refine g_aload_n dX2_takeVersion_73 rfl rfl ?_
      refine g_aload_n dX2_takeVersion_74 rfl rfl ?_
      refine g_get dX2_takeVersion_75 flX2_52 rfl rfl ?_
      refine g_iconst (v := 1) dX2_takeVersion_78 (by decide) ?_
      refine cV20 (fun _ _ => rfl) dX2_takeVersion_79 mlX2_151 imX2_nameChunks seX2_nameChunks rfl rfl (c_nameChunks4 _ _ _) (by decide) (Nat.le_of_ble_eq_true rfl) (Nat.le_of_ble_eq_true rfl) (Nat.le_of_ble_eq_true rfl) ?_
      rintro S2 hS2
      refine g_aload_n dX2_takeVersion_82 rfl rfl ?_
      refine g_dup dX2_takeVersion_83 rfl ?_
      refine g_get dX2_takeVersion_84 flX2_52 rfl rfl ?_
      refine g_iconst (v := 1) dX2_takeVersion_87 (by decide) ?_
      refine g_iadd dX2_takeVersion_88 ?_
      refine p_put dX2_takeVersion_89 fpX2_52 rfl (Nat.le_of_ble_eq_true rfl) (fun _ => rfl) (fun _ => rfl) (by with_reducible first | exact wS_4_8 _ _ _ | exact wS_14_8 _ _ _) ?_
      refine g_vret dX2_takeVersion_92 rfl ⟨_, rfl, rfl, ?_⟩
      refine hS.1.tr ?_
      refine Cl.s ?_ (by decide) (by decide)
      refine Cl.tr ?_ hS2.1
      exact Cl.a (Cl.rf _) (by decide)
    · exact absurd (show (8 : Int32) ≤ nI 8 by decide) c22
  | succ m ih =>
    intro i hi S hS
    have h1 : ¬ S.1 4 8 < 0 := by rw [hS.2]; exact h1
    have h2 : S.1 4 8 < 100 := by rw [hS.2]; exact h2
    refine g_iload_n dX2_takeVersion_19 rfl rfl ?_
    refine g_bipush (v := 8) dX2_takeVersion_20 (by decide) ?_
    refine g_icmp_ge (tgt := 63) dX2_takeVersion_22 (by decide) (fun c22 => ?_) (fun c22 => ?_)
    · exact absurd c22 (nI_ge (b := 8) (by omega) (by decide))
    · refine g_aload_n dX2_takeVersion_25 rfl rfl ?_
      refine g_get dX2_takeVersion_26 flX2_26 rfl rfl ?_
      refine g_aload_n dX2_takeVersion_29 rfl rfl ?_
      refine g_get dX2_takeVersion_30 flX2_52 rfl rfl ?_
      refine g_bipush (v := 8) dX2_takeVersion_33 (by decide) ?_
      refine g_imul dX2_takeVersion_35 ?_
      refine g_iload_n dX2_takeVersion_36 rfl rfl ?_
      refine g_iadd dX2_takeVersion_37 ?_
      refine g_aload_n dX2_takeVersion_38 rfl rfl ?_
      refine g_get dX2_takeVersion_39 flX2_18 rfl rfl ?_
      refine g_aload_n dX2_takeVersion_42 rfl rfl ?_
      refine g_iload_n dX2_takeVersion_43 rfl rfl ?_
      refine g_iconst (v := 2) dX2_takeVersion_44 (by decide) ?_
      refine g_iload_n dX2_takeVersion_45 rfl rfl ?_
      refine g_imul dX2_takeVersion_46 ?_
      refine g_iadd dX2_takeVersion_47 ?_
      refine g_iconst (v := 2) dX2_takeVersion_48 (by decide) ?_
      refine cV2N (fun _ _ => rfl) dX2_takeVersion_49 mlX2_113 imX1_number seX1_number rfl rfl (c_number _ _ 2 (by decide)) (by decide) (Nat.le_of_ble_eq_true rfl) (Nat.le_of_ble_eq_true rfl) (Nat.le_of_ble_eq_true rfl) ?_
      rintro _ _ ⟨rfl, rfl⟩
      refine g_l2i dX2_takeVersion_52 ?_
      refine cV1N (fun _ _ => rfl) dX2_takeVersion_53 mlX2_120 imX0_find seX0_find rfl rfl (c_find6 _ _) (by decide) (Nat.le_of_ble_eq_true rfl) (Nat.le_of_ble_eq_true rfl) (Nat.le_of_ble_eq_true rfl) ?_
      rintro _ _ ⟨⟨rf, rfl, -⟩, rfl⟩
      refine p_iast dX2_takeVersion_56 rfl (ix8 (N := 100) (by decide) h1 (Int32.not_le.mpr h2) (nI_pos (by omega)) c22) (by with_reducible first | exact wA_11 _ _ _) ?_
      refine g_iinc dX2_takeVersion_57 rfl (by decide) (by first | exact gi_1 _ | exact gi_p _) ?_
      refine g_goto (tgt := 19) dX2_takeVersion_60 (by decide) ?_
      exact ih (i + 1) (by omega) _ ⟨Cl.a hS.1 (by decide), hS.2⟩
set_option maxRecDepth 100000 in
set_option maxHeartbeats 4000000 in
theorem c_takeVersion4 (S : gS) (t : Int32) : gCt MX2_takeVersion (3, 88) 0 0 [.ref 4, .ref 1, .int t] (wOf τ S) (g0 (wOf τ) fun S' => Cl S S') := by
  refine gCt.of (ls := [some (.ref 4), some (.ref 1), some (.int t), none]) 1 (by decide) rfl (Nat.le_of_ble_eq_true rfl) ?_
  refine g_aload_n dX2_takeVersion_0 rfl rfl ?_
  refine g_get dX2_takeVersion_1 flX2_52 rfl rfl ?_
  refine g_if_lt (tgt := 16) dX2_takeVersion_4 (by decide) (fun c4 => ?_) (fun c4 => ?_)
  · refine g_vret dX2_takeVersion_16 rfl ⟨_, rfl, rfl, ?_⟩
    exact Cl.rf _
  · refine g_aload_n dX2_takeVersion_7 rfl rfl ?_
    refine g_get dX2_takeVersion_8 flX2_52 rfl rfl ?_
    refine g_bipush (v := 100) dX2_takeVersion_11 (by decide) ?_
    refine g_icmp_lt (tgt := 17) dX2_takeVersion_13 (by decide) (fun c13 => ?_) (fun c13 => ?_)
    · refine g_iconst (v := 0) dX2_takeVersion_17 (by decide) ?_
      refine g_istore_n dX2_takeVersion_18 rfl (by decide) ?_
      exact l_takeVersion4 S t c4 c13 8 0 rfl S ⟨Cl.rf S, rfl⟩
    · refine g_vret dX2_takeVersion_16 rfl ⟨_, rfl, rfl, ?_⟩
      exact Cl.rf _
set_option maxRecDepth 100000 in
set_option maxHeartbeats 4000000 in
theorem c_takeAnswer4 (S : gS) (x : Int32) (y : Int64) : gCt MX2_takeAnswer (0, 0) 0 0 [.ref 4, .int x, .long y] (wOf τ S) (g0 (wOf τ) fun S' => C8 S S') := by
  refine gCt.of (ls := [some (.ref 4), some (.int x), some (.long y), none]) 0 (by decide) rfl (Nat.le_of_ble_eq_true rfl) ?_
  refine g_aload_n dX2_takeAnswer_0 rfl rfl ?_
  refine g_get dX2_takeAnswer_1 flX2_55 rfl rfl ?_
  refine g_if_lt (tgt := 16) dX2_takeAnswer_4 (by decide) (fun c4 => ?_) (fun c4 => ?_)
  · refine g_vret dX2_takeAnswer_16 rfl ⟨_, rfl, rfl, ?_⟩
    repeat' (with_reducible first | exact C8.rf _ | assumption | apply C8.a | apply C8.s | apply C8.l)
    all_goals decide
  · refine g_aload_n dX2_takeAnswer_7 rfl rfl ?_
    refine g_get dX2_takeAnswer_8 flX2_55 rfl rfl ?_
    refine g_bipush (v := 100) dX2_takeAnswer_11 (by decide) ?_
    refine g_icmp_lt (tgt := 17) dX2_takeAnswer_13 (by decide) (fun c13 => ?_) (fun c13 => ?_)
    · refine g_aload_n dX2_takeAnswer_17 rfl rfl ?_
      refine g_get dX2_takeAnswer_18 flX2_30 rfl rfl ?_
      refine g_aload_n dX2_takeAnswer_21 rfl rfl ?_
      refine g_get dX2_takeAnswer_22 flX2_55 rfl rfl ?_
      refine g_iload_n dX2_takeAnswer_25 rfl rfl ?_
      refine p_iast dX2_takeAnswer_26 rfl (vin2 (N := 100) (by decide) c4 c13) (by with_reducible first | exact wA_5 _ _ _ | exact wA_10 _ _ _ | exact wA_11 _ _ _ | exact wA_12 _ _ _ | exact wA_13 _ _ _ | exact wA_15 _ _ _ | exact wA_20 _ _ _ | exact wA_21 _ _ _ | exact wA_22 _ _ _ | exact wA_23 _ _ _) ?_
      refine g_aload_n dX2_takeAnswer_27 rfl rfl ?_
      refine g_get dX2_takeAnswer_28 flX2_33 rfl rfl ?_
      refine g_aload_n dX2_takeAnswer_31 rfl rfl ?_
      refine g_get dX2_takeAnswer_32 flX2_55 rfl rfl ?_
      refine g_lload_n dX2_takeAnswer_35 rfl rfl ?_
      refine p_last dX2_takeAnswer_36 rfl (vin2 (N := 100) (by decide) c4 c13) (by with_reducible first | exact wA_5 _ _ _ | exact wA_10 _ _ _ | exact wA_11 _ _ _ | exact wA_12 _ _ _ | exact wA_13 _ _ _ | exact wA_15 _ _ _ | exact wA_20 _ _ _ | exact wA_21 _ _ _ | exact wA_22 _ _ _ | exact wA_23 _ _ _) ?_
      refine g_aload_n dX2_takeAnswer_37 rfl rfl ?_
      refine g_dup dX2_takeAnswer_38 rfl ?_
      refine g_get dX2_takeAnswer_39 flX2_55 rfl rfl ?_
      refine g_iconst (v := 1) dX2_takeAnswer_42 (by decide) ?_
      refine g_iadd dX2_takeAnswer_43 ?_
      refine p_put dX2_takeAnswer_44 fpX2_55 rfl (Nat.le_of_ble_eq_true rfl) (fun _ => rfl) (fun _ => rfl) (by with_reducible first | exact wS_4_9 _ _ _ | exact wS_14_9 _ _ _) ?_
      refine g_vret dX2_takeAnswer_47 rfl ⟨_, rfl, rfl, ?_⟩
      repeat' (with_reducible first | exact C8.rf _ | assumption | apply C8.a | apply C8.s | apply C8.l)
      all_goals decide
    · refine g_vret dX2_takeAnswer_16 rfl ⟨_, rfl, rfl, ?_⟩
      repeat' (with_reducible first | exact C8.rf _ | assumption | apply C8.a | apply C8.s | apply C8.l)
      all_goals decide
set_option maxRecDepth 100000 in
set_option maxHeartbeats 4000000 in
theorem c_takeDrop4 (S : gS) (x : Int32) : gCt MX2_takeDrop (3, 88) 0 0 [.ref 4, .int x] (wOf τ S) (g0 (wOf τ) fun S' => C8 S S') := by
  refine gCt.of (ls := [some (.ref 4), some (.int x)]) 0 (by decide) rfl (Nat.le_of_ble_eq_true rfl) ?_
  refine g_aload_n dX2_takeDrop_0 rfl rfl ?_
  refine g_iload_n dX2_takeDrop_1 rfl rfl ?_
  refine cV1N (fun _ _ => rfl) dX2_takeDrop_2 mlX2_64 imX2_isThere seX2_isThere rfl rfl (c_isThere4 _ _) (by decide) (Nat.le_of_ble_eq_true rfl) (Nat.le_of_ble_eq_true rfl) (Nat.le_of_ble_eq_true rfl) ?_
  rintro _ _ ⟨⟨rt, rfl, ht01, ht⟩, rfl⟩
  refine g_if_eq (tgt := 21) dX2_takeDrop_5 (by decide) (fun c5 => ?_) (fun c5 => ?_)
  · refine g_vret dX2_takeDrop_21 rfl ⟨_, rfl, rfl, ?_⟩
    first | exact C8.rf _ | exact C8.tr (C8.a (C8.rf _) (by decide)) hS2
  · refine g_aload_n dX2_takeDrop_8 rfl rfl ?_
    refine g_get dX2_takeDrop_9 flX2_22 rfl rfl ?_
    refine g_iload_n dX2_takeDrop_12 rfl rfl ?_
    refine g_iconst (v := 0) dX2_takeDrop_13 (by decide) ?_
    refine p_zast dX2_takeDrop_14 rfl (vin (N := 100) (by decide) (ht c5).1 (ht c5).2.2) (by with_reducible first | exact wA_10 _ _ _) ?_
    refine g_aload_n dX2_takeDrop_15 rfl rfl ?_
    refine g_iload_n dX2_takeDrop_16 rfl rfl ?_
    refine g_iconst (v := (-1)) dX2_takeDrop_17 (by decide) ?_
    refine cV20 (fun _ _ => rfl) dX2_takeDrop_18 mlX2_151 imX2_nameChunks seX2_nameChunks rfl rfl (c_nameChunks4 _ _ _) (by decide) (Nat.le_of_ble_eq_true rfl) (Nat.le_of_ble_eq_true rfl) (Nat.le_of_ble_eq_true rfl) ?_
    rintro S2 hS2
    refine g_vret dX2_takeDrop_21 rfl ⟨_, rfl, rfl, ?_⟩
    first | exact C8.rf _ | exact C8.tr (C8.a (C8.rf _) (by decide)) hS2
set_option maxRecDepth 100000 in
set_option maxHeartbeats 4000000 in
theorem c_takeRow4 (S : gS) (x : Int32) : gCt MX2_takeRow (4, 116) 0 0 [.ref 4, .ref 1, .int x] (wOf τ S) (g0 (wOf τ) fun S' => Cl S S' ∧ (¬ dget S x = 3 → S'.1 4 8 = S.1 4 8)) := by
  refine gCt.of (ls := [some (.ref 4), some (.ref 1), some (.int x), none, none, none]) 3 (by decide) rfl (Nat.le_of_ble_eq_true rfl) ?_
  refine g_aload_n dX2_takeRow_0 rfl rfl ?_
  refine g_iload_n dX2_takeRow_1 rfl rfl ?_
  refine cV1N (fun _ _ => rfl) dX2_takeRow_2 mlX2_100 imX1_get seX1_get rfl rfl (c_get _ _) (by decide) (Nat.le_of_ble_eq_true rfl) (Nat.le_of_ble_eq_true rfl) (Nat.le_of_ble_eq_true rfl) ?_
  rintro _ _ ⟨rfl, rfl⟩
  refine g_istore_n dX2_takeRow_5 rfl (by decide) ?_
  refine g_aload_n dX2_takeRow_6 rfl rfl ?_
  refine g_iload_n dX2_takeRow_7 rfl rfl ?_
  refine g_iconst (v := 1) dX2_takeRow_8 (by decide) ?_
  refine g_iadd dX2_takeRow_9 ?_
  refine g_iconst (v := 2) dX2_takeRow_10 (by decide) ?_
  refine cV2N (fun _ _ => rfl) dX2_takeRow_11 mlX2_113 imX1_number seX1_number rfl rfl (c_number _ _ 2 (by decide)) (by decide) (Nat.le_of_ble_eq_true rfl) (Nat.le_of_ble_eq_true rfl) (Nat.le_of_ble_eq_true rfl) ?_
  rintro _ _ ⟨rfl, rfl⟩
  refine g_l2i dX2_takeRow_14 ?_
  refine g_istore dX2_takeRow_15 (by decide) ?_
  refine g_iload_n dX2_takeRow_17 rfl rfl ?_
  refine g_iconst (v := 4) dX2_takeRow_18 (by decide) ?_
  refine g_iadd dX2_takeRow_19 ?_
  refine g_istore dX2_takeRow_20 (by decide) ?_
  refine g_iload_n dX2_takeRow_22 rfl rfl ?_
  refine g_tsw3 (ts := [52, 67, 88, 98, 121]) (tv := 88) (e := 3) dX2_takeRow_23 (by decide) (by decide) (fun t ht htv => ?_)
  simp only [List.mem_cons, List.not_mem_nil, or_false] at ht
  rcases ht with rfl | rfl | rfl | rfl | rfl
  · refine g_aload_n dX2_takeRow_52 rfl rfl ?_
    refine g_get dX2_takeRow_53 flX2_18 rfl rfl ?_
    refine g_iload dX2_takeRow_56 rfl ?_
    refine g_aload_n dX2_takeRow_58 rfl rfl ?_
    refine g_iload dX2_takeRow_59 rfl ?_
    refine cV30 (fun _ _ => rfl) dX2_takeRow_61 mlX2_133 imX0_take seX0_take rfl rfl (c_take6 _ _ _) (by decide) (Nat.le_of_ble_eq_true rfl) (Nat.le_of_ble_eq_true rfl) (Nat.le_of_ble_eq_true rfl) ?_
    rintro S1 hS1
    refine g_goto (tgt := 127) dX2_takeRow_64 (by decide) ?_
    refine g_aload_n dX2_takeRow_127 rfl rfl ?_
    refine g_dup dX2_takeRow_128 rfl ?_
    refine g_get dX2_takeRow_129 flX2_58 rfl rfl ?_
    refine g_iconst (v := 1) dX2_takeRow_132 (by decide) ?_
    refine g_iadd dX2_takeRow_133 ?_
    refine p_put dX2_takeRow_134 fpX2_58 rfl (Nat.le_of_ble_eq_true rfl) (fun _ => rfl) (fun _ => rfl) (by with_reducible first | exact wS_4_10 _ _ _ | exact wS_14_10 _ _ _) ?_
    refine g_aload_n dX2_takeRow_137 rfl rfl ?_
    refine g_dup dX2_takeRow_138 rfl ?_
    refine g_get dX2_takeRow_139 flX2_61 rfl rfl ?_
    refine g_bipush (v := 12) dX2_takeRow_142 (by decide) ?_
    refine g_iload_n dX2_takeRow_144 rfl rfl ?_
    refine cS1N (fun _ _ => rfl) dX2_takeRow_145 mlX2_106 isX4_sizeOf (c_sizeOf _ _) (by decide) (Nat.le_of_ble_eq_true rfl) (Nat.le_of_ble_eq_true rfl) (Nat.le_of_ble_eq_true rfl) ?_
    rintro _ _ ⟨⟨rs, rfl⟩, rfl⟩
    refine g_iadd dX2_takeRow_148 ?_
    refine g_iadd dX2_takeRow_149 ?_
    refine p_put dX2_takeRow_150 fpX2_61 rfl (Nat.le_of_ble_eq_true rfl) (fun _ => rfl) (fun _ => rfl) (by with_reducible first | exact wS_4_11 _ _ _ | exact wS_14_11 _ _ _) ?_
    refine g_vret dX2_takeRow_153 rfl ⟨_, rfl, rfl, ?_⟩
    first | exact ⟨Cl.s (Cl.s hS1.1 (by decide) (by decide)) (by decide) (by decide), fun _ => (mS_ne (by decide)).trans ((mS_ne (by decide)).trans hS1.2)⟩ | exact ⟨Cl.s (Cl.s hS1 (by decide) (by decide)) (by decide) (by decide), fun z => absurd (Int32.toInt_inj.mp (htv rfl)) z⟩
  · refine g_aload_n dX2_takeRow_67 rfl rfl ?_
    refine g_aload_n dX2_takeRow_68 rfl rfl ?_
    refine g_iload dX2_takeRow_69 rfl ?_
    refine cV1N (fun _ _ => rfl) dX2_takeRow_71 mlX2_100 imX1_get seX1_get rfl rfl (c_get _ _) (by decide) (Nat.le_of_ble_eq_true rfl) (Nat.le_of_ble_eq_true rfl) (Nat.le_of_ble_eq_true rfl) ?_
    rintro _ _ ⟨rfl, rfl⟩
    refine g_aload_n dX2_takeRow_74 rfl rfl ?_
    refine g_iload dX2_takeRow_75 rfl ?_
    refine g_iconst (v := 1) dX2_takeRow_77 (by decide) ?_
    refine g_iadd dX2_takeRow_78 ?_
    refine cV1N (fun _ _ => rfl) dX2_takeRow_79 mlX2_100 imX1_get seX1_get rfl rfl (c_get _ _) (by decide) (Nat.le_of_ble_eq_true rfl) (Nat.le_of_ble_eq_true rfl) (Nat.le_of_ble_eq_true rfl) ?_
    rintro _ _ ⟨rfl, rfl⟩
    refine cV20 (fun _ _ => rfl) dX2_takeRow_82 mlX2_137 imX2_takeChange seX2_takeChange rfl rfl (c_takeChange4 _ _ _) (by decide) (Nat.le_of_ble_eq_true rfl) (Nat.le_of_ble_eq_true rfl) (Nat.le_of_ble_eq_true rfl) ?_
    rintro S1 hS1
    refine g_goto (tgt := 127) dX2_takeRow_85 (by decide) ?_
    refine g_aload_n dX2_takeRow_127 rfl rfl ?_
    refine g_dup dX2_takeRow_128 rfl ?_
    refine g_get dX2_takeRow_129 flX2_58 rfl rfl ?_
    refine g_iconst (v := 1) dX2_takeRow_132 (by decide) ?_
    refine g_iadd dX2_takeRow_133 ?_
    refine p_put dX2_takeRow_134 fpX2_58 rfl (Nat.le_of_ble_eq_true rfl) (fun _ => rfl) (fun _ => rfl) (by with_reducible first | exact wS_4_10 _ _ _ | exact wS_14_10 _ _ _) ?_
    refine g_aload_n dX2_takeRow_137 rfl rfl ?_
    refine g_dup dX2_takeRow_138 rfl ?_
    refine g_get dX2_takeRow_139 flX2_61 rfl rfl ?_
    refine g_bipush (v := 12) dX2_takeRow_142 (by decide) ?_
    refine g_iload_n dX2_takeRow_144 rfl rfl ?_
    refine cS1N (fun _ _ => rfl) dX2_takeRow_145 mlX2_106 isX4_sizeOf (c_sizeOf _ _) (by decide) (Nat.le_of_ble_eq_true rfl) (Nat.le_of_ble_eq_true rfl) (Nat.le_of_ble_eq_true rfl) ?_
    rintro _ _ ⟨⟨rs, rfl⟩, rfl⟩
    refine g_iadd dX2_takeRow_148 ?_
    refine g_iadd dX2_takeRow_149 ?_
    refine p_put dX2_takeRow_150 fpX2_61 rfl (Nat.le_of_ble_eq_true rfl) (fun _ => rfl) (fun _ => rfl) (by with_reducible first | exact wS_4_11 _ _ _ | exact wS_14_11 _ _ _) ?_
    refine g_vret dX2_takeRow_153 rfl ⟨_, rfl, rfl, ?_⟩
    first | exact ⟨Cl.s (Cl.s hS1.1 (by decide) (by decide)) (by decide) (by decide), fun _ => (mS_ne (by decide)).trans ((mS_ne (by decide)).trans hS1.2)⟩ | exact ⟨Cl.s (Cl.s hS1 (by decide) (by decide)) (by decide) (by decide), fun z => absurd (Int32.toInt_inj.mp (htv rfl)) z⟩
  · refine g_aload_n dX2_takeRow_88 rfl rfl ?_
    refine g_aload_n dX2_takeRow_89 rfl rfl ?_
    refine g_iload dX2_takeRow_90 rfl ?_
    refine cV20 (fun _ _ => rfl) dX2_takeRow_92 mlX2_141 imX2_takeVersion seX2_takeVersion rfl rfl (c_takeVersion4 _ _) (by decide) (Nat.le_of_ble_eq_true rfl) (Nat.le_of_ble_eq_true rfl) (Nat.le_of_ble_eq_true rfl) ?_
    rintro S1 hS1
    refine g_goto (tgt := 127) dX2_takeRow_95 (by decide) ?_
    refine g_aload_n dX2_takeRow_127 rfl rfl ?_
    refine g_dup dX2_takeRow_128 rfl ?_
    refine g_get dX2_takeRow_129 flX2_58 rfl rfl ?_
    refine g_iconst (v := 1) dX2_takeRow_132 (by decide) ?_
    refine g_iadd dX2_takeRow_133 ?_
    refine p_put dX2_takeRow_134 fpX2_58 rfl (Nat.le_of_ble_eq_true rfl) (fun _ => rfl) (fun _ => rfl) (by with_reducible first | exact wS_4_10 _ _ _ | exact wS_14_10 _ _ _) ?_
    refine g_aload_n dX2_takeRow_137 rfl rfl ?_
    refine g_dup dX2_takeRow_138 rfl ?_
    refine g_get dX2_takeRow_139 flX2_61 rfl rfl ?_
    refine g_bipush (v := 12) dX2_takeRow_142 (by decide) ?_
    refine g_iload_n dX2_takeRow_144 rfl rfl ?_
    refine cS1N (fun _ _ => rfl) dX2_takeRow_145 mlX2_106 isX4_sizeOf (c_sizeOf _ _) (by decide) (Nat.le_of_ble_eq_true rfl) (Nat.le_of_ble_eq_true rfl) (Nat.le_of_ble_eq_true rfl) ?_
    rintro _ _ ⟨⟨rs, rfl⟩, rfl⟩
    refine g_iadd dX2_takeRow_148 ?_
    refine g_iadd dX2_takeRow_149 ?_
    refine p_put dX2_takeRow_150 fpX2_61 rfl (Nat.le_of_ble_eq_true rfl) (fun _ => rfl) (fun _ => rfl) (by with_reducible first | exact wS_4_11 _ _ _ | exact wS_14_11 _ _ _) ?_
    refine g_vret dX2_takeRow_153 rfl ⟨_, rfl, rfl, ?_⟩
    first | exact ⟨Cl.s (Cl.s hS1.1 (by decide) (by decide)) (by decide) (by decide), fun _ => (mS_ne (by decide)).trans ((mS_ne (by decide)).trans hS1.2)⟩ | exact ⟨Cl.s (Cl.s hS1 (by decide) (by decide)) (by decide) (by decide), fun z => absurd (Int32.toInt_inj.mp (htv rfl)) z⟩
  · refine g_aload_n dX2_takeRow_98 rfl rfl ?_
    refine g_aload_n dX2_takeRow_99 rfl rfl ?_
    refine g_iload dX2_takeRow_100 rfl ?_
    refine cV1N (fun _ _ => rfl) dX2_takeRow_102 mlX2_100 imX1_get seX1_get rfl rfl (c_get _ _) (by decide) (Nat.le_of_ble_eq_true rfl) (Nat.le_of_ble_eq_true rfl) (Nat.le_of_ble_eq_true rfl) ?_
    rintro _ _ ⟨rfl, rfl⟩
    refine g_aload_n dX2_takeRow_105 rfl rfl ?_
    refine g_iload dX2_takeRow_106 rfl ?_
    refine g_iconst (v := 2) dX2_takeRow_108 (by decide) ?_
    refine g_iadd dX2_takeRow_109 ?_
    refine g_bipush (v := 8) dX2_takeRow_110 (by decide) ?_
    refine cV2N (fun _ _ => rfl) dX2_takeRow_112 mlX2_113 imX1_number seX1_number rfl rfl (c_number _ _ 8 (by decide)) (by decide) (Nat.le_of_ble_eq_true rfl) (Nat.le_of_ble_eq_true rfl) (Nat.le_of_ble_eq_true rfl) ?_
    rintro _ _ ⟨rfl, rfl⟩
    refine cV20 (fun _ _ => rfl) dX2_takeRow_115 mlX2_144 imX2_takeAnswer seX2_takeAnswer rfl rfl (c_takeAnswer4 _ _ _) (by decide) (Nat.le_of_ble_eq_true rfl) (Nat.le_of_ble_eq_true rfl) (Nat.le_of_ble_eq_true rfl) ?_
    rintro S1 hS1
    refine g_goto (tgt := 127) dX2_takeRow_118 (by decide) ?_
    refine g_aload_n dX2_takeRow_127 rfl rfl ?_
    refine g_dup dX2_takeRow_128 rfl ?_
    refine g_get dX2_takeRow_129 flX2_58 rfl rfl ?_
    refine g_iconst (v := 1) dX2_takeRow_132 (by decide) ?_
    refine g_iadd dX2_takeRow_133 ?_
    refine p_put dX2_takeRow_134 fpX2_58 rfl (Nat.le_of_ble_eq_true rfl) (fun _ => rfl) (fun _ => rfl) (by with_reducible first | exact wS_4_10 _ _ _ | exact wS_14_10 _ _ _) ?_
    refine g_aload_n dX2_takeRow_137 rfl rfl ?_
    refine g_dup dX2_takeRow_138 rfl ?_
    refine g_get dX2_takeRow_139 flX2_61 rfl rfl ?_
    refine g_bipush (v := 12) dX2_takeRow_142 (by decide) ?_
    refine g_iload_n dX2_takeRow_144 rfl rfl ?_
    refine cS1N (fun _ _ => rfl) dX2_takeRow_145 mlX2_106 isX4_sizeOf (c_sizeOf _ _) (by decide) (Nat.le_of_ble_eq_true rfl) (Nat.le_of_ble_eq_true rfl) (Nat.le_of_ble_eq_true rfl) ?_
    rintro _ _ ⟨⟨rs, rfl⟩, rfl⟩
    refine g_iadd dX2_takeRow_148 ?_
    refine g_iadd dX2_takeRow_149 ?_
    refine p_put dX2_takeRow_150 fpX2_61 rfl (Nat.le_of_ble_eq_true rfl) (fun _ => rfl) (fun _ => rfl) (by with_reducible first | exact wS_4_11 _ _ _ | exact wS_14_11 _ _ _) ?_
    refine g_vret dX2_takeRow_153 rfl ⟨_, rfl, rfl, ?_⟩
    first | exact ⟨Cl.s (Cl.s hS1.1 (by decide) (by decide)) (by decide) (by decide), fun _ => (mS_ne (by decide)).trans ((mS_ne (by decide)).trans hS1.2)⟩ | exact ⟨Cl.s (Cl.s hS1 (by decide) (by decide)) (by decide) (by decide), fun z => absurd (Int32.toInt_inj.mp (htv rfl)) z⟩
  · refine g_aload_n dX2_takeRow_121 rfl rfl ?_
    refine g_iload dX2_takeRow_122 rfl ?_
    refine cV10 (fun _ _ => rfl) dX2_takeRow_124 mlX2_148 imX2_takeDrop seX2_takeDrop rfl rfl (c_takeDrop4 _ _) (by decide) (Nat.le_of_ble_eq_true rfl) (Nat.le_of_ble_eq_true rfl) (Nat.le_of_ble_eq_true rfl) ?_
    rintro S1 hS1
    refine g_aload_n dX2_takeRow_127 rfl rfl ?_
    refine g_dup dX2_takeRow_128 rfl ?_
    refine g_get dX2_takeRow_129 flX2_58 rfl rfl ?_
    refine g_iconst (v := 1) dX2_takeRow_132 (by decide) ?_
    refine g_iadd dX2_takeRow_133 ?_
    refine p_put dX2_takeRow_134 fpX2_58 rfl (Nat.le_of_ble_eq_true rfl) (fun _ => rfl) (fun _ => rfl) (by with_reducible first | exact wS_4_10 _ _ _ | exact wS_14_10 _ _ _) ?_
    refine g_aload_n dX2_takeRow_137 rfl rfl ?_
    refine g_dup dX2_takeRow_138 rfl ?_
    refine g_get dX2_takeRow_139 flX2_61 rfl rfl ?_
    refine g_bipush (v := 12) dX2_takeRow_142 (by decide) ?_
    refine g_iload_n dX2_takeRow_144 rfl rfl ?_
    refine cS1N (fun _ _ => rfl) dX2_takeRow_145 mlX2_106 isX4_sizeOf (c_sizeOf _ _) (by decide) (Nat.le_of_ble_eq_true rfl) (Nat.le_of_ble_eq_true rfl) (Nat.le_of_ble_eq_true rfl) ?_
    rintro _ _ ⟨⟨rs, rfl⟩, rfl⟩
    refine g_iadd dX2_takeRow_148 ?_
    refine g_iadd dX2_takeRow_149 ?_
    refine p_put dX2_takeRow_150 fpX2_61 rfl (Nat.le_of_ble_eq_true rfl) (fun _ => rfl) (fun _ => rfl) (by with_reducible first | exact wS_4_11 _ _ _ | exact wS_14_11 _ _ _) ?_
    refine g_vret dX2_takeRow_153 rfl ⟨_, rfl, rfl, ?_⟩
    first | exact ⟨Cl.s (Cl.s hS1.1 (by decide) (by decide)) (by decide) (by decide), fun _ => (mS_ne (by decide)).trans ((mS_ne (by decide)).trans hS1.2)⟩ | exact ⟨Cl.s (Cl.s hS1 (by decide) (by decide)) (by decide) (by decide), fun z => absurd (Int32.toInt_inj.mp (htv rfl)) z⟩
set_option maxRecDepth 100000 in
set_option maxHeartbeats 4000000 in
theorem c_isChange14 (S : gS) (x y z : Int32) : gCt MX2_isChange (1, 40) 0 0 [.ref 14, .int x, .int y, .int z] (wOf τ S) (gN (wOf τ) fun v S' => (∃ r : Int32, v = .int r ∧ (r = 0 ∨ r = 1)) ∧ S = S') := by
  refine gCt.of (ls := [some (.ref 14), some (.int x), some (.int y), some (.int z)]) 0 (by decide) rfl (Nat.le_of_ble_eq_true rfl) ?_
  refine g_iload_n dX2_isChange_0 rfl rfl ?_
  refine g_bipush (v := 64) dX2_isChange_1 (by decide) ?_
  refine g_icmp_ge (tgt := 36) dX2_isChange_3 (by decide) (fun c3 => ?_) (fun c3 => ?_)
  · refine g_iconst (v := 0) dX2_isChange_36 (by decide) ?_
    refine g_zret dX2_isChange_37 rfl (by first | rfl | assumption) ⟨_, _, rfl, rfl, ?_⟩
    first | exact ⟨⟨_, rfl, Or.inl rfl⟩, rfl⟩ | exact ⟨⟨_, rfl, Or.inr rfl⟩, rfl⟩ | exact ⟨⟨_, rfl, ht01⟩, rfl⟩
  · refine g_iload_n dX2_isChange_6 rfl rfl ?_
    refine g_bipush (v := 64) dX2_isChange_7 (by decide) ?_
    refine g_icmp_ge (tgt := 36) dX2_isChange_9 (by decide) (fun c9 => ?_) (fun c9 => ?_)
    · refine g_iconst (v := 0) dX2_isChange_36 (by decide) ?_
      refine g_zret dX2_isChange_37 rfl (by first | rfl | assumption) ⟨_, _, rfl, rfl, ?_⟩
      first | exact ⟨⟨_, rfl, Or.inl rfl⟩, rfl⟩ | exact ⟨⟨_, rfl, Or.inr rfl⟩, rfl⟩ | exact ⟨⟨_, rfl, ht01⟩, rfl⟩
    · refine g_iload_n dX2_isChange_12 rfl rfl ?_
      refine g_iconst (v := 1) dX2_isChange_13 (by decide) ?_
      refine g_icmp_gt (tgt := 36) dX2_isChange_14 (by decide) (fun c14 => ?_) (fun c14 => ?_)
      · refine g_iconst (v := 0) dX2_isChange_36 (by decide) ?_
        refine g_zret dX2_isChange_37 rfl (by first | rfl | assumption) ⟨_, _, rfl, rfl, ?_⟩
        first | exact ⟨⟨_, rfl, Or.inl rfl⟩, rfl⟩ | exact ⟨⟨_, rfl, Or.inr rfl⟩, rfl⟩ | exact ⟨⟨_, rfl, ht01⟩, rfl⟩
      · refine g_aload_n dX2_isChange_17 rfl rfl ?_
        refine g_iload_n dX2_isChange_18 rfl rfl ?_
        refine cV1N (fun _ _ => rfl) dX2_isChange_19 mlX2_68 imX2_edgesOfNow seX2_edgesOfNow rfl rfl (c_edgesOfNow14 _ _) (by decide) (Nat.le_of_ble_eq_true rfl) (Nat.le_of_ble_eq_true rfl) (Nat.le_of_ble_eq_true rfl) ?_
        rintro _ _ ⟨⟨en, rfl, hen⟩, rfl⟩
        refine g_iload_n dX2_isChange_22 rfl rfl ?_
        refine g_lushr dX2_isChange_23 ?_
        refine g_lconst (v := 1) dX2_isChange_24 (by decide) ?_
        refine g_land dX2_isChange_25 ?_
        refine g_iload_n dX2_isChange_26 rfl rfl ?_
        refine g_i2l dX2_isChange_27 ?_
        refine g_lcmp dX2_isChange_28 ?_
        refine g_if_eq (tgt := 36) dX2_isChange_29 (by decide) (fun c29 => ?_) (fun c29 => ?_)
        · refine g_iconst (v := 0) dX2_isChange_36 (by decide) ?_
          refine g_zret dX2_isChange_37 rfl (by first | rfl | assumption) ⟨_, _, rfl, rfl, ?_⟩
          first | exact ⟨⟨_, rfl, Or.inl rfl⟩, rfl⟩ | exact ⟨⟨_, rfl, Or.inr rfl⟩, rfl⟩ | exact ⟨⟨_, rfl, ht01⟩, rfl⟩
        · refine g_iconst (v := 1) dX2_isChange_32 (by decide) ?_
          refine g_goto (tgt := 37) dX2_isChange_33 (by decide) ?_
          refine g_zret dX2_isChange_37 rfl (by first | rfl | assumption) ⟨_, _, rfl, rfl, ?_⟩
          first | exact ⟨⟨_, rfl, Or.inl rfl⟩, rfl⟩ | exact ⟨⟨_, rfl, Or.inr rfl⟩, rfl⟩ | exact ⟨⟨_, rfl, ht01⟩, rfl⟩
set_option maxRecDepth 100000 in
set_option maxHeartbeats 4000000 in
theorem l_haveCome14 (S : gS) (t : Int32) : ∀ (m i : Nat), i + m = 8 → G MX2_haveCome (2, 66) 2 [some (.ref 14), some (.ref 1), some (.int t), some (.int (nI i))] [] (wOf τ S) 0 0 (gN (wOf τ) fun v S' => (∃ r : Int32, v = .int r ∧ (r = 0 ∨ r = 1)) ∧ S = S') := by
  intro m
  induction m with
  | zero =>
    intro i hi
    obtain rfl : i = 8 := by omega
    refine g_iload_n dX2_haveCome_2 rfl rfl ?_
    refine g_bipush (v := 8) dX2_haveCome_3 (by decide) ?_
    refine g_icmp_ge (tgt := 38) dX2_haveCome_5 (by decide) (fun c5 => ?_) (fun c5 => ?_)
    · refine g_iconst (v := 1) dX2_haveCome_38 (by decide) ?_
      refine g_zret dX2_haveCome_39 rfl (by first | rfl | assumption) ⟨_, _, rfl, rfl, ?_⟩
      first | exact ⟨⟨_, rfl, Or.inl rfl⟩, rfl⟩ | exact ⟨⟨_, rfl, Or.inr rfl⟩, rfl⟩ | exact ⟨⟨_, rfl, ht01⟩, rfl⟩
    · exact absurd (show (8 : Int32) ≤ nI 8 by decide) c5
  | succ m ih =>
    intro i hi
    refine g_iload_n dX2_haveCome_2 rfl rfl ?_
    refine g_bipush (v := 8) dX2_haveCome_3 (by decide) ?_
    refine g_icmp_ge (tgt := 38) dX2_haveCome_5 (by decide) (fun c5 => ?_) (fun c5 => ?_)
    · refine g_iconst (v := 1) dX2_haveCome_38 (by decide) ?_
      refine g_zret dX2_haveCome_39 rfl (by first | rfl | assumption) ⟨_, _, rfl, rfl, ?_⟩
      first | exact ⟨⟨_, rfl, Or.inl rfl⟩, rfl⟩ | exact ⟨⟨_, rfl, Or.inr rfl⟩, rfl⟩ | exact ⟨⟨_, rfl, ht01⟩, rfl⟩
    · refine g_aload_n dX2_haveCome_8 rfl rfl ?_
      refine g_get dX2_haveCome_9 flX2_18 rfl rfl ?_
      refine g_aload_n dX2_haveCome_12 rfl rfl ?_
      refine g_iload_n dX2_haveCome_13 rfl rfl ?_
      refine g_iconst (v := 2) dX2_haveCome_14 (by decide) ?_
      refine g_iload_n dX2_haveCome_15 rfl rfl ?_
      refine g_imul dX2_haveCome_16 ?_
      refine g_iadd dX2_haveCome_17 ?_
      refine g_iconst (v := 2) dX2_haveCome_18 (by decide) ?_
      refine cV2N (fun _ _ => rfl) dX2_haveCome_19 mlX2_113 imX1_number seX1_number rfl rfl (c_number _ _ 2 (by decide)) (by decide) (Nat.le_of_ble_eq_true rfl) (Nat.le_of_ble_eq_true rfl) (Nat.le_of_ble_eq_true rfl) ?_
      rintro _ _ ⟨rfl, rfl⟩
      refine g_l2i dX2_haveCome_22 ?_
      refine cV1N (fun _ _ => rfl) dX2_haveCome_23 mlX2_120 imX0_find seX0_find rfl rfl (c_find16 _ _) (by decide) (Nat.le_of_ble_eq_true rfl) (Nat.le_of_ble_eq_true rfl) (Nat.le_of_ble_eq_true rfl) ?_
      rintro _ _ ⟨⟨rf, rfl, -⟩, rfl⟩
      refine g_iconst (v := (-1)) dX2_haveCome_26 (by decide) ?_
      refine g_icmp_ne (tgt := 32) dX2_haveCome_27 (by decide) (fun c27 => ?_) (fun c27 => ?_)
      · refine g_iinc dX2_haveCome_32 rfl (by decide) (by first | exact gi_1 _ | exact gi_p _) ?_
        refine g_goto (tgt := 2) dX2_haveCome_35 (by decide) ?_
        exact ih (i + 1) (by omega)
      · refine g_iconst (v := 0) dX2_haveCome_30 (by decide) ?_
        refine g_zret dX2_haveCome_31 rfl (by first | rfl | assumption) ⟨_, _, rfl, rfl, ?_⟩
        first | exact ⟨⟨_, rfl, Or.inl rfl⟩, rfl⟩ | exact ⟨⟨_, rfl, Or.inr rfl⟩, rfl⟩ | exact ⟨⟨_, rfl, ht01⟩, rfl⟩
set_option maxRecDepth 100000 in
set_option maxHeartbeats 4000000 in
theorem c_haveCome14 (S : gS) (t : Int32) : gCt MX2_haveCome (2, 66) 0 0 [.ref 14, .ref 1, .int t] (wOf τ S) (gN (wOf τ) fun v S' => (∃ r : Int32, v = .int r ∧ (r = 0 ∨ r = 1)) ∧ S = S') := by
  refine gCt.of (ls := [some (.ref 14), some (.ref 1), some (.int t), none]) 1 (by decide) rfl (Nat.le_of_ble_eq_true rfl) ?_
  refine g_iconst (v := 0) dX2_haveCome_0 (by decide) ?_
  refine g_istore_n dX2_haveCome_1 rfl (by decide) ?_
  exact l_haveCome14 S t 8 0 rfl
set_option maxRecDepth 100000 in
set_option maxHeartbeats 4000000 in
theorem c_isTextRight14 (S : gS) (x : Int32) : gCt MX2_isTextRight (3, 90) 0 0 [.ref 14, .ref 1, .int x] (wOf τ S) (gN (wOf τ) fun v S' => (∃ r : Int32, v = .int r ∧ (r = 0 ∨ r = 1)) ∧ S = S') := by
  refine gCt.of (ls := [some (.ref 14), some (.ref 1), some (.int x), none, none]) 2 (by decide) rfl (Nat.le_of_ble_eq_true rfl) ?_
  refine g_aload_n dX2_isTextRight_0 rfl rfl ?_
  refine g_iload_n dX2_isTextRight_1 rfl rfl ?_
  refine g_iconst (v := 1) dX2_isTextRight_2 (by decide) ?_
  refine g_iadd dX2_isTextRight_3 ?_
  refine g_iconst (v := 2) dX2_isTextRight_4 (by decide) ?_
  refine cV2N (fun _ _ => rfl) dX2_isTextRight_5 mlX2_113 imX1_number seX1_number rfl rfl (c_number _ _ 2 (by decide)) (by decide) (Nat.le_of_ble_eq_true rfl) (Nat.le_of_ble_eq_true rfl) (Nat.le_of_ble_eq_true rfl) ?_
  rintro _ _ ⟨rfl, rfl⟩
  refine g_l2i dX2_isTextRight_8 ?_
  refine g_istore_n dX2_isTextRight_9 rfl (by decide) ?_
  refine g_iload_n dX2_isTextRight_10 rfl rfl ?_
  refine g_iconst (v := 4) dX2_isTextRight_11 (by decide) ?_
  refine g_iadd dX2_isTextRight_12 ?_
  refine g_istore dX2_isTextRight_13 (by decide) ?_
  refine g_aload_n dX2_isTextRight_15 rfl rfl ?_
  refine g_iload_n dX2_isTextRight_16 rfl rfl ?_
  refine cV1N (fun _ _ => rfl) dX2_isTextRight_17 mlX2_100 imX1_get seX1_get rfl rfl (c_get _ _) (by decide) (Nat.le_of_ble_eq_true rfl) (Nat.le_of_ble_eq_true rfl) (Nat.le_of_ble_eq_true rfl) ?_
  rintro _ _ ⟨rfl, rfl⟩
  refine g_tsw (ts := [56, 88, 131, 161, 207, 213]) dX2_isTextRight_20 (by decide) (fun t ht => ?_)
  simp only [List.mem_cons, List.not_mem_nil, or_false] at ht
  rcases ht with rfl | rfl | rfl | rfl | rfl | rfl
  · refine g_iload_n dX2_isTextRight_56 rfl rfl ?_
    refine g_aload_n dX2_isTextRight_57 rfl rfl ?_
    refine g_get dX2_isTextRight_58 flX2_36 rfl rfl ?_
    refine g_icmp_ge (tgt := 86) dX2_isTextRight_61 (by decide) (fun c61 => ?_) (fun c61 => ?_)
    · refine g_iconst (v := 0) dX2_isTextRight_86 (by decide) ?_
      refine g_zret dX2_isTextRight_87 rfl (by first | rfl | assumption) ⟨_, _, rfl, rfl, ?_⟩
      first | exact ⟨⟨_, rfl, Or.inl rfl⟩, rfl⟩ | exact ⟨⟨_, rfl, Or.inr rfl⟩, rfl⟩ | exact ⟨⟨_, rfl, ht01⟩, rfl⟩
    · refine g_aload_n dX2_isTextRight_64 rfl rfl ?_
      refine g_get dX2_isTextRight_65 flX2_18 rfl rfl ?_
      refine g_aload_n dX2_isTextRight_68 rfl rfl ?_
      refine g_get dX2_isTextRight_69 flX2_18 rfl rfl ?_
      refine g_iload_n dX2_isTextRight_72 rfl rfl ?_
      refine cV1N (fun _ _ => rfl) dX2_isTextRight_73 mlX2_120 imX0_find seX0_find rfl rfl (c_find16 _ _) (by decide) (Nat.le_of_ble_eq_true rfl) (Nat.le_of_ble_eq_true rfl) (Nat.le_of_ble_eq_true rfl) ?_
      rintro _ _ ⟨⟨rf, rfl, -⟩, rfl⟩
      refine cV1N (fun _ _ => rfl) dX2_isTextRight_76 mlX2_123 imX0_namesOf seX0_namesOf rfl rfl (c_namesOf16 _ _) (by decide) (Nat.le_of_ble_eq_true rfl) (Nat.le_of_ble_eq_true rfl) (Nat.le_of_ble_eq_true rfl) ?_
      rintro _ _ ⟨⟨rn, rfl, -⟩, rfl⟩
      refine g_if_ne (tgt := 86) dX2_isTextRight_79 (by decide) (fun c79 => ?_) (fun c79 => ?_)
      · refine g_iconst (v := 0) dX2_isTextRight_86 (by decide) ?_
        refine g_zret dX2_isTextRight_87 rfl (by first | rfl | assumption) ⟨_, _, rfl, rfl, ?_⟩
        first | exact ⟨⟨_, rfl, Or.inl rfl⟩, rfl⟩ | exact ⟨⟨_, rfl, Or.inr rfl⟩, rfl⟩ | exact ⟨⟨_, rfl, ht01⟩, rfl⟩
      · refine g_iconst (v := 1) dX2_isTextRight_82 (by decide) ?_
        refine g_goto (tgt := 87) dX2_isTextRight_83 (by decide) ?_
        refine g_zret dX2_isTextRight_87 rfl (by first | rfl | assumption) ⟨_, _, rfl, rfl, ?_⟩
        first | exact ⟨⟨_, rfl, Or.inl rfl⟩, rfl⟩ | exact ⟨⟨_, rfl, Or.inr rfl⟩, rfl⟩ | exact ⟨⟨_, rfl, ht01⟩, rfl⟩
  · refine g_iload_n dX2_isTextRight_88 rfl rfl ?_
    refine g_aload_n dX2_isTextRight_89 rfl rfl ?_
    refine g_get dX2_isTextRight_90 flX2_49 rfl rfl ?_
    refine g_icmp_ne (tgt := 129) dX2_isTextRight_93 (by decide) (fun c93 => ?_) (fun c93 => ?_)
    · refine g_iconst (v := 0) dX2_isTextRight_129 (by decide) ?_
      refine g_zret dX2_isTextRight_130 rfl (by first | rfl | assumption) ⟨_, _, rfl, rfl, ?_⟩
      first | exact ⟨⟨_, rfl, Or.inl rfl⟩, rfl⟩ | exact ⟨⟨_, rfl, Or.inr rfl⟩, rfl⟩ | exact ⟨⟨_, rfl, ht01⟩, rfl⟩
    · refine g_aload_n dX2_isTextRight_96 rfl rfl ?_
      refine g_aload_n dX2_isTextRight_97 rfl rfl ?_
      refine g_iload dX2_isTextRight_98 rfl ?_
      refine cV1N (fun _ _ => rfl) dX2_isTextRight_100 mlX2_100 imX1_get seX1_get rfl rfl (c_get _ _) (by decide) (Nat.le_of_ble_eq_true rfl) (Nat.le_of_ble_eq_true rfl) (Nat.le_of_ble_eq_true rfl) ?_
      rintro _ _ ⟨rfl, rfl⟩
      refine g_aload_n dX2_isTextRight_103 rfl rfl ?_
      refine g_iload dX2_isTextRight_104 rfl ?_
      refine g_iconst (v := 1) dX2_isTextRight_106 (by decide) ?_
      refine g_iadd dX2_isTextRight_107 ?_
      refine cV1N (fun _ _ => rfl) dX2_isTextRight_108 mlX2_100 imX1_get seX1_get rfl rfl (c_get _ _) (by decide) (Nat.le_of_ble_eq_true rfl) (Nat.le_of_ble_eq_true rfl) (Nat.le_of_ble_eq_true rfl) ?_
      rintro _ _ ⟨rfl, rfl⟩
      refine g_aload_n dX2_isTextRight_111 rfl rfl ?_
      refine g_iload dX2_isTextRight_112 rfl ?_
      refine g_iconst (v := 2) dX2_isTextRight_114 (by decide) ?_
      refine g_iadd dX2_isTextRight_115 ?_
      refine cV1N (fun _ _ => rfl) dX2_isTextRight_116 mlX2_100 imX1_get seX1_get rfl rfl (c_get _ _) (by decide) (Nat.le_of_ble_eq_true rfl) (Nat.le_of_ble_eq_true rfl) (Nat.le_of_ble_eq_true rfl) ?_
      rintro _ _ ⟨rfl, rfl⟩
      refine cV3N (fun _ _ => rfl) dX2_isTextRight_119 mlX2_126 imX2_isChange seX2_isChange rfl rfl (c_isChange14 _ _ _ _) (by decide) (Nat.le_of_ble_eq_true rfl) (Nat.le_of_ble_eq_true rfl) (Nat.le_of_ble_eq_true rfl) ?_
      rintro _ _ ⟨⟨rc, rfl, -⟩, rfl⟩
      refine g_if_eq (tgt := 129) dX2_isTextRight_122 (by decide) (fun c122 => ?_) (fun c122 => ?_)
      · refine g_iconst (v := 0) dX2_isTextRight_129 (by decide) ?_
        refine g_zret dX2_isTextRight_130 rfl (by first | rfl | assumption) ⟨_, _, rfl, rfl, ?_⟩
        first | exact ⟨⟨_, rfl, Or.inl rfl⟩, rfl⟩ | exact ⟨⟨_, rfl, Or.inr rfl⟩, rfl⟩ | exact ⟨⟨_, rfl, ht01⟩, rfl⟩
      · refine g_iconst (v := 1) dX2_isTextRight_125 (by decide) ?_
        refine g_goto (tgt := 130) dX2_isTextRight_126 (by decide) ?_
        refine g_zret dX2_isTextRight_130 rfl (by first | rfl | assumption) ⟨_, _, rfl, rfl, ?_⟩
        first | exact ⟨⟨_, rfl, Or.inl rfl⟩, rfl⟩ | exact ⟨⟨_, rfl, Or.inr rfl⟩, rfl⟩ | exact ⟨⟨_, rfl, ht01⟩, rfl⟩
  · refine g_iload_n dX2_isTextRight_131 rfl rfl ?_
    refine g_aload_n dX2_isTextRight_132 rfl rfl ?_
    refine g_get dX2_isTextRight_133 flX2_52 rfl rfl ?_
    refine g_icmp_ne (tgt := 159) dX2_isTextRight_136 (by decide) (fun c136 => ?_) (fun c136 => ?_)
    · refine g_iconst (v := 0) dX2_isTextRight_159 (by decide) ?_
      refine g_zret dX2_isTextRight_160 rfl (by first | rfl | assumption) ⟨_, _, rfl, rfl, ?_⟩
      first | exact ⟨⟨_, rfl, Or.inl rfl⟩, rfl⟩ | exact ⟨⟨_, rfl, Or.inr rfl⟩, rfl⟩ | exact ⟨⟨_, rfl, ht01⟩, rfl⟩
    · refine g_iload_n dX2_isTextRight_139 rfl rfl ?_
      refine g_bipush (v := 100) dX2_isTextRight_140 (by decide) ?_
      refine g_icmp_ge (tgt := 159) dX2_isTextRight_142 (by decide) (fun c142 => ?_) (fun c142 => ?_)
      · refine g_iconst (v := 0) dX2_isTextRight_159 (by decide) ?_
        refine g_zret dX2_isTextRight_160 rfl (by first | rfl | assumption) ⟨_, _, rfl, rfl, ?_⟩
        first | exact ⟨⟨_, rfl, Or.inl rfl⟩, rfl⟩ | exact ⟨⟨_, rfl, Or.inr rfl⟩, rfl⟩ | exact ⟨⟨_, rfl, ht01⟩, rfl⟩
      · refine g_aload_n dX2_isTextRight_145 rfl rfl ?_
        refine g_aload_n dX2_isTextRight_146 rfl rfl ?_
        refine g_iload dX2_isTextRight_147 rfl ?_
        refine cV2N (fun _ _ => rfl) dX2_isTextRight_149 mlX2_130 imX2_haveCome seX2_haveCome rfl rfl (c_haveCome14 _ _) (by decide) (Nat.le_of_ble_eq_true rfl) (Nat.le_of_ble_eq_true rfl) (Nat.le_of_ble_eq_true rfl) ?_
        rintro _ _ ⟨⟨rh, rfl, -⟩, rfl⟩
        refine g_if_eq (tgt := 159) dX2_isTextRight_152 (by decide) (fun c152 => ?_) (fun c152 => ?_)
        · refine g_iconst (v := 0) dX2_isTextRight_159 (by decide) ?_
          refine g_zret dX2_isTextRight_160 rfl (by first | rfl | assumption) ⟨_, _, rfl, rfl, ?_⟩
          first | exact ⟨⟨_, rfl, Or.inl rfl⟩, rfl⟩ | exact ⟨⟨_, rfl, Or.inr rfl⟩, rfl⟩ | exact ⟨⟨_, rfl, ht01⟩, rfl⟩
        · refine g_iconst (v := 1) dX2_isTextRight_155 (by decide) ?_
          refine g_goto (tgt := 160) dX2_isTextRight_156 (by decide) ?_
          refine g_zret dX2_isTextRight_160 rfl (by first | rfl | assumption) ⟨_, _, rfl, rfl, ?_⟩
          first | exact ⟨⟨_, rfl, Or.inl rfl⟩, rfl⟩ | exact ⟨⟨_, rfl, Or.inr rfl⟩, rfl⟩ | exact ⟨⟨_, rfl, ht01⟩, rfl⟩
  · refine g_iload_n dX2_isTextRight_161 rfl rfl ?_
    refine g_aload_n dX2_isTextRight_162 rfl rfl ?_
    refine g_get dX2_isTextRight_163 flX2_55 rfl rfl ?_
    refine g_icmp_ne (tgt := 205) dX2_isTextRight_166 (by decide) (fun c166 => ?_) (fun c166 => ?_)
    · refine g_iconst (v := 0) dX2_isTextRight_205 (by decide) ?_
      refine g_zret dX2_isTextRight_206 rfl (by first | rfl | assumption) ⟨_, _, rfl, rfl, ?_⟩
      first | exact ⟨⟨_, rfl, Or.inl rfl⟩, rfl⟩ | exact ⟨⟨_, rfl, Or.inr rfl⟩, rfl⟩ | exact ⟨⟨_, rfl, ht01⟩, rfl⟩
    · refine g_iload_n dX2_isTextRight_169 rfl rfl ?_
      refine g_bipush (v := 100) dX2_isTextRight_170 (by decide) ?_
      refine g_icmp_ge (tgt := 205) dX2_isTextRight_172 (by decide) (fun c172 => ?_) (fun c172 => ?_)
      · refine g_iconst (v := 0) dX2_isTextRight_205 (by decide) ?_
        refine g_zret dX2_isTextRight_206 rfl (by first | rfl | assumption) ⟨_, _, rfl, rfl, ?_⟩
        first | exact ⟨⟨_, rfl, Or.inl rfl⟩, rfl⟩ | exact ⟨⟨_, rfl, Or.inr rfl⟩, rfl⟩ | exact ⟨⟨_, rfl, ht01⟩, rfl⟩
      · refine g_aload_n dX2_isTextRight_175 rfl rfl ?_
        refine g_aload_n dX2_isTextRight_176 rfl rfl ?_
        refine g_iload dX2_isTextRight_177 rfl ?_
        refine cV1N (fun _ _ => rfl) dX2_isTextRight_179 mlX2_100 imX1_get seX1_get rfl rfl (c_get _ _) (by decide) (Nat.le_of_ble_eq_true rfl) (Nat.le_of_ble_eq_true rfl) (Nat.le_of_ble_eq_true rfl) ?_
        rintro _ _ ⟨rfl, rfl⟩
        refine cV1N (fun _ _ => rfl) dX2_isTextRight_182 mlX2_64 imX2_isThere seX2_isThere rfl rfl (c_isThere14 _ _) (by decide) (Nat.le_of_ble_eq_true rfl) (Nat.le_of_ble_eq_true rfl) (Nat.le_of_ble_eq_true rfl) ?_
        rintro _ _ ⟨⟨rt, rfl, ht01, ht⟩, rfl⟩
        refine g_if_eq (tgt := 205) dX2_isTextRight_185 (by decide) (fun c185 => ?_) (fun c185 => ?_)
        · refine g_iconst (v := 0) dX2_isTextRight_205 (by decide) ?_
          refine g_zret dX2_isTextRight_206 rfl (by first | rfl | assumption) ⟨_, _, rfl, rfl, ?_⟩
          first | exact ⟨⟨_, rfl, Or.inl rfl⟩, rfl⟩ | exact ⟨⟨_, rfl, Or.inr rfl⟩, rfl⟩ | exact ⟨⟨_, rfl, ht01⟩, rfl⟩
        · refine g_aload_n dX2_isTextRight_188 rfl rfl ?_
          refine g_iload dX2_isTextRight_189 rfl ?_
          refine g_iconst (v := 1) dX2_isTextRight_191 (by decide) ?_
          refine g_iadd dX2_isTextRight_192 ?_
          refine cV1N (fun _ _ => rfl) dX2_isTextRight_193 mlX2_100 imX1_get seX1_get rfl rfl (c_get _ _) (by decide) (Nat.le_of_ble_eq_true rfl) (Nat.le_of_ble_eq_true rfl) (Nat.le_of_ble_eq_true rfl) ?_
          rintro _ _ ⟨rfl, rfl⟩
          refine g_bipush (v := 64) dX2_isTextRight_196 (by decide) ?_
          refine g_icmp_ge (tgt := 205) dX2_isTextRight_198 (by decide) (fun c198 => ?_) (fun c198 => ?_)
          · refine g_iconst (v := 0) dX2_isTextRight_205 (by decide) ?_
            refine g_zret dX2_isTextRight_206 rfl (by first | rfl | assumption) ⟨_, _, rfl, rfl, ?_⟩
            first | exact ⟨⟨_, rfl, Or.inl rfl⟩, rfl⟩ | exact ⟨⟨_, rfl, Or.inr rfl⟩, rfl⟩ | exact ⟨⟨_, rfl, ht01⟩, rfl⟩
          · refine g_iconst (v := 1) dX2_isTextRight_201 (by decide) ?_
            refine g_goto (tgt := 206) dX2_isTextRight_202 (by decide) ?_
            refine g_zret dX2_isTextRight_206 rfl (by first | rfl | assumption) ⟨_, _, rfl, rfl, ?_⟩
            first | exact ⟨⟨_, rfl, Or.inl rfl⟩, rfl⟩ | exact ⟨⟨_, rfl, Or.inr rfl⟩, rfl⟩ | exact ⟨⟨_, rfl, ht01⟩, rfl⟩
  · refine g_aload_n dX2_isTextRight_207 rfl rfl ?_
    refine g_iload_n dX2_isTextRight_208 rfl rfl ?_
    refine cV1N (fun _ _ => rfl) dX2_isTextRight_209 mlX2_64 imX2_isThere seX2_isThere rfl rfl (c_isThere14 _ _) (by decide) (Nat.le_of_ble_eq_true rfl) (Nat.le_of_ble_eq_true rfl) (Nat.le_of_ble_eq_true rfl) ?_
    rintro _ _ ⟨⟨rt, rfl, ht01, ht⟩, rfl⟩
    refine g_zret dX2_isTextRight_212 rfl (by rcases ht01 with rfl | rfl <;> rfl) ⟨_, _, rfl, rfl, ?_⟩
    first | exact ⟨⟨_, rfl, Or.inl rfl⟩, rfl⟩ | exact ⟨⟨_, rfl, Or.inr rfl⟩, rfl⟩ | exact ⟨⟨_, rfl, ht01⟩, rfl⟩
  · refine g_iconst (v := 0) dX2_isTextRight_213 (by decide) ?_
    refine g_zret dX2_isTextRight_214 rfl (by first | rfl | assumption) ⟨_, _, rfl, rfl, ?_⟩
    first | exact ⟨⟨_, rfl, Or.inl rfl⟩, rfl⟩ | exact ⟨⟨_, rfl, Or.inr rfl⟩, rfl⟩ | exact ⟨⟨_, rfl, ht01⟩, rfl⟩
set_option maxRecDepth 100000 in
set_option maxHeartbeats 4000000 in
theorem c_isRowRight14 (S : gS) (x y : Int32) : gCt MX2_isRowRight (4, 120) 0 0 [.ref 14, .ref 1, .int x, .int y] (wOf τ S) (gN (wOf τ) fun v S' => (∃ r : Int32, v = .int r ∧ (r = 0 ∨ r = 1)) ∧ S = S') := by
  refine gCt.of (ls := [some (.ref 14), some (.ref 1), some (.int x), some (.int y), none, none]) 2 (by decide) rfl (Nat.le_of_ble_eq_true rfl) ?_
  refine g_aload_n dX2_isRowRight_0 rfl rfl ?_
  refine g_iload_n dX2_isRowRight_1 rfl rfl ?_
  refine cV1N (fun _ _ => rfl) dX2_isRowRight_2 mlX2_100 imX1_get seX1_get rfl rfl (c_get _ _) (by decide) (Nat.le_of_ble_eq_true rfl) (Nat.le_of_ble_eq_true rfl) (Nat.le_of_ble_eq_true rfl) ?_
  rintro _ _ ⟨rfl, rfl⟩
  refine cS1N (fun _ _ => rfl) dX2_isRowRight_5 mlX2_106 isX4_sizeOf (c_sizeOf _ _) (by decide) (Nat.le_of_ble_eq_true rfl) (Nat.le_of_ble_eq_true rfl) (Nat.le_of_ble_eq_true rfl) ?_
  rintro _ _ ⟨⟨rs, rfl⟩, rfl⟩
  refine g_istore dX2_isRowRight_8 (by decide) ?_
  refine g_iload_n dX2_isRowRight_10 rfl rfl ?_
  refine g_iconst (v := 4) dX2_isRowRight_11 (by decide) ?_
  refine g_iadd dX2_isRowRight_12 ?_
  refine g_iload dX2_isRowRight_13 rfl ?_
  refine g_iadd dX2_isRowRight_15 ?_
  refine g_istore dX2_isRowRight_16 (by decide) ?_
  refine g_iload dX2_isRowRight_18 rfl ?_
  refine g_iconst (v := (-1)) dX2_isRowRight_20 (by decide) ?_
  refine g_icmp_eq (tgt := 45) dX2_isRowRight_21 (by decide) (fun c21 => ?_) (fun c21 => ?_)
  · refine g_iconst (v := 0) dX2_isRowRight_45 (by decide) ?_
    refine g_zret dX2_isRowRight_46 rfl (by first | rfl | assumption) ⟨_, _, rfl, rfl, ?_⟩
    first | exact ⟨⟨_, rfl, Or.inl rfl⟩, rfl⟩ | exact ⟨⟨_, rfl, Or.inr rfl⟩, rfl⟩ | exact ⟨⟨_, rfl, ht01⟩, rfl⟩
  · refine g_iload dX2_isRowRight_24 rfl ?_
    refine g_bipush (v := 8) dX2_isRowRight_26 (by decide) ?_
    refine g_iadd dX2_isRowRight_28 ?_
    refine g_iload_n dX2_isRowRight_29 rfl rfl ?_
    refine g_icmp_gt (tgt := 45) dX2_isRowRight_30 (by decide) (fun c30 => ?_) (fun c30 => ?_)
    · refine g_iconst (v := 0) dX2_isRowRight_45 (by decide) ?_
      refine g_zret dX2_isRowRight_46 rfl (by first | rfl | assumption) ⟨_, _, rfl, rfl, ?_⟩
      first | exact ⟨⟨_, rfl, Or.inl rfl⟩, rfl⟩ | exact ⟨⟨_, rfl, Or.inr rfl⟩, rfl⟩ | exact ⟨⟨_, rfl, ht01⟩, rfl⟩
    · refine g_aload_n dX2_isRowRight_33 rfl rfl ?_
      refine g_iload_n dX2_isRowRight_34 rfl rfl ?_
      refine g_iconst (v := 3) dX2_isRowRight_35 (by decide) ?_
      refine g_iadd dX2_isRowRight_36 ?_
      refine cV1N (fun _ _ => rfl) dX2_isRowRight_37 mlX2_100 imX1_get seX1_get rfl rfl (c_get _ _) (by decide) (Nat.le_of_ble_eq_true rfl) (Nat.le_of_ble_eq_true rfl) (Nat.le_of_ble_eq_true rfl) ?_
      rintro _ _ ⟨rfl, rfl⟩
      refine g_iload dX2_isRowRight_40 rfl ?_
      refine g_icmp_eq (tgt := 47) dX2_isRowRight_42 (by decide) (fun c42 => ?_) (fun c42 => ?_)
      · refine g_aload_n dX2_isRowRight_47 rfl rfl ?_
        refine g_iload_n dX2_isRowRight_48 rfl rfl ?_
        refine g_iload dX2_isRowRight_49 rfl ?_
        refine g_iload_n dX2_isRowRight_51 rfl rfl ?_
        refine g_i2l dX2_isRowRight_52 ?_
        refine cV3N (fun _ _ => rfl) dX2_isRowRight_53 mlX2_109 imX1_sum seX1_sum rfl rfl (c_sum _ _ _ _) (by decide) (Nat.le_of_ble_eq_true rfl) (Nat.le_of_ble_eq_true rfl) (Nat.le_of_ble_eq_true rfl) ?_
        rintro _ _ ⟨rfl, rfl⟩
        refine g_aload_n dX2_isRowRight_56 rfl rfl ?_
        refine g_iload dX2_isRowRight_57 rfl ?_
        refine g_bipush (v := 8) dX2_isRowRight_59 (by decide) ?_
        refine cV2N (fun _ _ => rfl) dX2_isRowRight_61 mlX2_113 imX1_number seX1_number rfl rfl (c_number _ _ 8 (by decide)) (by decide) (Nat.le_of_ble_eq_true rfl) (Nat.le_of_ble_eq_true rfl) (Nat.le_of_ble_eq_true rfl) ?_
        rintro _ _ ⟨rfl, rfl⟩
        refine g_lcmp dX2_isRowRight_64 ?_
        refine g_if_ne (tgt := 81) dX2_isRowRight_65 (by decide) (fun c65 => ?_) (fun c65 => ?_)
        · refine g_iconst (v := 0) dX2_isRowRight_81 (by decide) ?_
          refine g_zret dX2_isRowRight_82 rfl (by first | rfl | assumption) ⟨_, _, rfl, rfl, ?_⟩
          first | exact ⟨⟨_, rfl, Or.inl rfl⟩, rfl⟩ | exact ⟨⟨_, rfl, Or.inr rfl⟩, rfl⟩ | exact ⟨⟨_, rfl, ht01⟩, rfl⟩
        · refine g_aload_n dX2_isRowRight_68 rfl rfl ?_
          refine g_aload_n dX2_isRowRight_69 rfl rfl ?_
          refine g_iload_n dX2_isRowRight_70 rfl rfl ?_
          refine cV2N (fun _ _ => rfl) dX2_isRowRight_71 mlX2_116 imX2_isTextRight seX2_isTextRight rfl rfl (c_isTextRight14 _ _) (by decide) (Nat.le_of_ble_eq_true rfl) (Nat.le_of_ble_eq_true rfl) (Nat.le_of_ble_eq_true rfl) ?_
          rintro _ _ ⟨⟨rtx, rfl, -⟩, rfl⟩
          refine g_if_eq (tgt := 81) dX2_isRowRight_74 (by decide) (fun c74 => ?_) (fun c74 => ?_)
          · refine g_iconst (v := 0) dX2_isRowRight_81 (by decide) ?_
            refine g_zret dX2_isRowRight_82 rfl (by first | rfl | assumption) ⟨_, _, rfl, rfl, ?_⟩
            first | exact ⟨⟨_, rfl, Or.inl rfl⟩, rfl⟩ | exact ⟨⟨_, rfl, Or.inr rfl⟩, rfl⟩ | exact ⟨⟨_, rfl, ht01⟩, rfl⟩
          · refine g_iconst (v := 1) dX2_isRowRight_77 (by decide) ?_
            refine g_goto (tgt := 82) dX2_isRowRight_78 (by decide) ?_
            refine g_zret dX2_isRowRight_82 rfl (by first | rfl | assumption) ⟨_, _, rfl, rfl, ?_⟩
            first | exact ⟨⟨_, rfl, Or.inl rfl⟩, rfl⟩ | exact ⟨⟨_, rfl, Or.inr rfl⟩, rfl⟩ | exact ⟨⟨_, rfl, ht01⟩, rfl⟩
      · refine g_iconst (v := 0) dX2_isRowRight_45 (by decide) ?_
        refine g_zret dX2_isRowRight_46 rfl (by first | rfl | assumption) ⟨_, _, rfl, rfl, ?_⟩
        first | exact ⟨⟨_, rfl, Or.inl rfl⟩, rfl⟩ | exact ⟨⟨_, rfl, Or.inr rfl⟩, rfl⟩ | exact ⟨⟨_, rfl, ht01⟩, rfl⟩
set_option maxRecDepth 100000 in
set_option maxHeartbeats 4000000 in
theorem c_takeChange14 (S : gS) (x y : Int32) : gCt MX2_takeChange (0, 0) 0 0 [.ref 14, .int x, .int y] (wOf τ S) (g0 (wOf τ) fun S' => C8 S S') := by
  refine gCt.of (ls := [some (.ref 14), some (.int x), some (.int y)]) 0 (by decide) rfl (Nat.le_of_ble_eq_true rfl) ?_
  refine g_iload_n dX2_takeChange_0 rfl rfl ?_
  refine g_if_lt (tgt := 22) dX2_takeChange_1 (by decide) (fun c1 => ?_) (fun c1 => ?_)
  · refine g_aload_n dX2_takeChange_22 rfl rfl ?_
    refine g_dup dX2_takeChange_23 rfl ?_
    refine g_get dX2_takeChange_24 flX2_49 rfl rfl ?_
    refine g_iconst (v := 1) dX2_takeChange_27 (by decide) ?_
    refine g_iadd dX2_takeChange_28 ?_
    refine p_put dX2_takeChange_29 fpX2_49 rfl (Nat.le_of_ble_eq_true rfl) (fun _ => rfl) (fun _ => rfl) (by with_reducible first | exact wS_4_7 _ _ _ | exact wS_14_7 _ _ _) ?_
    refine g_vret dX2_takeChange_32 rfl ⟨_, rfl, rfl, ?_⟩
    repeat' (with_reducible first | exact C8.rf _ | assumption | apply C8.a | apply C8.s | apply C8.l)
    all_goals decide
  · refine g_iload_n dX2_takeChange_4 rfl rfl ?_
    refine g_bipush (v := 64) dX2_takeChange_5 (by decide) ?_
    refine g_icmp_ge (tgt := 22) dX2_takeChange_7 (by decide) (fun c7 => ?_) (fun c7 => ?_)
    · refine g_aload_n dX2_takeChange_22 rfl rfl ?_
      refine g_dup dX2_takeChange_23 rfl ?_
      refine g_get dX2_takeChange_24 flX2_49 rfl rfl ?_
      refine g_iconst (v := 1) dX2_takeChange_27 (by decide) ?_
      refine g_iadd dX2_takeChange_28 ?_
      refine p_put dX2_takeChange_29 fpX2_49 rfl (Nat.le_of_ble_eq_true rfl) (fun _ => rfl) (fun _ => rfl) (by with_reducible first | exact wS_4_7 _ _ _ | exact wS_14_7 _ _ _) ?_
      refine g_vret dX2_takeChange_32 rfl ⟨_, rfl, rfl, ?_⟩
      repeat' (with_reducible first | exact C8.rf _ | assumption | apply C8.a | apply C8.s | apply C8.l)
      all_goals decide
    · refine g_aload_n dX2_takeChange_10 rfl rfl ?_
      refine g_get dX2_takeChange_11 flX2_9 rfl rfl ?_
      refine g_iload_n dX2_takeChange_14 rfl rfl ?_
      refine g_dup2_11 dX2_takeChange_15 rfl rfl ?_
      refine g_lald dX2_takeChange_16 rfl (vin (N := 64) (by decide) c1 c7) ?_
      refine g_lconst (v := 1) dX2_takeChange_17 (by decide) ?_
      refine g_iload_n dX2_takeChange_18 rfl rfl ?_
      refine g_lshl dX2_takeChange_19 ?_
      refine g_lxor dX2_takeChange_20 ?_
      refine p_last dX2_takeChange_21 rfl (vin (N := 64) (by decide) c1 c7) (by with_reducible first | exact wA_15 _ _ _) ?_
      refine g_aload_n dX2_takeChange_22 rfl rfl ?_
      refine g_dup dX2_takeChange_23 rfl ?_
      refine g_get dX2_takeChange_24 flX2_49 rfl rfl ?_
      refine g_iconst (v := 1) dX2_takeChange_27 (by decide) ?_
      refine g_iadd dX2_takeChange_28 ?_
      refine p_put dX2_takeChange_29 fpX2_49 rfl (Nat.le_of_ble_eq_true rfl) (fun _ => rfl) (fun _ => rfl) (by with_reducible first | exact wS_4_7 _ _ _ | exact wS_14_7 _ _ _) ?_
      refine g_vret dX2_takeChange_32 rfl ⟨_, rfl, rfl, ?_⟩
      repeat' (with_reducible first | exact C8.rf _ | assumption | apply C8.a | apply C8.s | apply C8.l)
      all_goals decide
set_option maxRecDepth 100000 in
set_option maxHeartbeats 4000000 in
theorem l_hasBefore14 (S : gS) (x y : Int32) : ∀ (m i : Nat), i + m = 2 ^ 31 - 1 → G MX2_hasBefore (1, 40) 2 [some (.ref 14), some (.int x), some (.int y), some (.int (nI i))] [] (wOf τ S) 0 0 (gN (wOf τ) fun v S' => (∃ r : Int32, v = .int r ∧ (r = 0 ∨ r = 1)) ∧ S = S') := by
  intro m
  induction m with
  | zero =>
    intro i hi
    have hle : y ≤ nI i := by
      refine Classical.byContradiction fun z => ?_
      obtain ⟨j, hj, -, hij⟩ := nI_lt_of (by omega) z
      omega
    refine g_iload_n dX2_hasBefore_2 rfl rfl ?_
    refine g_iload_n dX2_hasBefore_3 rfl rfl ?_
    refine g_icmp_ge (tgt := 30) dX2_hasBefore_4 (by decide) (fun c4 => ?_) (fun c4 => ?_)
    · refine g_iconst (v := 0) dX2_hasBefore_30 (by decide) ?_
      refine g_zret dX2_hasBefore_31 rfl (by first | rfl | assumption) ⟨_, _, rfl, rfl, ?_⟩
      first | exact ⟨⟨_, rfl, Or.inl rfl⟩, rfl⟩ | exact ⟨⟨_, rfl, Or.inr rfl⟩, rfl⟩ | exact ⟨⟨_, rfl, ht01⟩, rfl⟩
    · exact absurd hle c4
  | succ m ih =>
    intro i hi
    refine g_iload_n dX2_hasBefore_2 rfl rfl ?_
    refine g_iload_n dX2_hasBefore_3 rfl rfl ?_
    refine g_icmp_ge (tgt := 30) dX2_hasBefore_4 (by decide) (fun c4 => ?_) (fun c4 => ?_)
    · refine g_iconst (v := 0) dX2_hasBefore_30 (by decide) ?_
      refine g_zret dX2_hasBefore_31 rfl (by first | rfl | assumption) ⟨_, _, rfl, rfl, ?_⟩
      first | exact ⟨⟨_, rfl, Or.inl rfl⟩, rfl⟩ | exact ⟨⟨_, rfl, Or.inr rfl⟩, rfl⟩ | exact ⟨⟨_, rfl, ht01⟩, rfl⟩
    · refine g_aload_n dX2_hasBefore_7 rfl rfl ?_
      refine g_iload_n dX2_hasBefore_8 rfl rfl ?_
      refine g_iload_n dX2_hasBefore_9 rfl rfl ?_
      refine cV2N (fun _ _ => rfl) dX2_hasBefore_10 mlX2_72 imX2_slotOf seX2_slotOf rfl rfl (c_slotOf14 _ _ _) (by decide) (Nat.le_of_ble_eq_true rfl) (Nat.le_of_ble_eq_true rfl) (Nat.le_of_ble_eq_true rfl) ?_
      rintro _ _ ⟨⟨rsl, rfl⟩, rfl⟩
      refine g_aload_n dX2_hasBefore_13 rfl rfl ?_
      refine g_iload_n dX2_hasBefore_14 rfl rfl ?_
      refine g_iload_n dX2_hasBefore_15 rfl rfl ?_
      refine cV2N (fun _ _ => rfl) dX2_hasBefore_16 mlX2_72 imX2_slotOf seX2_slotOf rfl rfl (c_slotOf14 _ _ _) (by decide) (Nat.le_of_ble_eq_true rfl) (Nat.le_of_ble_eq_true rfl) (Nat.le_of_ble_eq_true rfl) ?_
      rintro _ _ ⟨⟨rsl, rfl⟩, rfl⟩
      refine g_icmp_ne (tgt := 24) dX2_hasBefore_19 (by decide) (fun c19 => ?_) (fun c19 => ?_)
      · refine g_iinc dX2_hasBefore_24 rfl (by decide) (by first | exact gi_1 _ | exact gi_p _) ?_
        refine g_goto (tgt := 2) dX2_hasBefore_27 (by decide) ?_
        exact ih (i + 1) (by omega)
      · refine g_iconst (v := 1) dX2_hasBefore_22 (by decide) ?_
        refine g_zret dX2_hasBefore_23 rfl (by first | rfl | assumption) ⟨_, _, rfl, rfl, ?_⟩
        first | exact ⟨⟨_, rfl, Or.inl rfl⟩, rfl⟩ | exact ⟨⟨_, rfl, Or.inr rfl⟩, rfl⟩ | exact ⟨⟨_, rfl, ht01⟩, rfl⟩
set_option maxRecDepth 100000 in
set_option maxHeartbeats 4000000 in
theorem c_hasBefore14 (S : gS) (x y : Int32) : gCt MX2_hasBefore (1, 40) 0 0 [.ref 14, .int x, .int y] (wOf τ S) (gN (wOf τ) fun v S' => (∃ r : Int32, v = .int r ∧ (r = 0 ∨ r = 1)) ∧ S = S') := by
  refine gCt.of (ls := [some (.ref 14), some (.int x), some (.int y), none]) 1 (by decide) rfl (Nat.le_of_ble_eq_true rfl) ?_
  refine g_iconst (v := 0) dX2_hasBefore_0 (by decide) ?_
  refine g_istore_n dX2_hasBefore_1 rfl (by decide) ?_
  exact l_hasBefore14 S x y (2 ^ 31 - 1) 0 (by omega)
set_option maxRecDepth 100000 in
set_option maxHeartbeats 4000000 in
theorem l_nameChunks14 (S0 : gS) (x y : Int32) : ∀ (m i : Nat), i + m = 8 → ∀ S : gS, C8 S0 S → G MX2_nameChunks (2, 64) 2 [some (.ref 14), some (.int x), some (.int y), some (.int (nI i))] [] (wOf τ S) 0 0 (g0 (wOf τ) fun S' => C8 S0 S') := by
  intro m
  induction m with
  | zero =>
    intro i hi S hS
    obtain rfl : i = 8 := by omega
    refine g_iload_n dX2_nameChunks_2 rfl rfl ?_
    refine g_bipush (v := 8) dX2_nameChunks_3 (by decide) ?_
    refine g_icmp_ge (tgt := 37) dX2_nameChunks_5 (by decide) (fun c5 => ?_) (fun c5 => ?_)
    · refine g_vret dX2_nameChunks_37 rfl ⟨_, rfl, rfl, ?_⟩
      exact hS
    · exact absurd (show (8 : Int32) ≤ nI 8 by decide) c5
  | succ m ih =>
    intro i hi S hS
    refine g_iload_n dX2_nameChunks_2 rfl rfl ?_
    refine g_bipush (v := 8) dX2_nameChunks_3 (by decide) ?_
    refine g_icmp_ge (tgt := 37) dX2_nameChunks_5 (by decide) (fun c5 => ?_) (fun c5 => ?_)
    · refine g_vret dX2_nameChunks_37 rfl ⟨_, rfl, rfl, ?_⟩
      exact hS
    · refine g_aload_n dX2_nameChunks_8 rfl rfl ?_
      refine g_iload_n dX2_nameChunks_9 rfl rfl ?_
      refine g_iload_n dX2_nameChunks_10 rfl rfl ?_
      refine cV2N (fun _ _ => rfl) dX2_nameChunks_11 mlX2_154 imX2_hasBefore seX2_hasBefore rfl rfl (c_hasBefore14 _ _ _) (by decide) (Nat.le_of_ble_eq_true rfl) (Nat.le_of_ble_eq_true rfl) (Nat.le_of_ble_eq_true rfl) ?_
      rintro _ _ ⟨⟨rhb, rfl, -⟩, rfl⟩
      refine g_if_ne (tgt := 31) dX2_nameChunks_14 (by decide) (fun c14 => ?_) (fun c14 => ?_)
      · refine g_iinc dX2_nameChunks_31 rfl (by decide) (by first | exact gi_1 _ | exact gi_p _) ?_
        refine g_goto (tgt := 2) dX2_nameChunks_34 (by decide) ?_
        first | exact ih (i + 1) (by omega) _ hS | exact ih (i + 1) (by omega) _ (hS.tr hS1)
      · refine g_aload_n dX2_nameChunks_17 rfl rfl ?_
        refine g_get dX2_nameChunks_18 flX2_18 rfl rfl ?_
        refine g_aload_n dX2_nameChunks_21 rfl rfl ?_
        refine g_iload_n dX2_nameChunks_22 rfl rfl ?_
        refine g_iload_n dX2_nameChunks_23 rfl rfl ?_
        refine cV2N (fun _ _ => rfl) dX2_nameChunks_24 mlX2_72 imX2_slotOf seX2_slotOf rfl rfl (c_slotOf14 _ _ _) (by decide) (Nat.le_of_ble_eq_true rfl) (Nat.le_of_ble_eq_true rfl) (Nat.le_of_ble_eq_true rfl) ?_
        rintro _ _ ⟨⟨rsl, rfl⟩, rfl⟩
        refine g_iload_n dX2_nameChunks_27 rfl rfl ?_
        refine cV20 (fun _ _ => rfl) dX2_nameChunks_28 mlX2_158 imX0_addName seX0_addName rfl rfl (c_addName16 _ _ _) (by decide) (Nat.le_of_ble_eq_true rfl) (Nat.le_of_ble_eq_true rfl) (Nat.le_of_ble_eq_true rfl) ?_
        rintro S1 hS1
        refine g_iinc dX2_nameChunks_31 rfl (by decide) (by first | exact gi_1 _ | exact gi_p _) ?_
        refine g_goto (tgt := 2) dX2_nameChunks_34 (by decide) ?_
        first | exact ih (i + 1) (by omega) _ hS | exact ih (i + 1) (by omega) _ (hS.tr hS1)
set_option maxRecDepth 100000 in
set_option maxHeartbeats 4000000 in
theorem c_nameChunks14 (S : gS) (x y : Int32) : gCt MX2_nameChunks (2, 64) 0 0 [.ref 14, .int x, .int y] (wOf τ S) (g0 (wOf τ) fun S' => C8 S S') := by
  refine gCt.of (ls := [some (.ref 14), some (.int x), some (.int y), none]) 1 (by decide) rfl (Nat.le_of_ble_eq_true rfl) ?_
  refine g_iconst (v := 0) dX2_nameChunks_0 (by decide) ?_
  refine g_istore_n dX2_nameChunks_1 rfl (by decide) ?_
  exact l_nameChunks14 S x y 8 0 rfl S (C8.rf S)
set_option maxRecDepth 100000 in
set_option maxHeartbeats 4000000 in
theorem l_takeVersion14 (S0 : gS) (t : Int32) (h1 : ¬ S0.1 14 8 < 0) (h2 : S0.1 14 8 < 100) : ∀ (m i : Nat), i + m = 8 → ∀ S : gS, Cl S0 S ∧ S.1 = S0.1 → G MX2_takeVersion (3, 88) 19 [some (.ref 14), some (.ref 1), some (.int t), some (.int (nI i))] [] (wOf τ S) 0 0 (g0 (wOf τ) fun S' => Cl S0 S') := by
  intro m
  induction m with
  | zero =>
    intro i hi S hS
    obtain rfl : i = 8 := by omega
    have h1 : ¬ S.1 14 8 < 0 := by rw [hS.2]; exact h1
    have h2 : S.1 14 8 < 100 := by rw [hS.2]; exact h2
    refine g_iload_n dX2_takeVersion_19 rfl rfl ?_
    refine g_bipush (v := 8) dX2_takeVersion_20 (by decide) ?_
    refine g_icmp_ge (tgt := 63) dX2_takeVersion_22 (by decide) (fun c22 => ?_) (fun c22 => ?_)
    · refine g_aload_n dX2_takeVersion_63 rfl rfl ?_
      refine g_get dX2_takeVersion_64 flX2_22 rfl rfl ?_
      refine g_aload_n dX2_takeVersion_67 rfl rfl ?_
      refine g_get dX2_takeVersion_68 flX2_52 rfl rfl ?_
      refine g_iconst (v := 1) dX2_takeVersion_71 (by decide) ?_
      refine p_zast dX2_takeVersion_72 rfl (vin2 (N := 100) (by decide) h1 h2) (by with_reducible first | exact wA_20 _ _ _) ?_
      refine g_aload_n dX2_takeVersion_73 rfl rfl ?_
      refine g_aload_n dX2_takeVersion_74 rfl rfl ?_
      refine g_get dX2_takeVersion_75 flX2_52 rfl rfl ?_
      refine g_iconst (v := 1) dX2_takeVersion_78 (by decide) ?_
      refine cV20 (fun _ _ => rfl) dX2_takeVersion_79 mlX2_151 imX2_nameChunks seX2_nameChunks rfl rfl (c_nameChunks14 _ _ _) (by decide) (Nat.le_of_ble_eq_true rfl) (Nat.le_of_ble_eq_true rfl) (Nat.le_of_ble_eq_true rfl) ?_
      rintro S2 hS2
      refine g_aload_n dX2_takeVersion_82 rfl rfl ?_
      refine g_dup dX2_takeVersion_83 rfl ?_
      refine g_get dX2_takeVersion_84 flX2_52 rfl rfl ?_
      refine g_iconst (v := 1) dX2_takeVersion_87 (by decide) ?_
      refine g_iadd dX2_takeVersion_88 ?_
      refine p_put dX2_takeVersion_89 fpX2_52 rfl (Nat.le_of_ble_eq_true rfl) (fun _ => rfl) (fun _ => rfl) (by with_reducible first | exact wS_4_8 _ _ _ | exact wS_14_8 _ _ _) ?_
      refine g_vret dX2_takeVersion_92 rfl ⟨_, rfl, rfl, ?_⟩
      refine hS.1.tr ?_
      refine Cl.s ?_ (by decide) (by decide)
      refine Cl.tr ?_ hS2.1
      exact Cl.a (Cl.rf _) (by decide)
    · exact absurd (show (8 : Int32) ≤ nI 8 by decide) c22
  | succ m ih =>
    intro i hi S hS
    have h1 : ¬ S.1 14 8 < 0 := by rw [hS.2]; exact h1
    have h2 : S.1 14 8 < 100 := by rw [hS.2]; exact h2
    refine g_iload_n dX2_takeVersion_19 rfl rfl ?_
    refine g_bipush (v := 8) dX2_takeVersion_20 (by decide) ?_
    refine g_icmp_ge (tgt := 63) dX2_takeVersion_22 (by decide) (fun c22 => ?_) (fun c22 => ?_)
    · exact absurd c22 (nI_ge (b := 8) (by omega) (by decide))
    · refine g_aload_n dX2_takeVersion_25 rfl rfl ?_
      refine g_get dX2_takeVersion_26 flX2_26 rfl rfl ?_
      refine g_aload_n dX2_takeVersion_29 rfl rfl ?_
      refine g_get dX2_takeVersion_30 flX2_52 rfl rfl ?_
      refine g_bipush (v := 8) dX2_takeVersion_33 (by decide) ?_
      refine g_imul dX2_takeVersion_35 ?_
      refine g_iload_n dX2_takeVersion_36 rfl rfl ?_
      refine g_iadd dX2_takeVersion_37 ?_
      refine g_aload_n dX2_takeVersion_38 rfl rfl ?_
      refine g_get dX2_takeVersion_39 flX2_18 rfl rfl ?_
      refine g_aload_n dX2_takeVersion_42 rfl rfl ?_
      refine g_iload_n dX2_takeVersion_43 rfl rfl ?_
      refine g_iconst (v := 2) dX2_takeVersion_44 (by decide) ?_
      refine g_iload_n dX2_takeVersion_45 rfl rfl ?_
      refine g_imul dX2_takeVersion_46 ?_
      refine g_iadd dX2_takeVersion_47 ?_
      refine g_iconst (v := 2) dX2_takeVersion_48 (by decide) ?_
      refine cV2N (fun _ _ => rfl) dX2_takeVersion_49 mlX2_113 imX1_number seX1_number rfl rfl (c_number _ _ 2 (by decide)) (by decide) (Nat.le_of_ble_eq_true rfl) (Nat.le_of_ble_eq_true rfl) (Nat.le_of_ble_eq_true rfl) ?_
      rintro _ _ ⟨rfl, rfl⟩
      refine g_l2i dX2_takeVersion_52 ?_
      refine cV1N (fun _ _ => rfl) dX2_takeVersion_53 mlX2_120 imX0_find seX0_find rfl rfl (c_find16 _ _) (by decide) (Nat.le_of_ble_eq_true rfl) (Nat.le_of_ble_eq_true rfl) (Nat.le_of_ble_eq_true rfl) ?_
      rintro _ _ ⟨⟨rf, rfl, -⟩, rfl⟩
      refine p_iast dX2_takeVersion_56 rfl (ix8 (N := 100) (by decide) h1 (Int32.not_le.mpr h2) (nI_pos (by omega)) c22) (by with_reducible first | exact wA_21 _ _ _) ?_
      refine g_iinc dX2_takeVersion_57 rfl (by decide) (by first | exact gi_1 _ | exact gi_p _) ?_
      refine g_goto (tgt := 19) dX2_takeVersion_60 (by decide) ?_
      exact ih (i + 1) (by omega) _ ⟨Cl.a hS.1 (by decide), hS.2⟩
set_option maxRecDepth 100000 in
set_option maxHeartbeats 4000000 in
theorem c_takeVersion14 (S : gS) (t : Int32) : gCt MX2_takeVersion (3, 88) 0 0 [.ref 14, .ref 1, .int t] (wOf τ S) (g0 (wOf τ) fun S' => Cl S S') := by
  refine gCt.of (ls := [some (.ref 14), some (.ref 1), some (.int t), none]) 1 (by decide) rfl (Nat.le_of_ble_eq_true rfl) ?_
  refine g_aload_n dX2_takeVersion_0 rfl rfl ?_
  refine g_get dX2_takeVersion_1 flX2_52 rfl rfl ?_
  refine g_if_lt (tgt := 16) dX2_takeVersion_4 (by decide) (fun c4 => ?_) (fun c4 => ?_)
  · refine g_vret dX2_takeVersion_16 rfl ⟨_, rfl, rfl, ?_⟩
    exact Cl.rf _
  · refine g_aload_n dX2_takeVersion_7 rfl rfl ?_
    refine g_get dX2_takeVersion_8 flX2_52 rfl rfl ?_
    refine g_bipush (v := 100) dX2_takeVersion_11 (by decide) ?_
    refine g_icmp_lt (tgt := 17) dX2_takeVersion_13 (by decide) (fun c13 => ?_) (fun c13 => ?_)
    · refine g_iconst (v := 0) dX2_takeVersion_17 (by decide) ?_
      refine g_istore_n dX2_takeVersion_18 rfl (by decide) ?_
      exact l_takeVersion14 S t c4 c13 8 0 rfl S ⟨Cl.rf S, rfl⟩
    · refine g_vret dX2_takeVersion_16 rfl ⟨_, rfl, rfl, ?_⟩
      exact Cl.rf _
set_option maxRecDepth 100000 in
set_option maxHeartbeats 4000000 in
theorem c_takeAnswer14 (S : gS) (x : Int32) (y : Int64) : gCt MX2_takeAnswer (0, 0) 0 0 [.ref 14, .int x, .long y] (wOf τ S) (g0 (wOf τ) fun S' => C8 S S') := by
  refine gCt.of (ls := [some (.ref 14), some (.int x), some (.long y), none]) 0 (by decide) rfl (Nat.le_of_ble_eq_true rfl) ?_
  refine g_aload_n dX2_takeAnswer_0 rfl rfl ?_
  refine g_get dX2_takeAnswer_1 flX2_55 rfl rfl ?_
  refine g_if_lt (tgt := 16) dX2_takeAnswer_4 (by decide) (fun c4 => ?_) (fun c4 => ?_)
  · refine g_vret dX2_takeAnswer_16 rfl ⟨_, rfl, rfl, ?_⟩
    repeat' (with_reducible first | exact C8.rf _ | assumption | apply C8.a | apply C8.s | apply C8.l)
    all_goals decide
  · refine g_aload_n dX2_takeAnswer_7 rfl rfl ?_
    refine g_get dX2_takeAnswer_8 flX2_55 rfl rfl ?_
    refine g_bipush (v := 100) dX2_takeAnswer_11 (by decide) ?_
    refine g_icmp_lt (tgt := 17) dX2_takeAnswer_13 (by decide) (fun c13 => ?_) (fun c13 => ?_)
    · refine g_aload_n dX2_takeAnswer_17 rfl rfl ?_
      refine g_get dX2_takeAnswer_18 flX2_30 rfl rfl ?_
      refine g_aload_n dX2_takeAnswer_21 rfl rfl ?_
      refine g_get dX2_takeAnswer_22 flX2_55 rfl rfl ?_
      refine g_iload_n dX2_takeAnswer_25 rfl rfl ?_
      refine p_iast dX2_takeAnswer_26 rfl (vin2 (N := 100) (by decide) c4 c13) (by with_reducible first | exact wA_5 _ _ _ | exact wA_10 _ _ _ | exact wA_11 _ _ _ | exact wA_12 _ _ _ | exact wA_13 _ _ _ | exact wA_15 _ _ _ | exact wA_20 _ _ _ | exact wA_21 _ _ _ | exact wA_22 _ _ _ | exact wA_23 _ _ _) ?_
      refine g_aload_n dX2_takeAnswer_27 rfl rfl ?_
      refine g_get dX2_takeAnswer_28 flX2_33 rfl rfl ?_
      refine g_aload_n dX2_takeAnswer_31 rfl rfl ?_
      refine g_get dX2_takeAnswer_32 flX2_55 rfl rfl ?_
      refine g_lload_n dX2_takeAnswer_35 rfl rfl ?_
      refine p_last dX2_takeAnswer_36 rfl (vin2 (N := 100) (by decide) c4 c13) (by with_reducible first | exact wA_5 _ _ _ | exact wA_10 _ _ _ | exact wA_11 _ _ _ | exact wA_12 _ _ _ | exact wA_13 _ _ _ | exact wA_15 _ _ _ | exact wA_20 _ _ _ | exact wA_21 _ _ _ | exact wA_22 _ _ _ | exact wA_23 _ _ _) ?_
      refine g_aload_n dX2_takeAnswer_37 rfl rfl ?_
      refine g_dup dX2_takeAnswer_38 rfl ?_
      refine g_get dX2_takeAnswer_39 flX2_55 rfl rfl ?_
      refine g_iconst (v := 1) dX2_takeAnswer_42 (by decide) ?_
      refine g_iadd dX2_takeAnswer_43 ?_
      refine p_put dX2_takeAnswer_44 fpX2_55 rfl (Nat.le_of_ble_eq_true rfl) (fun _ => rfl) (fun _ => rfl) (by with_reducible first | exact wS_4_9 _ _ _ | exact wS_14_9 _ _ _) ?_
      refine g_vret dX2_takeAnswer_47 rfl ⟨_, rfl, rfl, ?_⟩
      repeat' (with_reducible first | exact C8.rf _ | assumption | apply C8.a | apply C8.s | apply C8.l)
      all_goals decide
    · refine g_vret dX2_takeAnswer_16 rfl ⟨_, rfl, rfl, ?_⟩
      repeat' (with_reducible first | exact C8.rf _ | assumption | apply C8.a | apply C8.s | apply C8.l)
      all_goals decide
set_option maxRecDepth 100000 in
set_option maxHeartbeats 4000000 in
theorem c_takeDrop14 (S : gS) (x : Int32) : gCt MX2_takeDrop (3, 88) 0 0 [.ref 14, .int x] (wOf τ S) (g0 (wOf τ) fun S' => C8 S S') := by
  refine gCt.of (ls := [some (.ref 14), some (.int x)]) 0 (by decide) rfl (Nat.le_of_ble_eq_true rfl) ?_
  refine g_aload_n dX2_takeDrop_0 rfl rfl ?_
  refine g_iload_n dX2_takeDrop_1 rfl rfl ?_
  refine cV1N (fun _ _ => rfl) dX2_takeDrop_2 mlX2_64 imX2_isThere seX2_isThere rfl rfl (c_isThere14 _ _) (by decide) (Nat.le_of_ble_eq_true rfl) (Nat.le_of_ble_eq_true rfl) (Nat.le_of_ble_eq_true rfl) ?_
  rintro _ _ ⟨⟨rt, rfl, ht01, ht⟩, rfl⟩
  refine g_if_eq (tgt := 21) dX2_takeDrop_5 (by decide) (fun c5 => ?_) (fun c5 => ?_)
  · refine g_vret dX2_takeDrop_21 rfl ⟨_, rfl, rfl, ?_⟩
    first | exact C8.rf _ | exact C8.tr (C8.a (C8.rf _) (by decide)) hS2
  · refine g_aload_n dX2_takeDrop_8 rfl rfl ?_
    refine g_get dX2_takeDrop_9 flX2_22 rfl rfl ?_
    refine g_iload_n dX2_takeDrop_12 rfl rfl ?_
    refine g_iconst (v := 0) dX2_takeDrop_13 (by decide) ?_
    refine p_zast dX2_takeDrop_14 rfl (vin (N := 100) (by decide) (ht c5).1 (ht c5).2.2) (by with_reducible first | exact wA_20 _ _ _) ?_
    refine g_aload_n dX2_takeDrop_15 rfl rfl ?_
    refine g_iload_n dX2_takeDrop_16 rfl rfl ?_
    refine g_iconst (v := (-1)) dX2_takeDrop_17 (by decide) ?_
    refine cV20 (fun _ _ => rfl) dX2_takeDrop_18 mlX2_151 imX2_nameChunks seX2_nameChunks rfl rfl (c_nameChunks14 _ _ _) (by decide) (Nat.le_of_ble_eq_true rfl) (Nat.le_of_ble_eq_true rfl) (Nat.le_of_ble_eq_true rfl) ?_
    rintro S2 hS2
    refine g_vret dX2_takeDrop_21 rfl ⟨_, rfl, rfl, ?_⟩
    first | exact C8.rf _ | exact C8.tr (C8.a (C8.rf _) (by decide)) hS2
set_option maxRecDepth 100000 in
set_option maxHeartbeats 4000000 in
theorem c_takeRow14 (S : gS) (x : Int32) : gCt MX2_takeRow (4, 116) 0 0 [.ref 14, .ref 1, .int x] (wOf τ S) (g0 (wOf τ) fun S' => Cl S S' ∧ (¬ dget S x = 3 → S'.1 4 8 = S.1 4 8)) := by
  refine gCt.of (ls := [some (.ref 14), some (.ref 1), some (.int x), none, none, none]) 3 (by decide) rfl (Nat.le_of_ble_eq_true rfl) ?_
  refine g_aload_n dX2_takeRow_0 rfl rfl ?_
  refine g_iload_n dX2_takeRow_1 rfl rfl ?_
  refine cV1N (fun _ _ => rfl) dX2_takeRow_2 mlX2_100 imX1_get seX1_get rfl rfl (c_get _ _) (by decide) (Nat.le_of_ble_eq_true rfl) (Nat.le_of_ble_eq_true rfl) (Nat.le_of_ble_eq_true rfl) ?_
  rintro _ _ ⟨rfl, rfl⟩
  refine g_istore_n dX2_takeRow_5 rfl (by decide) ?_
  refine g_aload_n dX2_takeRow_6 rfl rfl ?_
  refine g_iload_n dX2_takeRow_7 rfl rfl ?_
  refine g_iconst (v := 1) dX2_takeRow_8 (by decide) ?_
  refine g_iadd dX2_takeRow_9 ?_
  refine g_iconst (v := 2) dX2_takeRow_10 (by decide) ?_
  refine cV2N (fun _ _ => rfl) dX2_takeRow_11 mlX2_113 imX1_number seX1_number rfl rfl (c_number _ _ 2 (by decide)) (by decide) (Nat.le_of_ble_eq_true rfl) (Nat.le_of_ble_eq_true rfl) (Nat.le_of_ble_eq_true rfl) ?_
  rintro _ _ ⟨rfl, rfl⟩
  refine g_l2i dX2_takeRow_14 ?_
  refine g_istore dX2_takeRow_15 (by decide) ?_
  refine g_iload_n dX2_takeRow_17 rfl rfl ?_
  refine g_iconst (v := 4) dX2_takeRow_18 (by decide) ?_
  refine g_iadd dX2_takeRow_19 ?_
  refine g_istore dX2_takeRow_20 (by decide) ?_
  refine g_iload_n dX2_takeRow_22 rfl rfl ?_
  refine g_tsw3 (ts := [52, 67, 88, 98, 121]) (tv := 88) (e := 3) dX2_takeRow_23 (by decide) (by decide) (fun t ht htv => ?_)
  simp only [List.mem_cons, List.not_mem_nil, or_false] at ht
  rcases ht with rfl | rfl | rfl | rfl | rfl
  · refine g_aload_n dX2_takeRow_52 rfl rfl ?_
    refine g_get dX2_takeRow_53 flX2_18 rfl rfl ?_
    refine g_iload dX2_takeRow_56 rfl ?_
    refine g_aload_n dX2_takeRow_58 rfl rfl ?_
    refine g_iload dX2_takeRow_59 rfl ?_
    refine cV30 (fun _ _ => rfl) dX2_takeRow_61 mlX2_133 imX0_take seX0_take rfl rfl (c_take16 _ _ _) (by decide) (Nat.le_of_ble_eq_true rfl) (Nat.le_of_ble_eq_true rfl) (Nat.le_of_ble_eq_true rfl) ?_
    rintro S1 hS1
    refine g_goto (tgt := 127) dX2_takeRow_64 (by decide) ?_
    refine g_aload_n dX2_takeRow_127 rfl rfl ?_
    refine g_dup dX2_takeRow_128 rfl ?_
    refine g_get dX2_takeRow_129 flX2_58 rfl rfl ?_
    refine g_iconst (v := 1) dX2_takeRow_132 (by decide) ?_
    refine g_iadd dX2_takeRow_133 ?_
    refine p_put dX2_takeRow_134 fpX2_58 rfl (Nat.le_of_ble_eq_true rfl) (fun _ => rfl) (fun _ => rfl) (by with_reducible first | exact wS_4_10 _ _ _ | exact wS_14_10 _ _ _) ?_
    refine g_aload_n dX2_takeRow_137 rfl rfl ?_
    refine g_dup dX2_takeRow_138 rfl ?_
    refine g_get dX2_takeRow_139 flX2_61 rfl rfl ?_
    refine g_bipush (v := 12) dX2_takeRow_142 (by decide) ?_
    refine g_iload_n dX2_takeRow_144 rfl rfl ?_
    refine cS1N (fun _ _ => rfl) dX2_takeRow_145 mlX2_106 isX4_sizeOf (c_sizeOf _ _) (by decide) (Nat.le_of_ble_eq_true rfl) (Nat.le_of_ble_eq_true rfl) (Nat.le_of_ble_eq_true rfl) ?_
    rintro _ _ ⟨⟨rs, rfl⟩, rfl⟩
    refine g_iadd dX2_takeRow_148 ?_
    refine g_iadd dX2_takeRow_149 ?_
    refine p_put dX2_takeRow_150 fpX2_61 rfl (Nat.le_of_ble_eq_true rfl) (fun _ => rfl) (fun _ => rfl) (by with_reducible first | exact wS_4_11 _ _ _ | exact wS_14_11 _ _ _) ?_
    refine g_vret dX2_takeRow_153 rfl ⟨_, rfl, rfl, ?_⟩
    first | exact ⟨Cl.s (Cl.s hS1.1 (by decide) (by decide)) (by decide) (by decide), fun _ => (mS_ne (by decide)).trans ((mS_ne (by decide)).trans hS1.2)⟩ | exact ⟨Cl.s (Cl.s hS1 (by decide) (by decide)) (by decide) (by decide), fun z => absurd (Int32.toInt_inj.mp (htv rfl)) z⟩
  · refine g_aload_n dX2_takeRow_67 rfl rfl ?_
    refine g_aload_n dX2_takeRow_68 rfl rfl ?_
    refine g_iload dX2_takeRow_69 rfl ?_
    refine cV1N (fun _ _ => rfl) dX2_takeRow_71 mlX2_100 imX1_get seX1_get rfl rfl (c_get _ _) (by decide) (Nat.le_of_ble_eq_true rfl) (Nat.le_of_ble_eq_true rfl) (Nat.le_of_ble_eq_true rfl) ?_
    rintro _ _ ⟨rfl, rfl⟩
    refine g_aload_n dX2_takeRow_74 rfl rfl ?_
    refine g_iload dX2_takeRow_75 rfl ?_
    refine g_iconst (v := 1) dX2_takeRow_77 (by decide) ?_
    refine g_iadd dX2_takeRow_78 ?_
    refine cV1N (fun _ _ => rfl) dX2_takeRow_79 mlX2_100 imX1_get seX1_get rfl rfl (c_get _ _) (by decide) (Nat.le_of_ble_eq_true rfl) (Nat.le_of_ble_eq_true rfl) (Nat.le_of_ble_eq_true rfl) ?_
    rintro _ _ ⟨rfl, rfl⟩
    refine cV20 (fun _ _ => rfl) dX2_takeRow_82 mlX2_137 imX2_takeChange seX2_takeChange rfl rfl (c_takeChange14 _ _ _) (by decide) (Nat.le_of_ble_eq_true rfl) (Nat.le_of_ble_eq_true rfl) (Nat.le_of_ble_eq_true rfl) ?_
    rintro S1 hS1
    refine g_goto (tgt := 127) dX2_takeRow_85 (by decide) ?_
    refine g_aload_n dX2_takeRow_127 rfl rfl ?_
    refine g_dup dX2_takeRow_128 rfl ?_
    refine g_get dX2_takeRow_129 flX2_58 rfl rfl ?_
    refine g_iconst (v := 1) dX2_takeRow_132 (by decide) ?_
    refine g_iadd dX2_takeRow_133 ?_
    refine p_put dX2_takeRow_134 fpX2_58 rfl (Nat.le_of_ble_eq_true rfl) (fun _ => rfl) (fun _ => rfl) (by with_reducible first | exact wS_4_10 _ _ _ | exact wS_14_10 _ _ _) ?_
    refine g_aload_n dX2_takeRow_137 rfl rfl ?_
    refine g_dup dX2_takeRow_138 rfl ?_
    refine g_get dX2_takeRow_139 flX2_61 rfl rfl ?_
    refine g_bipush (v := 12) dX2_takeRow_142 (by decide) ?_
    refine g_iload_n dX2_takeRow_144 rfl rfl ?_
    refine cS1N (fun _ _ => rfl) dX2_takeRow_145 mlX2_106 isX4_sizeOf (c_sizeOf _ _) (by decide) (Nat.le_of_ble_eq_true rfl) (Nat.le_of_ble_eq_true rfl) (Nat.le_of_ble_eq_true rfl) ?_
    rintro _ _ ⟨⟨rs, rfl⟩, rfl⟩
    refine g_iadd dX2_takeRow_148 ?_
    refine g_iadd dX2_takeRow_149 ?_
    refine p_put dX2_takeRow_150 fpX2_61 rfl (Nat.le_of_ble_eq_true rfl) (fun _ => rfl) (fun _ => rfl) (by with_reducible first | exact wS_4_11 _ _ _ | exact wS_14_11 _ _ _) ?_
    refine g_vret dX2_takeRow_153 rfl ⟨_, rfl, rfl, ?_⟩
    first | exact ⟨Cl.s (Cl.s hS1.1 (by decide) (by decide)) (by decide) (by decide), fun _ => (mS_ne (by decide)).trans ((mS_ne (by decide)).trans hS1.2)⟩ | exact ⟨Cl.s (Cl.s hS1 (by decide) (by decide)) (by decide) (by decide), fun z => absurd (Int32.toInt_inj.mp (htv rfl)) z⟩
  · refine g_aload_n dX2_takeRow_88 rfl rfl ?_
    refine g_aload_n dX2_takeRow_89 rfl rfl ?_
    refine g_iload dX2_takeRow_90 rfl ?_
    refine cV20 (fun _ _ => rfl) dX2_takeRow_92 mlX2_141 imX2_takeVersion seX2_takeVersion rfl rfl (c_takeVersion14 _ _) (by decide) (Nat.le_of_ble_eq_true rfl) (Nat.le_of_ble_eq_true rfl) (Nat.le_of_ble_eq_true rfl) ?_
    rintro S1 hS1
    refine g_goto (tgt := 127) dX2_takeRow_95 (by decide) ?_
    refine g_aload_n dX2_takeRow_127 rfl rfl ?_
    refine g_dup dX2_takeRow_128 rfl ?_
    refine g_get dX2_takeRow_129 flX2_58 rfl rfl ?_
    refine g_iconst (v := 1) dX2_takeRow_132 (by decide) ?_
    refine g_iadd dX2_takeRow_133 ?_
    refine p_put dX2_takeRow_134 fpX2_58 rfl (Nat.le_of_ble_eq_true rfl) (fun _ => rfl) (fun _ => rfl) (by with_reducible first | exact wS_4_10 _ _ _ | exact wS_14_10 _ _ _) ?_
    refine g_aload_n dX2_takeRow_137 rfl rfl ?_
    refine g_dup dX2_takeRow_138 rfl ?_
    refine g_get dX2_takeRow_139 flX2_61 rfl rfl ?_
    refine g_bipush (v := 12) dX2_takeRow_142 (by decide) ?_
    refine g_iload_n dX2_takeRow_144 rfl rfl ?_
    refine cS1N (fun _ _ => rfl) dX2_takeRow_145 mlX2_106 isX4_sizeOf (c_sizeOf _ _) (by decide) (Nat.le_of_ble_eq_true rfl) (Nat.le_of_ble_eq_true rfl) (Nat.le_of_ble_eq_true rfl) ?_
    rintro _ _ ⟨⟨rs, rfl⟩, rfl⟩
    refine g_iadd dX2_takeRow_148 ?_
    refine g_iadd dX2_takeRow_149 ?_
    refine p_put dX2_takeRow_150 fpX2_61 rfl (Nat.le_of_ble_eq_true rfl) (fun _ => rfl) (fun _ => rfl) (by with_reducible first | exact wS_4_11 _ _ _ | exact wS_14_11 _ _ _) ?_
    refine g_vret dX2_takeRow_153 rfl ⟨_, rfl, rfl, ?_⟩
    first | exact ⟨Cl.s (Cl.s hS1.1 (by decide) (by decide)) (by decide) (by decide), fun _ => (mS_ne (by decide)).trans ((mS_ne (by decide)).trans hS1.2)⟩ | exact ⟨Cl.s (Cl.s hS1 (by decide) (by decide)) (by decide) (by decide), fun z => absurd (Int32.toInt_inj.mp (htv rfl)) z⟩
  · refine g_aload_n dX2_takeRow_98 rfl rfl ?_
    refine g_aload_n dX2_takeRow_99 rfl rfl ?_
    refine g_iload dX2_takeRow_100 rfl ?_
    refine cV1N (fun _ _ => rfl) dX2_takeRow_102 mlX2_100 imX1_get seX1_get rfl rfl (c_get _ _) (by decide) (Nat.le_of_ble_eq_true rfl) (Nat.le_of_ble_eq_true rfl) (Nat.le_of_ble_eq_true rfl) ?_
    rintro _ _ ⟨rfl, rfl⟩
    refine g_aload_n dX2_takeRow_105 rfl rfl ?_
    refine g_iload dX2_takeRow_106 rfl ?_
    refine g_iconst (v := 2) dX2_takeRow_108 (by decide) ?_
    refine g_iadd dX2_takeRow_109 ?_
    refine g_bipush (v := 8) dX2_takeRow_110 (by decide) ?_
    refine cV2N (fun _ _ => rfl) dX2_takeRow_112 mlX2_113 imX1_number seX1_number rfl rfl (c_number _ _ 8 (by decide)) (by decide) (Nat.le_of_ble_eq_true rfl) (Nat.le_of_ble_eq_true rfl) (Nat.le_of_ble_eq_true rfl) ?_
    rintro _ _ ⟨rfl, rfl⟩
    refine cV20 (fun _ _ => rfl) dX2_takeRow_115 mlX2_144 imX2_takeAnswer seX2_takeAnswer rfl rfl (c_takeAnswer14 _ _ _) (by decide) (Nat.le_of_ble_eq_true rfl) (Nat.le_of_ble_eq_true rfl) (Nat.le_of_ble_eq_true rfl) ?_
    rintro S1 hS1
    refine g_goto (tgt := 127) dX2_takeRow_118 (by decide) ?_
    refine g_aload_n dX2_takeRow_127 rfl rfl ?_
    refine g_dup dX2_takeRow_128 rfl ?_
    refine g_get dX2_takeRow_129 flX2_58 rfl rfl ?_
    refine g_iconst (v := 1) dX2_takeRow_132 (by decide) ?_
    refine g_iadd dX2_takeRow_133 ?_
    refine p_put dX2_takeRow_134 fpX2_58 rfl (Nat.le_of_ble_eq_true rfl) (fun _ => rfl) (fun _ => rfl) (by with_reducible first | exact wS_4_10 _ _ _ | exact wS_14_10 _ _ _) ?_
    refine g_aload_n dX2_takeRow_137 rfl rfl ?_
    refine g_dup dX2_takeRow_138 rfl ?_
    refine g_get dX2_takeRow_139 flX2_61 rfl rfl ?_
    refine g_bipush (v := 12) dX2_takeRow_142 (by decide) ?_
    refine g_iload_n dX2_takeRow_144 rfl rfl ?_
    refine cS1N (fun _ _ => rfl) dX2_takeRow_145 mlX2_106 isX4_sizeOf (c_sizeOf _ _) (by decide) (Nat.le_of_ble_eq_true rfl) (Nat.le_of_ble_eq_true rfl) (Nat.le_of_ble_eq_true rfl) ?_
    rintro _ _ ⟨⟨rs, rfl⟩, rfl⟩
    refine g_iadd dX2_takeRow_148 ?_
    refine g_iadd dX2_takeRow_149 ?_
    refine p_put dX2_takeRow_150 fpX2_61 rfl (Nat.le_of_ble_eq_true rfl) (fun _ => rfl) (fun _ => rfl) (by with_reducible first | exact wS_4_11 _ _ _ | exact wS_14_11 _ _ _) ?_
    refine g_vret dX2_takeRow_153 rfl ⟨_, rfl, rfl, ?_⟩
    first | exact ⟨Cl.s (Cl.s hS1.1 (by decide) (by decide)) (by decide) (by decide), fun _ => (mS_ne (by decide)).trans ((mS_ne (by decide)).trans hS1.2)⟩ | exact ⟨Cl.s (Cl.s hS1 (by decide) (by decide)) (by decide) (by decide), fun z => absurd (Int32.toInt_inj.mp (htv rfl)) z⟩
  · refine g_aload_n dX2_takeRow_121 rfl rfl ?_
    refine g_iload dX2_takeRow_122 rfl ?_
    refine cV10 (fun _ _ => rfl) dX2_takeRow_124 mlX2_148 imX2_takeDrop seX2_takeDrop rfl rfl (c_takeDrop14 _ _) (by decide) (Nat.le_of_ble_eq_true rfl) (Nat.le_of_ble_eq_true rfl) (Nat.le_of_ble_eq_true rfl) ?_
    rintro S1 hS1
    refine g_aload_n dX2_takeRow_127 rfl rfl ?_
    refine g_dup dX2_takeRow_128 rfl ?_
    refine g_get dX2_takeRow_129 flX2_58 rfl rfl ?_
    refine g_iconst (v := 1) dX2_takeRow_132 (by decide) ?_
    refine g_iadd dX2_takeRow_133 ?_
    refine p_put dX2_takeRow_134 fpX2_58 rfl (Nat.le_of_ble_eq_true rfl) (fun _ => rfl) (fun _ => rfl) (by with_reducible first | exact wS_4_10 _ _ _ | exact wS_14_10 _ _ _) ?_
    refine g_aload_n dX2_takeRow_137 rfl rfl ?_
    refine g_dup dX2_takeRow_138 rfl ?_
    refine g_get dX2_takeRow_139 flX2_61 rfl rfl ?_
    refine g_bipush (v := 12) dX2_takeRow_142 (by decide) ?_
    refine g_iload_n dX2_takeRow_144 rfl rfl ?_
    refine cS1N (fun _ _ => rfl) dX2_takeRow_145 mlX2_106 isX4_sizeOf (c_sizeOf _ _) (by decide) (Nat.le_of_ble_eq_true rfl) (Nat.le_of_ble_eq_true rfl) (Nat.le_of_ble_eq_true rfl) ?_
    rintro _ _ ⟨⟨rs, rfl⟩, rfl⟩
    refine g_iadd dX2_takeRow_148 ?_
    refine g_iadd dX2_takeRow_149 ?_
    refine p_put dX2_takeRow_150 fpX2_61 rfl (Nat.le_of_ble_eq_true rfl) (fun _ => rfl) (fun _ => rfl) (by with_reducible first | exact wS_4_11 _ _ _ | exact wS_14_11 _ _ _) ?_
    refine g_vret dX2_takeRow_153 rfl ⟨_, rfl, rfl, ?_⟩
    first | exact ⟨Cl.s (Cl.s hS1.1 (by decide) (by decide)) (by decide) (by decide), fun _ => (mS_ne (by decide)).trans ((mS_ne (by decide)).trans hS1.2)⟩ | exact ⟨Cl.s (Cl.s hS1 (by decide) (by decide)) (by decide) (by decide), fun z => absurd (Int32.toInt_inj.mp (htv rfl)) z⟩
end
