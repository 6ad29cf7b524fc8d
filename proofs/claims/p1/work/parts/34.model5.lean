section
variable {Γ : gS} {τ : gW}
theorem in9 (x : Int32) : ((if x < 0 then 0 else if 9 < x then 0 else 1 : Int32) = 0) ↔ ¬ (¬ x < 0 ∧ ¬ 9 < x) := by
  by_cases h1 : x < 0
  · simp [h1]
  · by_cases h2 : 9 < x
    · simp [h1, h2]
    · simp [h1, h2]
set_option maxRecDepth 100000 in
set_option maxHeartbeats 4000000 in
theorem lm_told2 (S : gS) (x : Int32) (a : Nat) (ha : a < 64) (f : Fm S) {Q : gR → gW → Prop} (kk : G MX5_told (2, 47) 175 [some (.ref 28), some (.int x), some (.int 0), some (.int (nI a)), some (.int (nI 64))] [] (wRf Γ τ S) 0 0 Q) : ∀ (m i : Nat), i + m = 64 → G MX5_told (2, 47) 144 [some (.ref 28), some (.int x), some (.int 0), some (.int (nI a)), some (.int (nI i))] [] (wRf Γ τ S) 0 0 Q := by
  intro m
  induction m with
  | zero =>
    intro i hi
    obtain rfl : i = 64 := by omega
    refine g_iload dX5_told_144 rfl ?_
    refine g_bipush (v := 64) dX5_told_146 (by decide) ?_
    refine g_icmp_ge (tgt := 175) dX5_told_148 (by decide) (fun c148 => ?_) (fun c148 => ?_)
    · exact kk
    · exact absurd (show (64 : Int32) ≤ nI 64 by decide) c148
  | succ m ih =>
    intro i hi
    refine g_iload dX5_told_144 rfl ?_
    refine g_bipush (v := 64) dX5_told_146 (by decide) ?_
    refine g_icmp_ge (tgt := 175) dX5_told_148 (by decide) (fun c148 => ?_) (fun c148 => ?_)
    · exact absurd c148 (nI_ge (b := 64) (by omega) (by decide))
    · refine g_iload_n dX5_told_151 rfl rfl ?_
      refine g_aload_n dX5_told_152 rfl rfl ?_
      refine g_iload_n dX5_told_153 rfl rfl ?_
      refine g_iload dX5_told_154 rfl ?_
      refine cV2N (fun _ _ => rfl) dX5_told_156 mlX5_148 imX5_hasNow seX5_hasNow rfl rfl (m_hasNow _ a _ ha) (by decide) (Nat.le_of_ble_eq_true rfl) (Nat.le_of_ble_eq_true rfl) (Nat.le_of_ble_eq_true rfl) ?_
      rintro _ _ ⟨⟨hn, rfl, hn01, hn0⟩, rfl⟩
      refine g_if_eq (tgt := 166) dX5_told_159 (by decide) (fun c159 => ?_) (fun c159 => ?_)
      · refine g_iconst (v := 0) dX5_told_166 (by decide) ?_
        refine g_iadd dX5_told_167 ?_
        refine g_istore_n dX5_told_168 rfl (by decide) ?_
        refine g_iinc dX5_told_169 rfl (by decide) (by first | exact gi_1 _ | exact gi_p _) ?_
        refine g_goto (tgt := 144) dX5_told_172 (by decide) ?_
        exact ih (i + 1) (by omega)
      · exact absurd (hn0 (f.nw a ha)) c159
set_option maxRecDepth 100000 in
set_option maxHeartbeats 4000000 in
theorem lm_told1 (S : gS) (x : Int32) (f : Fm S) {Q : gR → gW → Prop} (kk : ∀ l4 : Option Value, G MX5_told (2, 47) 181 [some (.ref 28), some (.int x), some (.int 0), some (.int (nI 64)), l4] [] (wRf Γ τ S) 0 0 Q) : ∀ (m a : Nat) (l4 : Option Value), a + m = 64 → G MX5_told (2, 47) 135 [some (.ref 28), some (.int x), some (.int 0), some (.int (nI a)), l4] [] (wRf Γ τ S) 0 0 Q := by
  intro m
  induction m with
  | zero =>
    intro a l4 hi
    obtain rfl : a = 64 := by omega
    refine g_iload_n dX5_told_135 rfl rfl ?_
    refine g_bipush (v := 64) dX5_told_136 (by decide) ?_
    refine g_icmp_ge (tgt := 181) dX5_told_138 (by decide) (fun c138 => ?_) (fun c138 => ?_)
    · exact kk _
    · exact absurd (show (64 : Int32) ≤ nI 64 by decide) c138
  | succ m ih =>
    intro a l4 hi
    refine g_iload_n dX5_told_135 rfl rfl ?_
    refine g_bipush (v := 64) dX5_told_136 (by decide) ?_
    refine g_icmp_ge (tgt := 181) dX5_told_138 (by decide) (fun c138 => ?_) (fun c138 => ?_)
    · exact absurd c138 (nI_ge (b := 64) (by omega) (by decide))
    · refine g_iconst (v := 0) dX5_told_141 (by decide) ?_
      refine g_istore dX5_told_142 (by decide) ?_
      refine lm_told2 S x a (by omega) f ?_ 64 0 rfl
      refine g_iinc dX5_told_175 rfl (by decide) (by first | exact gi_1 _ | exact gi_p _) ?_
      refine g_goto (tgt := 135) dX5_told_178 (by decide) ?_
      exact ih (a + 1) _ (by omega)
set_option maxRecDepth 100000 in
set_option maxHeartbeats 4000000 in
theorem lb_told (S : gS) (x : Int32) (f : Fm S) (hb : ¬ (¬ x < 0 ∧ ¬ 9 < x)) : G MX5_told (2, 47) 30 [some (.ref 28), some (.int x), none, none, none] [] (wRf Γ τ (mS S 28 0 2)) 0 0 (gN (wRf Γ τ) fun v S' => ∃ r : Int32, v = .int r ∧ (((¬ x < 0 ∧ ¬ 9 < x) ∧ S'.1 28 0 = 0 ∧ r = 0) ∨ (¬ (¬ x < 0 ∧ ¬ 9 < x) ∧ S'.1 28 0 = 2))) := by
  refine g_aload_n dX5_told_30 rfl rfl ?_
  refine g_get dX5_told_31 flX5_75 rfl rfl ?_
  rw [mS_same]
  refine g_if_le (tgt := 39) dX5_told_34 (by decide) (fun c34 => ?_) (fun c34 => ?_)
  · exact absurd c34 (by decide)
  · refine g_iconst (v := 0) dX5_told_37 (by decide) ?_
    refine g_iret dX5_told_38 rfl ⟨_, _, rfl, rfl, ?_⟩
    exact ⟨_, rfl, Or.inr ⟨hb, mS_same _ _ _ _⟩⟩
set_option maxRecDepth 100000 in
set_option maxHeartbeats 4000000 in
theorem lg_told (S : gS) (x : Int32) (f : Fm S) (hx : ¬ x < 0 ∧ ¬ 9 < x) : G MX5_told (2, 47) 30 [some (.ref 28), some (.int x), none, none, none] [] (wRf Γ τ (mS S 28 0 0)) 0 0 (gN (wRf Γ τ) fun v S' => ∃ r : Int32, v = .int r ∧ (((¬ x < 0 ∧ ¬ 9 < x) ∧ S'.1 28 0 = 0 ∧ r = 0) ∨ (¬ (¬ x < 0 ∧ ¬ 9 < x) ∧ S'.1 28 0 = 2))) := by
  refine g_aload_n dX5_told_30 rfl rfl ?_
  refine g_get dX5_told_31 flX5_75 rfl rfl ?_
  rw [mS_same]
  refine g_if_le (tgt := 39) dX5_told_34 (by decide) (fun c34 => ?_) (fun c34 => ?_)
  · refine g_iload_n dX5_told_39 rfl rfl ?_
    refine g_if_ne (tgt := 48) dX5_told_40 (by decide) (fun c40 => ?_) (fun c40 => ?_)
    · refine g_iload_n dX5_told_48 rfl rfl ?_
      refine g_iconst (v := 1) dX5_told_49 (by decide) ?_
      refine g_icmp_ne (tgt := 58) dX5_told_50 (by decide) (fun c50 => ?_) (fun c50 => ?_)
      · refine g_iload_n dX5_told_58 rfl rfl ?_
        refine g_iconst (v := 2) dX5_told_59 (by decide) ?_
        refine g_icmp_ne (tgt := 68) dX5_told_60 (by decide) (fun c60 => ?_) (fun c60 => ?_)
        · refine g_iload_n dX5_told_68 rfl rfl ?_
          refine g_iconst (v := 3) dX5_told_69 (by decide) ?_
          refine g_icmp_ne (tgt := 78) dX5_told_70 (by decide) (fun c70 => ?_) (fun c70 => ?_)
          · refine g_iload_n dX5_told_78 rfl rfl ?_
            refine g_iconst (v := 4) dX5_told_79 (by decide) ?_
            refine g_icmp_ne (tgt := 88) dX5_told_80 (by decide) (fun c80 => ?_) (fun c80 => ?_)
            · refine g_iload_n dX5_told_88 rfl rfl ?_
              refine g_iconst (v := 5) dX5_told_89 (by decide) ?_
              refine g_icmp_ne (tgt := 98) dX5_told_90 (by decide) (fun c90 => ?_) (fun c90 => ?_)
              · refine g_iload_n dX5_told_98 rfl rfl ?_
                refine g_bipush (v := 7) dX5_told_99 (by decide) ?_
                refine g_icmp_ne (tgt := 109) dX5_told_101 (by decide) (fun c101 => ?_) (fun c101 => ?_)
                · refine g_iload_n dX5_told_109 rfl rfl ?_
                  refine g_bipush (v := 8) dX5_told_110 (by decide) ?_
                  refine g_icmp_ne (tgt := 120) dX5_told_112 (by decide) (fun c112 => ?_) (fun c112 => ?_)
                  · refine g_iload_n dX5_told_120 rfl rfl ?_
                    refine g_bipush (v := 9) dX5_told_121 (by decide) ?_
                    refine g_icmp_ne (tgt := 131) dX5_told_123 (by decide) (fun c123 => ?_) (fun c123 => ?_)
                    · refine g_iconst (v := 0) dX5_told_131 (by decide) ?_
                      refine g_istore_n dX5_told_132 rfl (by decide) ?_
                      refine g_iconst (v := 0) dX5_told_133 (by decide) ?_
                      refine g_istore_n dX5_told_134 rfl (by decide) ?_
                      refine lm_told1 _ x (f.t 0) (fun l4 => ?_) 64 0 _ rfl
                      refine g_iload_n dX5_told_181 rfl rfl ?_
                      refine g_iret dX5_told_182 rfl ⟨_, _, rfl, rfl, ?_⟩
                      exact ⟨_, rfl, Or.inl ⟨hx, mS_same _ _ _ _, rfl⟩⟩
                    · refine g_aload_n dX5_told_126 rfl rfl ?_
                      refine g_get dX5_told_127 flX5_85 rfl rfl ?_
                      refine g_iret dX5_told_130 rfl ⟨_, _, rfl, rfl, ?_⟩
                      exact ⟨_, rfl, Or.inl ⟨hx, mS_same _ _ _ _, by rw [mS_ne (by decide)]; exact f.wr⟩⟩
                  · refine g_aload_n dX5_told_115 rfl rfl ?_
                    refine g_get dX5_told_116 flX5_101 rfl rfl ?_
                    refine g_iret dX5_told_119 rfl ⟨_, _, rfl, rfl, ?_⟩
                    exact ⟨_, rfl, Or.inl ⟨hx, mS_same _ _ _ _, by rw [mS_ne (by decide)]; exact f.rw_⟩⟩
                · refine g_aload_n dX5_told_104 rfl rfl ?_
                  refine cV0N (fun _ _ => rfl) dX5_told_105 mlX5_184 imX5_namedMany seX5_namedMany rfl rfl (m_namedMany _ (f.t 0)) (by decide) (Nat.le_of_ble_eq_true rfl) (Nat.le_of_ble_eq_true rfl) (Nat.le_of_ble_eq_true rfl) ?_
                  rintro _ _ ⟨rfl, rfl⟩
                  refine g_iret dX5_told_108 rfl ⟨_, _, rfl, rfl, ?_⟩
                  exact ⟨_, rfl, Or.inl ⟨hx, mS_same _ _ _ _, rfl⟩⟩
              · refine g_aload_n dX5_told_93 rfl rfl ?_
                refine g_get dX5_told_94 flX5_88 rfl rfl ?_
                refine g_iret dX5_told_97 rfl ⟨_, _, rfl, rfl, ?_⟩
                exact ⟨_, rfl, Or.inl ⟨hx, mS_same _ _ _ _, by rw [mS_ne (by decide)]; exact f.tn⟩⟩
            · refine g_aload_n dX5_told_83 rfl rfl ?_
              refine g_get dX5_told_84 flX5_104 rfl rfl ?_
              refine g_iret dX5_told_87 rfl ⟨_, _, rfl, rfl, ?_⟩
              exact ⟨_, rfl, Or.inl ⟨hx, mS_same _ _ _ _, by rw [mS_ne (by decide)]; exact f.ch⟩⟩
          · refine g_aload_n dX5_told_73 rfl rfl ?_
            refine g_get dX5_told_74 flX5_98 rfl rfl ?_
            refine g_iret dX5_told_77 rfl ⟨_, _, rfl, rfl, ?_⟩
            exact ⟨_, rfl, Or.inl ⟨hx, mS_same _ _ _ _, by rw [mS_ne (by decide)]; exact f.lg⟩⟩
        · refine g_aload_n dX5_told_63 rfl rfl ?_
          refine g_get dX5_told_64 flX5_113 rfl rfl ?_
          refine g_iret dX5_told_67 rfl ⟨_, _, rfl, rfl, ?_⟩
          exact ⟨_, rfl, Or.inl ⟨hx, mS_same _ _ _ _, by rw [mS_ne (by decide)]; exact f.an⟩⟩
      · refine g_aload_n dX5_told_53 rfl rfl ?_
        refine g_get dX5_told_54 flX5_110 rfl rfl ?_
        refine g_iret dX5_told_57 rfl ⟨_, _, rfl, rfl, ?_⟩
        exact ⟨_, rfl, Or.inl ⟨hx, mS_same _ _ _ _, by rw [mS_ne (by decide)]; exact f.vs⟩⟩
    · refine g_aload_n dX5_told_43 rfl rfl ?_
      refine cV0N (fun _ _ => rfl) dX5_told_44 mlX5_196 imX5_thereMany seX5_thereMany rfl rfl (m_thereMany _ (f.t 0).vs) (by decide) (Nat.le_of_ble_eq_true rfl) (Nat.le_of_ble_eq_true rfl) (Nat.le_of_ble_eq_true rfl) ?_
      rintro _ _ ⟨rfl, rfl⟩
      refine g_iret dX5_told_47 rfl ⟨_, _, rfl, rfl, ?_⟩
      exact ⟨_, rfl, Or.inl ⟨hx, mS_same _ _ _ _, rfl⟩⟩
  · exact absurd (by decide) c34
set_option maxRecDepth 100000 in
set_option maxHeartbeats 4000000 in
theorem m_told (S : gS) (x : Int32) (f : Fm S) : gCt MX5_told (2, 47) 0 0 [.ref 28, .int x] (wRf Γ τ S) (gN (wRf Γ τ) fun v S' => ∃ r : Int32, v = .int r ∧ (((¬ x < 0 ∧ ¬ 9 < x) ∧ S'.1 28 0 = 0 ∧ r = 0) ∨ (¬ (¬ x < 0 ∧ ¬ 9 < x) ∧ S'.1 28 0 = 2))) := by
  refine gCt.of (ls := [some (.ref 28), some (.int x), none, none, none]) 3 (by decide) rfl (Nat.le_of_ble_eq_true rfl) ?_
  refine g_aload_n dX5_told_0 rfl rfl ?_
  refine g_aload_n dX5_told_1 rfl rfl ?_
  refine g_get dX5_told_2 flX5_94 rfl rfl ?_
  refine g_if_ne (tgt := 12) dX5_told_5 (by decide) (fun c5 => ?_) (fun c5 => ?_)
  · refine g_iload_n dX5_told_12 rfl rfl ?_
    refine g_iconst (v := 0) dX5_told_13 (by decide) ?_
    refine g_bipush (v := 9) dX5_told_14 (by decide) ?_
    refine cS3N (fun _ _ => rfl) dX5_told_16 mlX5_133 isX5_in (m_in _ _ _ _) (by decide) (Nat.le_of_ble_eq_true rfl) (Nat.le_of_ble_eq_true rfl) (Nat.le_of_ble_eq_true rfl) ?_
    rintro _ _ ⟨rfl, rfl⟩
    refine g_if_ne (tgt := 26) dX5_told_19 (by decide) (fun c19 => ?_) (fun c19 => ?_)
    · refine g_iconst (v := 0) dX5_told_26 (by decide) ?_
      refine p_put dX5_told_27 fpX5_75 rfl (Nat.le_of_ble_eq_true rfl) (fun _ => rfl) (fun _ => rfl) (by with_reducible first | exact wS_28_0 _ _ _ _) ?_
      exact lg_told S x f (Classical.byContradiction fun q => c19 ((in9 x).mpr q))
    · refine g_iconst (v := 2) dX5_told_22 (by decide) ?_
      refine g_goto (tgt := 27) dX5_told_23 (by decide) ?_
      refine p_put dX5_told_27 fpX5_75 rfl (Nat.le_of_ble_eq_true rfl) (fun _ => rfl) (fun _ => rfl) (by with_reducible first | exact wS_28_0 _ _ _ _) ?_
      exact lb_told S x f ((in9 x).mp c19)
  · exact absurd c5 (by rw [f.op]; decide)
set_option maxRecDepth 100000 in
set_option maxHeartbeats 4000000 in
theorem lm_dif2 (S : gS) (a : Nat) (ha : a < 64) (f : Fm S) {Q : gR → gW → Prop} (kk : G MX5_differ (3, 64) 106 [some (.ref 28), some (.int (-1)), some (.int (-1)), some (.int 0), some (.int (nI a)), some (.int (nI 64))] [] (wRf Γ τ S) 0 0 Q) : ∀ (m i : Nat), i + m = 64 → G MX5_differ (3, 64) 60 [some (.ref 28), some (.int (-1)), some (.int (-1)), some (.int 0), some (.int (nI a)), some (.int (nI i))] [] (wRf Γ τ S) 0 0 Q := by
  intro m
  induction m with
  | zero =>
    intro i hi
    obtain rfl : i = 64 := by omega
    refine g_iload dX5_differ_60 rfl ?_
    refine g_bipush (v := 64) dX5_differ_62 (by decide) ?_
    refine g_icmp_ge (tgt := 106) dX5_differ_64 (by decide) (fun c64 => ?_) (fun c64 => ?_)
    · exact kk
    · exact absurd (show (64 : Int32) ≤ nI 64 by decide) c64
  | succ m ih =>
    intro i hi
    refine g_iload dX5_differ_60 rfl ?_
    refine g_bipush (v := 64) dX5_differ_62 (by decide) ?_
    refine g_icmp_ge (tgt := 106) dX5_differ_64 (by decide) (fun c64 => ?_) (fun c64 => ?_)
    · exact absurd c64 (nI_ge (b := 64) (by omega) (by decide))
    · refine g_iload_n dX5_differ_67 rfl rfl ?_
      refine g_aload_n dX5_differ_68 rfl rfl ?_
      refine g_iload_n dX5_differ_69 rfl rfl ?_
      refine g_iload dX5_differ_70 rfl ?_
      refine cV2N (fun _ _ => rfl) dX5_differ_72 mlX5_178 imX5_edges seX5_edges rfl rfl (m_edges _ a ha f) (by decide) (Nat.le_of_ble_eq_true rfl) (Nat.le_of_ble_eq_true rfl) (Nat.le_of_ble_eq_true rfl) ?_
      rintro _ _ ⟨rfl, rfl⟩
      refine g_aload_n dX5_differ_75 rfl rfl ?_
      refine g_iload_n dX5_differ_76 rfl rfl ?_
      refine g_iload dX5_differ_77 rfl ?_
      refine cV2N (fun _ _ => rfl) dX5_differ_79 mlX5_178 imX5_edges seX5_edges rfl rfl (m_edges _ a ha f) (by decide) (Nat.le_of_ble_eq_true rfl) (Nat.le_of_ble_eq_true rfl) (Nat.le_of_ble_eq_true rfl) ?_
      rintro _ _ ⟨rfl, rfl⟩
      refine g_lxor dX5_differ_82 ?_
      refine g_iload dX5_differ_83 rfl ?_
      refine g_lushr dX5_differ_85 ?_
      refine g_lconst (v := 1) dX5_differ_86 (by decide) ?_
      refine g_land dX5_differ_87 ?_
      refine g_lconst (v := 1) dX5_differ_88 (by decide) ?_
      refine g_lcmp dX5_differ_89 ?_
      refine g_if_ne (tgt := 97) dX5_differ_90 (by decide) (fun c90 => ?_) (fun c90 => ?_)
      · refine g_iconst (v := 0) dX5_differ_97 (by decide) ?_
        refine g_iadd dX5_differ_98 ?_
        refine g_istore_n dX5_differ_99 rfl (by decide) ?_
        refine g_iinc dX5_differ_100 rfl (by decide) (by first | exact gi_1 _ | exact gi_p _) ?_
        refine g_goto (tgt := 60) dX5_differ_103 (by decide) ?_
        exact ih (i + 1) (by omega)
      · exact absurd c90 (cmp_z _)
set_option maxRecDepth 100000 in
set_option maxHeartbeats 4000000 in
theorem lm_dif1 (S : gS) (f : Fm S) {Q : gR → gW → Prop} (kk : ∀ l5 : Option Value, G MX5_differ (3, 64) 112 [some (.ref 28), some (.int (-1)), some (.int (-1)), some (.int 0), some (.int (nI 64)), l5] [] (wRf Γ τ S) 0 0 Q) : ∀ (m a : Nat) (l5 : Option Value), a + m = 64 → G MX5_differ (3, 64) 50 [some (.ref 28), some (.int (-1)), some (.int (-1)), some (.int 0), some (.int (nI a)), l5] [] (wRf Γ τ S) 0 0 Q := by
  intro m
  induction m with
  | zero =>
    intro a l5 hi
    obtain rfl : a = 64 := by omega
    refine g_iload dX5_differ_50 rfl ?_
    refine g_bipush (v := 64) dX5_differ_52 (by decide) ?_
    refine g_icmp_ge (tgt := 112) dX5_differ_54 (by decide) (fun c54 => ?_) (fun c54 => ?_)
    · exact kk _
    · exact absurd (show (64 : Int32) ≤ nI 64 by decide) c54
  | succ m ih =>
    intro a l5 hi
    refine g_iload dX5_differ_50 rfl ?_
    refine g_bipush (v := 64) dX5_differ_52 (by decide) ?_
    refine g_icmp_ge (tgt := 112) dX5_differ_54 (by decide) (fun c54 => ?_) (fun c54 => ?_)
    · exact absurd c54 (nI_ge (b := 64) (by omega) (by decide))
    · refine g_iconst (v := 0) dX5_differ_57 (by decide) ?_
      refine g_istore dX5_differ_58 (by decide) ?_
      refine lm_dif2 S a (by omega) f ?_ 64 0 rfl
      refine g_iinc dX5_differ_106 rfl (by decide) (by first | exact gi_1 _ | exact gi_p _) ?_
      refine g_goto (tgt := 50) dX5_differ_109 (by decide) ?_
      exact ih (a + 1) _ (by omega)
set_option maxRecDepth 100000 in
set_option maxHeartbeats 4000000 in
theorem lb_differ (S : gS) (x y : Int32) (f : Fm S) (hb : ¬ (x = -1 ∧ y = -1)) : G MX5_differ (3, 64) 36 [some (.ref 28), some (.int x), some (.int y), none, none, none] [] (wRf Γ τ (mS S 28 0 2)) 0 0 (gN (wRf Γ τ) fun v S' => ∃ r : Int32, v = .int r ∧ (((x = -1 ∧ y = -1) ∧ S'.1 28 0 = 0 ∧ r = 0) ∨ (¬ (x = -1 ∧ y = -1) ∧ S'.1 28 0 = 2))) := by
  refine g_aload_n dX5_differ_36 rfl rfl ?_
  refine g_get dX5_differ_37 flX5_75 rfl rfl ?_
  rw [mS_same]
  refine g_if_le (tgt := 45) dX5_differ_40 (by decide) (fun c40 => ?_) (fun c40 => ?_)
  · exact absurd c40 (by decide)
  · refine g_iconst (v := 0) dX5_differ_43 (by decide) ?_
    refine g_iret dX5_differ_44 rfl ⟨_, _, rfl, rfl, ?_⟩
    exact ⟨_, rfl, Or.inr ⟨hb, mS_same _ _ _ _⟩⟩
set_option maxRecDepth 100000 in
set_option maxHeartbeats 4000000 in
theorem lg_differ (S : gS) (x y : Int32) (f : Fm S) (hx : x = -1) (hy : y = -1) : G MX5_differ (3, 64) 36 [some (.ref 28), some (.int x), some (.int y), none, none, none] [] (wRf Γ τ (mS S 28 0 0)) 0 0 (gN (wRf Γ τ) fun v S' => ∃ r : Int32, v = .int r ∧ (((x = -1 ∧ y = -1) ∧ S'.1 28 0 = 0 ∧ r = 0) ∨ (¬ (x = -1 ∧ y = -1) ∧ S'.1 28 0 = 2))) := by
  subst hx
  subst hy
  refine g_aload_n dX5_differ_36 rfl rfl ?_
  refine g_get dX5_differ_37 flX5_75 rfl rfl ?_
  rw [mS_same]
  refine g_if_le (tgt := 45) dX5_differ_40 (by decide) (fun c40 => ?_) (fun c40 => ?_)
  · refine g_iconst (v := 0) dX5_differ_45 (by decide) ?_
    refine g_istore_n dX5_differ_46 rfl (by decide) ?_
    refine g_iconst (v := 0) dX5_differ_47 (by decide) ?_
    refine g_istore dX5_differ_48 (by decide) ?_
    refine lm_dif1 _ (f.t 0) (fun l5 => ?_) 64 0 _ rfl
    refine g_iload_n dX5_differ_112 rfl rfl ?_
    refine g_iret dX5_differ_113 rfl ⟨_, _, rfl, rfl, ?_⟩
    exact ⟨_, rfl, Or.inl ⟨⟨rfl, rfl⟩, mS_same _ _ _ _, rfl⟩⟩
  · exact absurd (by decide) c40
set_option maxRecDepth 100000 in
set_option maxHeartbeats 4000000 in
theorem m_differ (S : gS) (x y : Int32) (f : Fm S) : gCt MX5_differ (3, 64) 0 0 [.ref 28, .int x, .int y] (wRf Γ τ S) (gN (wRf Γ τ) fun v S' => ∃ r : Int32, v = .int r ∧ (((x = -1 ∧ y = -1) ∧ S'.1 28 0 = 0 ∧ r = 0) ∨ (¬ (x = -1 ∧ y = -1) ∧ S'.1 28 0 = 2))) := by
  refine gCt.of (ls := [some (.ref 28), some (.int x), some (.int y), none, none, none]) 3 (by decide) rfl (Nat.le_of_ble_eq_true rfl) ?_
  refine g_aload_n dX5_differ_0 rfl rfl ?_
  refine g_aload_n dX5_differ_1 rfl rfl ?_
  refine g_get dX5_differ_2 flX5_94 rfl rfl ?_
  refine g_if_ne (tgt := 12) dX5_differ_5 (by decide) (fun c5 => ?_) (fun c5 => ?_)
  · refine g_aload_n dX5_differ_12 rfl rfl ?_
    refine g_iload_n dX5_differ_13 rfl rfl ?_
    refine cV1N (fun _ _ => rfl) dX5_differ_14 mlX5_203 imX5_isVersion seX5_isVersion rfl rfl (m_isVersion _ _ f) (by decide) (Nat.le_of_ble_eq_true rfl) (Nat.le_of_ble_eq_true rfl) (Nat.le_of_ble_eq_true rfl) ?_
    rintro _ _ ⟨rfl, rfl⟩
    refine g_if_eq (tgt := 28) dX5_differ_17 (by decide) (fun c17 => ?_) (fun c17 => ?_)
    · refine g_iconst (v := 2) dX5_differ_28 (by decide) ?_
      refine g_goto (tgt := 33) dX5_differ_29 (by decide) ?_
      refine p_put dX5_differ_33 fpX5_75 rfl (Nat.le_of_ble_eq_true rfl) (fun _ => rfl) (fun _ => rfl) (by with_reducible first | exact wS_28_0 _ _ _ _) ?_
      first | exact lb_differ S x y f (fun q => absurd c25 (by rw [if_pos q.2]; decide)) | exact lb_differ S x y f (fun q => absurd c17 (by rw [if_pos q.1]; decide))
    · refine g_aload_n dX5_differ_20 rfl rfl ?_
      refine g_iload_n dX5_differ_21 rfl rfl ?_
      refine cV1N (fun _ _ => rfl) dX5_differ_22 mlX5_203 imX5_isVersion seX5_isVersion rfl rfl (m_isVersion _ _ f) (by decide) (Nat.le_of_ble_eq_true rfl) (Nat.le_of_ble_eq_true rfl) (Nat.le_of_ble_eq_true rfl) ?_
      rintro _ _ ⟨rfl, rfl⟩
      refine g_if_ne (tgt := 32) dX5_differ_25 (by decide) (fun c25 => ?_) (fun c25 => ?_)
      · refine g_iconst (v := 0) dX5_differ_32 (by decide) ?_
        refine p_put dX5_differ_33 fpX5_75 rfl (Nat.le_of_ble_eq_true rfl) (fun _ => rfl) (fun _ => rfl) (by with_reducible first | exact wS_28_0 _ _ _ _) ?_
        exact lg_differ S x y f (Classical.byContradiction fun q => c17 (by rw [if_neg q])) (Classical.byContradiction fun q => c25 (by rw [if_neg q]))
      · refine g_iconst (v := 2) dX5_differ_28 (by decide) ?_
        refine g_goto (tgt := 33) dX5_differ_29 (by decide) ?_
        refine p_put dX5_differ_33 fpX5_75 rfl (Nat.le_of_ble_eq_true rfl) (fun _ => rfl) (fun _ => rfl) (by with_reducible first | exact wS_28_0 _ _ _ _) ?_
        first | exact lb_differ S x y f (fun q => absurd c25 (by rw [if_pos q.2]; decide)) | exact lb_differ S x y f (fun q => absurd c17 (by rw [if_pos q.1]; decide))
  · exact absurd c5 (by rw [f.op]; decide)
set_option maxRecDepth 100000 in
set_option maxHeartbeats 4000000 in
theorem m_keep (S : gS) (f : Fm S) : gCt MX5_keep (3, 87) 0 0 [.ref 28] (wRf Γ τ S) (gN (wRf Γ τ) fun v S' => v = .int 1 ∧ S'.1 28 0 = 0) := by
  refine gCt.of (ls := [some (.ref 28)]) 0 (by decide) rfl (Nat.le_of_ble_eq_true rfl) ?_
  refine g_aload_n dX5_keep_0 rfl rfl ?_
  refine g_aload_n dX5_keep_1 rfl rfl ?_
  refine g_get dX5_keep_2 flX5_94 rfl rfl ?_
  refine g_if_eq (tgt := 12) dX5_keep_5 (by decide) (fun c5 => ?_) (fun c5 => ?_)
  · exact absurd c5 (by rw [f.op]; decide)
  · refine g_iconst (v := 0) dX5_keep_8 (by decide) ?_
    refine g_goto (tgt := 13) dX5_keep_9 (by decide) ?_
    refine p_put dX5_keep_13 fpX5_75 rfl (Nat.le_of_ble_eq_true rfl) (fun _ => rfl) (fun _ => rfl) (by with_reducible first | exact wS_28_0 _ _ _ _) ?_
    refine g_aload_n dX5_keep_16 rfl rfl ?_
    refine g_get dX5_keep_17 flX5_75 rfl rfl ?_
    rw [mS_same]
    refine g_if_le (tgt := 25) dX5_keep_20 (by decide) (fun c20 => ?_) (fun c20 => ?_)
    · refine g_aload_n dX5_keep_25 rfl rfl ?_
      refine g_dup dX5_keep_26 rfl ?_
      refine g_get dX5_keep_27 flX5_88 rfl rfl ?_
      refine g_iconst (v := 1) dX5_keep_30 (by decide) ?_
      refine g_iadd dX5_keep_31 ?_
      refine p_put dX5_keep_32 fpX5_88 rfl (Nat.le_of_ble_eq_true rfl) (fun _ => rfl) (fun _ => rfl) (by with_reducible first | exact wS_28_4 _ _ _ _) ?_
      refine g_aload_n dX5_keep_35 rfl rfl ?_
      refine g_aload_n dX5_keep_36 rfl rfl ?_
      refine g_get dX5_keep_37 flX5_88 rfl rfl ?_
      refine cV10 (fun _ _ => rfl) dX5_keep_40 mlX5_91 imX5_putHead seX5_putHead rfl rfl (m_putHead _ 0 _ (by rw [mS_ne (by decide), mS_ne (by decide)]; exact f.wr) (by decide)) (by decide) (Nat.le_of_ble_eq_true rfl) (Nat.le_of_ble_eq_true rfl) (Nat.le_of_ble_eq_true rfl) ?_
      rintro S2 ⟨pl, -, -, hS2⟩
      refine g_aload_n dX5_keep_43 rfl rfl ?_
      refine g_get dX5_keep_44 flX5_88 rfl rfl ?_
      refine g_iret dX5_keep_47 rfl ⟨_, _, rfl, rfl, ?_⟩
      refine ⟨?_, ?_⟩
      · rw [hS2.2.2.1 4 (by decide), mS_same, mS_ne (by decide), f.tn]; rfl
      · rw [hS2.2.2.1 0 (by decide), mS_ne (by decide), mS_same]
    · exact absurd (by decide) c20
set_option maxRecDepth 100000 in
set_option maxHeartbeats 4000000 in
theorem m_crash (S : gS) (x : Int32) (f : Fm S) : gCt MX5_crash (0, 0) 0 0 [.ref 28, .int x] (wRf Γ τ S) (gN (wRf Γ τ) fun v S' => v = .int 0 ∧ S'.1 28 0 = 0) := by
  refine gCt.of (ls := [some (.ref 28), some (.int x), none, none]) 2 (by decide) rfl (Nat.le_of_ble_eq_true rfl) ?_
  refine g_aload_n dX5_crash_0 rfl rfl ?_
  refine g_iconst (v := 0) dX5_crash_1 (by decide) ?_
  refine p_put dX5_crash_2 fpX5_75 rfl (Nat.le_of_ble_eq_true rfl) (fun _ => rfl) (fun _ => rfl) (by with_reducible first | exact wS_28_0 _ _ _ _) ?_
  refine g_aload_n dX5_crash_5 rfl rfl ?_
  refine g_get dX5_crash_6 flX5_94 rfl rfl ?_
  refine g_if_ne (tgt := 14) dX5_crash_9 (by decide) (fun c9 => ?_) (fun c9 => ?_)
  · refine g_aload_n dX5_crash_14 rfl rfl ?_
    refine g_iconst (v := 0) dX5_crash_15 (by decide) ?_
    refine p_put dX5_crash_16 fpX5_94 rfl (Nat.le_of_ble_eq_true rfl) (fun _ => rfl) (fun _ => rfl) (by with_reducible first | exact wS_28_3 _ _ _ _) ?_
    refine g_iload_n dX5_crash_19 rfl rfl ?_
    refine g_if_ge (tgt := 27) dX5_crash_20 (by decide) (fun c20 => ?_) (fun c20 => ?_)
    · refine g_iload_n dX5_crash_27 rfl rfl ?_
      refine g_aload_n dX5_crash_28 rfl rfl ?_
      refine g_get dX5_crash_29 flX5_85 rfl rfl ?_
      refine g_icmp_ge (tgt := 39) dX5_crash_32 (by decide) (fun c32 => ?_) (fun c32 => ?_)
      · refine g_aload_n dX5_crash_39 rfl rfl ?_
        refine g_get dX5_crash_40 flX5_85 rfl rfl ?_
        refine g_eqi (y := 0) (by first | rfl | (rw [mS_ne (by decide), mS_ne (by decide)]; exact f.wr)) ?_
        refine g_istore_n dX5_crash_43 rfl (by decide) ?_
        refine g_iconst (v := 0) dX5_crash_44 (by decide) ?_
        refine g_istore_n dX5_crash_45 rfl (by decide) ?_
        refine g_iload_n dX5_crash_46 rfl rfl ?_
        refine g_iload_n dX5_crash_47 rfl rfl ?_
        refine g_icmp_ge (tgt := 90) dX5_crash_48 (by decide) (fun c48 => ?_) (fun c48 => ?_)
        · refine g_iload_n dX5_crash_90 rfl rfl ?_
          refine g_iret dX5_crash_91 rfl ⟨_, _, rfl, rfl, ?_⟩
          exact ⟨rfl, by rw [mS_ne (by decide), mS_same]⟩
        · exact absurd (Int32.le_refl _) c48
      · exact absurd (by rw [mS_ne (by decide), mS_ne (by decide), f.wr]; exact c20) c32
    · refine g_iconst (v := 0) dX5_crash_23 (by decide) ?_
      refine g_goto (tgt := 43) dX5_crash_24 (by decide) ?_
      refine g_eqi (y := 0) (by first | rfl | (rw [mS_ne (by decide), mS_ne (by decide)]; exact f.wr)) ?_
      refine g_istore_n dX5_crash_43 rfl (by decide) ?_
      refine g_iconst (v := 0) dX5_crash_44 (by decide) ?_
      refine g_istore_n dX5_crash_45 rfl (by decide) ?_
      refine g_iload_n dX5_crash_46 rfl rfl ?_
      refine g_iload_n dX5_crash_47 rfl rfl ?_
      refine g_icmp_ge (tgt := 90) dX5_crash_48 (by decide) (fun c48 => ?_) (fun c48 => ?_)
      · refine g_iload_n dX5_crash_90 rfl rfl ?_
        refine g_iret dX5_crash_91 rfl ⟨_, _, rfl, rfl, ?_⟩
        exact ⟨rfl, by rw [mS_ne (by decide), mS_same]⟩
      · exact absurd (Int32.le_refl _) c48
  · exact absurd c9 (by rw [mS_ne (by decide), f.op]; decide)
def mhr (f : Nat → Int32) (a : Nat) : Int32 := if lg_cmp (mnum f (a + 8) 8) (msum f a 1 8) = 0 then (if 0 < lg_cmp (mnum f (a + 4) 4) 24000 then 0 else 1) else 0
theorem mhr_0 : mhr fdm 0 = 1 := by decide +kernel
theorem mhr_16 : mhr fdm 16 = 0 := by decide +kernel
theorem mln_0 : (mnum fdm (0 + 4) 4).toInt32 = 0 := by decide +kernel
set_option maxRecDepth 100000 in
set_option maxHeartbeats 4000000 in
theorem m_isHead0 (S : gS) : gCt MX5_isHead (1, 27) 0 0 [.ref 28, .int 0] (wRf Γ τ S) (gN (wRf Γ τ) fun v S' => v = .int (mhr (S.2.1 29) 0) ∧ S = S') := by
  refine gCt.of (ls := [some (.ref 28), some (.int 0)]) 0 (by decide) rfl (Nat.le_of_ble_eq_true rfl) ?_
  refine g_aload_n dX5_isHead_0 rfl rfl ?_
  refine g_iload_n dX5_isHead_1 rfl rfl ?_
  refine g_bipush (v := 8) dX5_isHead_2 (by decide) ?_
  refine g_iadd dX5_isHead_4 ?_
  refine g_eqi (y := nI (0 + 8)) (rfl) ?_
  refine g_bipush (v := 8) dX5_isHead_5 (by decide) ?_
  refine cV2N (fun _ _ => rfl) dX5_isHead_7 mlX5_137 imX5_number seX5_number rfl rfl (m_number _ (0 + 8) 8 (by decide)) (by decide) (Nat.le_of_ble_eq_true rfl) (Nat.le_of_ble_eq_true rfl) (Nat.le_of_ble_eq_true rfl) ?_
  rintro _ _ ⟨rfl, rfl⟩
  refine g_aload_n dX5_isHead_10 rfl rfl ?_
  refine g_lconst (v := 1) dX5_isHead_11 (by decide) ?_
  refine g_iload_n dX5_isHead_12 rfl rfl ?_
  refine g_bipush (v := 8) dX5_isHead_13 (by decide) ?_
  refine cV3N (fun _ _ => rfl) dX5_isHead_15 mlX5_126 imX5_sum seX5_sum rfl rfl (m_sum _ _ 0 8 (by decide)) (by decide) (Nat.le_of_ble_eq_true rfl) (Nat.le_of_ble_eq_true rfl) (Nat.le_of_ble_eq_true rfl) ?_
  rintro _ _ ⟨rfl, rfl⟩
  refine g_lcmp dX5_isHead_18 ?_
  refine g_if_ne (tgt := 41) dX5_isHead_19 (by decide) (fun c19 => ?_) (fun c19 => ?_)
  · refine g_iconst (v := 0) dX5_isHead_41 (by decide) ?_
    refine g_zret dX5_isHead_42 rfl (by first | rfl | assumption) ⟨_, _, rfl, rfl, ?_⟩
    refine ⟨?_, rfl⟩
    unfold mhr
    first | rw [if_pos c19, if_pos c34] | rw [if_pos c19, if_neg c34] | rw [if_neg c19]
  · refine g_aload_n dX5_isHead_22 rfl rfl ?_
    refine g_iload_n dX5_isHead_23 rfl rfl ?_
    refine g_iconst (v := 4) dX5_isHead_24 (by decide) ?_
    refine g_iadd dX5_isHead_25 ?_
    refine g_eqi (y := nI (0 + 4)) (rfl) ?_
    refine g_iconst (v := 4) dX5_isHead_26 (by decide) ?_
    refine cV2N (fun _ _ => rfl) dX5_isHead_27 mlX5_137 imX5_number seX5_number rfl rfl (m_number _ (0 + 4) 4 (by decide)) (by decide) (Nat.le_of_ble_eq_true rfl) (Nat.le_of_ble_eq_true rfl) (Nat.le_of_ble_eq_true rfl) ?_
    rintro _ _ ⟨rfl, rfl⟩
    refine g_ldc2 dX5_isHead_30 coX5_188 ?_
    refine g_lcmp dX5_isHead_33 ?_
    refine g_if_gt (tgt := 41) dX5_isHead_34 (by decide) (fun c34 => ?_) (fun c34 => ?_)
    · refine g_iconst (v := 0) dX5_isHead_41 (by decide) ?_
      refine g_zret dX5_isHead_42 rfl (by first | rfl | assumption) ⟨_, _, rfl, rfl, ?_⟩
      refine ⟨?_, rfl⟩
      unfold mhr
      first | rw [if_pos c19, if_pos c34] | rw [if_pos c19, if_neg c34] | rw [if_neg c19]
    · refine g_iconst (v := 1) dX5_isHead_37 (by decide) ?_
      refine g_goto (tgt := 42) dX5_isHead_38 (by decide) ?_
      refine g_zret dX5_isHead_42 rfl (by first | rfl | assumption) ⟨_, _, rfl, rfl, ?_⟩
      refine ⟨?_, rfl⟩
      unfold mhr
      first | rw [if_pos c19, if_pos c34] | rw [if_pos c19, if_neg c34] | rw [if_neg c19]
set_option maxRecDepth 100000 in
set_option maxHeartbeats 4000000 in
theorem m_isHead16 (S : gS) : gCt MX5_isHead (1, 27) 0 0 [.ref 28, .int 16] (wRf Γ τ S) (gN (wRf Γ τ) fun v S' => v = .int (mhr (S.2.1 29) 16) ∧ S = S') := by
  refine gCt.of (ls := [some (.ref 28), some (.int 16)]) 0 (by decide) rfl (Nat.le_of_ble_eq_true rfl) ?_
  refine g_aload_n dX5_isHead_0 rfl rfl ?_
  refine g_iload_n dX5_isHead_1 rfl rfl ?_
  refine g_bipush (v := 8) dX5_isHead_2 (by decide) ?_
  refine g_iadd dX5_isHead_4 ?_
  refine g_eqi (y := nI (16 + 8)) (rfl) ?_
  refine g_bipush (v := 8) dX5_isHead_5 (by decide) ?_
  refine cV2N (fun _ _ => rfl) dX5_isHead_7 mlX5_137 imX5_number seX5_number rfl rfl (m_number _ (16 + 8) 8 (by decide)) (by decide) (Nat.le_of_ble_eq_true rfl) (Nat.le_of_ble_eq_true rfl) (Nat.le_of_ble_eq_true rfl) ?_
  rintro _ _ ⟨rfl, rfl⟩
  refine g_aload_n dX5_isHead_10 rfl rfl ?_
  refine g_lconst (v := 1) dX5_isHead_11 (by decide) ?_
  refine g_iload_n dX5_isHead_12 rfl rfl ?_
  refine g_bipush (v := 8) dX5_isHead_13 (by decide) ?_
  refine cV3N (fun _ _ => rfl) dX5_isHead_15 mlX5_126 imX5_sum seX5_sum rfl rfl (m_sum _ _ 16 8 (by decide)) (by decide) (Nat.le_of_ble_eq_true rfl) (Nat.le_of_ble_eq_true rfl) (Nat.le_of_ble_eq_true rfl) ?_
  rintro _ _ ⟨rfl, rfl⟩
  refine g_lcmp dX5_isHead_18 ?_
  refine g_if_ne (tgt := 41) dX5_isHead_19 (by decide) (fun c19 => ?_) (fun c19 => ?_)
  · refine g_iconst (v := 0) dX5_isHead_41 (by decide) ?_
    refine g_zret dX5_isHead_42 rfl (by first | rfl | assumption) ⟨_, _, rfl, rfl, ?_⟩
    refine ⟨?_, rfl⟩
    unfold mhr
    first | rw [if_pos c19, if_pos c34] | rw [if_pos c19, if_neg c34] | rw [if_neg c19]
  · refine g_aload_n dX5_isHead_22 rfl rfl ?_
    refine g_iload_n dX5_isHead_23 rfl rfl ?_
    refine g_iconst (v := 4) dX5_isHead_24 (by decide) ?_
    refine g_iadd dX5_isHead_25 ?_
    refine g_eqi (y := nI (16 + 4)) (rfl) ?_
    refine g_iconst (v := 4) dX5_isHead_26 (by decide) ?_
    refine cV2N (fun _ _ => rfl) dX5_isHead_27 mlX5_137 imX5_number seX5_number rfl rfl (m_number _ (16 + 4) 4 (by decide)) (by decide) (Nat.le_of_ble_eq_true rfl) (Nat.le_of_ble_eq_true rfl) (Nat.le_of_ble_eq_true rfl) ?_
    rintro _ _ ⟨rfl, rfl⟩
    refine g_ldc2 dX5_isHead_30 coX5_188 ?_
    refine g_lcmp dX5_isHead_33 ?_
    refine g_if_gt (tgt := 41) dX5_isHead_34 (by decide) (fun c34 => ?_) (fun c34 => ?_)
    · refine g_iconst (v := 0) dX5_isHead_41 (by decide) ?_
      refine g_zret dX5_isHead_42 rfl (by first | rfl | assumption) ⟨_, _, rfl, rfl, ?_⟩
      refine ⟨?_, rfl⟩
      unfold mhr
      first | rw [if_pos c19, if_pos c34] | rw [if_pos c19, if_neg c34] | rw [if_neg c19]
    · refine g_iconst (v := 1) dX5_isHead_37 (by decide) ?_
      refine g_goto (tgt := 42) dX5_isHead_38 (by decide) ?_
      refine g_zret dX5_isHead_42 rfl (by first | rfl | assumption) ⟨_, _, rfl, rfl, ?_⟩
      refine ⟨?_, rfl⟩
      unfold mhr
      first | rw [if_pos c19, if_pos c34] | rw [if_pos c19, if_neg c34] | rw [if_neg c19]
theorem mfor_k (S : gS) (j : Nat) (h : j ≠ 9 ∧ j ≠ 10 ∧ j ≠ 11 ∧ j ≠ 14 ∧ j ≠ 16 ∧ j ≠ 19) : (mfor S).1 28 j = S.1 28 j := by
  show (msc S).1 28 j = S.1 28 j
  unfold msc
  rw [mS_ne (fun z => h.2.2.2.2.2 z.2), mS_ne (fun z => h.2.2.2.2.1 z.2), mS_ne (fun z => h.2.2.2.1 z.2), mS_ne (fun z => h.2.2.1 z.2), mS_ne (fun z => h.2.1 z.2), mS_ne (fun z => h.1 z.2)]
theorem mfor_9 (S : gS) : (mfor S).1 28 9 = 0 := by
  show (msc S).1 28 9 = 0
  unfold msc
  rw [mS_ne (by decide), mS_ne (by decide), mS_ne (by decide), mS_ne (by decide), mS_ne (by decide), mS_same]
set_option maxRecDepth 100000 in
set_option maxHeartbeats 4000000 in
theorem m_open (S : gS) (f : Fm S) : gCt MX5_open (2, 48) 0 0 [.ref 28] (wRf Γ τ S) (gN (wRf Γ τ) fun v S' => v = .int 0 ∧ S'.1 28 0 = 0) := by
  refine gCt.of (ls := [some (.ref 28), none, none, none, none, none]) 5 (by decide) rfl (Nat.le_of_ble_eq_true rfl) ?_
  refine g_aload_n dX5_open_0 rfl rfl ?_
  refine g_iconst (v := 0) dX5_open_1 (by decide) ?_
  refine p_put dX5_open_2 fpX5_75 rfl (Nat.le_of_ble_eq_true rfl) (fun _ => rfl) (fun _ => rfl) (by with_reducible first | exact wS_28_0 _ _ _ _) ?_
  refine g_aload_n dX5_open_5 rfl rfl ?_
  refine g_iconst (v := 0) dX5_open_6 (by decide) ?_
  refine p_put dX5_open_7 fpX5_94 rfl (Nat.le_of_ble_eq_true rfl) (fun _ => rfl) (fun _ => rfl) (by with_reducible first | exact wS_28_3 _ _ _ _) ?_
  refine g_aload_n dX5_open_10 rfl rfl ?_
  refine g_iconst (v := 0) dX5_open_11 (by decide) ?_
  refine cV1N (fun _ _ => rfl) dX5_open_12 mlX5_190 imX5_isHead seX5_isHead rfl rfl (m_isHead0 _) (by decide) (Nat.le_of_ble_eq_true rfl) (Nat.le_of_ble_eq_true rfl) (Nat.le_of_ble_eq_true rfl) ?_
  rintro _ _ ⟨rfl, rfl⟩
  refine g_eqi (y := 1) (show (mhr (S.2.1 29) 0) = 1 by rw [f.dk]; exact mhr_0) ?_
  refine g_istore_n dX5_open_15 rfl (by decide) ?_
  refine g_aload_n dX5_open_16 rfl rfl ?_
  refine g_bipush (v := 16) dX5_open_17 (by decide) ?_
  refine cV1N (fun _ _ => rfl) dX5_open_19 mlX5_190 imX5_isHead seX5_isHead rfl rfl (m_isHead16 _) (by decide) (Nat.le_of_ble_eq_true rfl) (Nat.le_of_ble_eq_true rfl) (Nat.le_of_ble_eq_true rfl) ?_
  rintro _ _ ⟨rfl, rfl⟩
  refine g_eqi (y := 0) (show (mhr (S.2.1 29) 16) = 0 by rw [f.dk]; exact mhr_16) ?_
  refine g_istore_n dX5_open_22 rfl (by decide) ?_
  refine g_iload_n dX5_open_23 rfl rfl ?_
  refine g_if_ne (tgt := 33) dX5_open_24 (by decide) (fun c24 => ?_) (fun c24 => ?_)
  · refine g_iload_n dX5_open_33 rfl rfl ?_
    refine g_if_eq (tgt := 62) dX5_open_34 (by decide) (fun c34 => ?_) (fun c34 => ?_)
    · refine g_iconst (v := 0) dX5_open_62 (by decide) ?_
      refine g_istore_n dX5_open_63 rfl (by decide) ?_
      refine g_iload_n dX5_open_64 rfl rfl ?_
      refine g_if_eq (tgt := 73) dX5_open_65 (by decide) (fun c65 => ?_) (fun c65 => ?_)
      · refine g_iconst (v := 0) dX5_open_73 (by decide) ?_
        refine g_istore dX5_open_74 (by decide) ?_
        refine g_aload_n dX5_open_76 rfl rfl ?_
        refine g_aload_n dX5_open_77 rfl rfl ?_
        refine g_iload dX5_open_78 rfl ?_
        refine g_iconst (v := 4) dX5_open_80 (by decide) ?_
        refine cV2N (fun _ _ => rfl) dX5_open_81 mlX5_137 imX5_number seX5_number rfl rfl (m_number _ 0 4 (by decide)) (by decide) (Nat.le_of_ble_eq_true rfl) (Nat.le_of_ble_eq_true rfl) (Nat.le_of_ble_eq_true rfl) ?_
        rintro _ _ ⟨rfl, rfl⟩
        refine g_l2i dX5_open_84 ?_
        refine p_put dX5_open_85 fpX5_88 rfl (Nat.le_of_ble_eq_true rfl) (fun _ => rfl) (fun _ => rfl) (by with_reducible first | exact wS_28_4 _ _ _ _) ?_
        refine g_aload_n dX5_open_88 rfl rfl ?_
        refine g_iload dX5_open_89 rfl ?_
        refine g_iconst (v := 4) dX5_open_91 (by decide) ?_
        refine g_iadd dX5_open_92 ?_
        refine g_eqi (y := nI (0 + 4)) (rfl) ?_
        refine g_iconst (v := 4) dX5_open_93 (by decide) ?_
        refine cV2N (fun _ _ => rfl) dX5_open_94 mlX5_137 imX5_number seX5_number rfl rfl (m_number _ (0 + 4) 4 (by decide)) (by decide) (Nat.le_of_ble_eq_true rfl) (Nat.le_of_ble_eq_true rfl) (Nat.le_of_ble_eq_true rfl) ?_
        rintro _ _ ⟨rfl, rfl⟩
        refine g_l2i dX5_open_97 ?_
        refine g_eqi (y := 0) (by show (mnum (S.2.1 29) (0 + 4) 4).toInt32 = 0; rw [f.dk]; exact mln_0) ?_
        refine g_istore dX5_open_98 (by decide) ?_
        refine g_aload_n dX5_open_100 rfl rfl ?_
        refine cV00 (fun _ _ => rfl) dX5_open_101 mlX5_82 imX5_forget seX5_forget rfl rfl (m_forget _) (by decide) (Nat.le_of_ble_eq_true rfl) (Nat.le_of_ble_eq_true rfl) (Nat.le_of_ble_eq_true rfl) ?_
        rintro _ rfl
        refine g_aload_n dX5_open_104 rfl rfl ?_
        refine g_get dX5_open_105 flX5_98 rfl rfl ?_
        refine g_iload dX5_open_108 rfl ?_
        refine g_icmp_ge (tgt := 168) dX5_open_110 (by decide) (fun c110 => ?_) (fun c110 => ?_)
        · refine g_aload_n dX5_open_168 rfl rfl ?_
          refine g_iconst (v := 0) dX5_open_169 (by decide) ?_
          refine p_put dX5_open_170 fpX5_85 rfl (Nat.le_of_ble_eq_true rfl) (fun _ => rfl) (fun _ => rfl) (by with_reducible first | exact wS_28_7 _ _ _ _) ?_
          refine g_aload_n dX5_open_173 rfl rfl ?_
          refine g_iconst (v := 1) dX5_open_174 (by decide) ?_
          refine p_put dX5_open_175 fpX5_94 rfl (Nat.le_of_ble_eq_true rfl) (fun _ => rfl) (fun _ => rfl) (by with_reducible first | exact wS_28_3 _ _ _ _) ?_
          refine g_aload_n dX5_open_178 rfl rfl ?_
          refine cV0N (fun _ _ => rfl) dX5_open_179 mlX5_196 imX5_thereMany seX5_thereMany rfl rfl (m_thereMany _ (by rfl)) (by decide) (Nat.le_of_ble_eq_true rfl) (Nat.le_of_ble_eq_true rfl) (Nat.le_of_ble_eq_true rfl) ?_
          rintro _ _ ⟨rfl, rfl⟩
          refine g_iret dX5_open_182 rfl ⟨_, _, rfl, rfl, ?_⟩
          refine ⟨rfl, ?_⟩
          rw [mS_ne (by decide), mS_ne (by decide), mfor_k _ _ (by decide), mS_ne (by decide), mS_ne (by decide), mS_same]
        · exact absurd (by rw [mfor_9]; exact Int32.le_refl _) c110
      · exact absurd rfl c65
    · exact absurd rfl c34
  · exact absurd c24 (by decide)
set_option maxRecDepth 100000 in
set_option maxHeartbeats 4000000 in
theorem kb5 (x : Int32) (s0 : Nat → Nat → Int32) {Q : gR → gW → Prop} (kk : ∀ T : gS, T.1 = s0 → G MX5_keepBeside (0, 0) 275 [some (.ref 28), some (.int x), some (.int (nI 100))] [] (wRf Γ τ T) 0 0 Q) : ∀ (m i : Nat) (T : gS), i + m = 100 → T.1 = s0 → G MX5_keepBeside (0, 0) 184 [some (.ref 28), some (.int x), some (.int (nI i))] [] (wRf Γ τ T) 0 0 Q := by
  intro m
  induction m with
  | zero =>
    intro i T hi hT
    obtain rfl : i = 100 := by omega
    refine g_iload_n dX5_keepBeside_184 rfl rfl ?_
    refine g_bipush (v := 100) dX5_keepBeside_185 (by decide) ?_
    refine g_icmp_ge (tgt := 275) dX5_keepBeside_187 (by decide) (fun c187 => ?_) (fun c187 => ?_)
    · exact kk T hT
    · exact absurd (nI_le (a := 100) (b := 100) (Nat.le_refl _) (by decide)) c187
  | succ m ih =>
    intro i T hi hT
    refine g_iload_n dX5_keepBeside_184 rfl rfl ?_
    refine g_bipush (v := 100) dX5_keepBeside_185 (by decide) ?_
    refine g_icmp_ge (tgt := 275) dX5_keepBeside_187 (by decide) (fun c187 => ?_) (fun c187 => ?_)
    · exact absurd c187 (nI_ge (b := 100) (by omega) (by decide))
    · refine g_iload_n dX5_keepBeside_190 rfl rfl ?_
      refine g_if_eq (tgt := 233) dX5_keepBeside_191 (by decide) (fun c191 => ?_) (fun c191 => ?_)
      · refine g_aload_n dX5_keepBeside_233 rfl rfl ?_
        refine g_get dX5_keepBeside_234 flX5_59 rfl rfl ?_
        refine g_iload_n dX5_keepBeside_237 rfl rfl ?_
        refine g_aload_n dX5_keepBeside_238 rfl rfl ?_
        refine g_get dX5_keepBeside_239 flX5_31 rfl rfl ?_
        refine g_iload_n dX5_keepBeside_242 rfl rfl ?_
        refine g_zald dX5_keepBeside_243 rfl (vp_in_nI (by omega) (by decide)) ?_
        refine p_zast dX5_keepBeside_244 rfl (vp_in_nI (by omega) (by decide)) (by with_reducible first | exact wA_29 _ _ _ _ | exact wA_30 _ _ _ _ | exact wA_31 _ _ _ _ | exact wA_32 _ _ _ _ | exact wA_33 _ _ _ _ | exact wA_34 _ _ _ _ | exact wA_35 _ _ _ _ | exact wA_36 _ _ _ _ | exact wA_37 _ _ _ _ | exact wA_38 _ _ _ _ | exact wA_39 _ _ _ _ | exact wA_40 _ _ _ _ | exact wA_41 _ _ _ _ | exact wA_42 _ _ _ _ | exact wA_43 _ _ _ _ | exact wA_44 _ _ _ _ | exact wA_45 _ _ _ _ | exact wA_46 _ _ _ _ | exact wA_47 _ _ _ _) ?_
        refine g_aload_n dX5_keepBeside_245 rfl rfl ?_
        refine g_get dX5_keepBeside_246 flX5_65 rfl rfl ?_
        refine g_iload_n dX5_keepBeside_249 rfl rfl ?_
        refine g_aload_n dX5_keepBeside_250 rfl rfl ?_
        refine g_get dX5_keepBeside_251 flX5_38 rfl rfl ?_
        refine g_iload_n dX5_keepBeside_254 rfl rfl ?_
        refine g_iald dX5_keepBeside_255 rfl (vp_in_nI (by omega) (by decide)) ?_
        refine p_iast dX5_keepBeside_256 rfl (vp_in_nI (by omega) (by decide)) (by with_reducible first | exact wA_29 _ _ _ _ | exact wA_30 _ _ _ _ | exact wA_31 _ _ _ _ | exact wA_32 _ _ _ _ | exact wA_33 _ _ _ _ | exact wA_34 _ _ _ _ | exact wA_35 _ _ _ _ | exact wA_36 _ _ _ _ | exact wA_37 _ _ _ _ | exact wA_38 _ _ _ _ | exact wA_39 _ _ _ _ | exact wA_40 _ _ _ _ | exact wA_41 _ _ _ _ | exact wA_42 _ _ _ _ | exact wA_43 _ _ _ _ | exact wA_44 _ _ _ _ | exact wA_45 _ _ _ _ | exact wA_46 _ _ _ _ | exact wA_47 _ _ _ _) ?_
        refine g_aload_n dX5_keepBeside_257 rfl rfl ?_
        refine g_get dX5_keepBeside_258 flX5_68 rfl rfl ?_
        refine g_iload_n dX5_keepBeside_261 rfl rfl ?_
        refine g_aload_n dX5_keepBeside_262 rfl rfl ?_
        refine g_get dX5_keepBeside_263 flX5_41 rfl rfl ?_
        refine g_iload_n dX5_keepBeside_266 rfl rfl ?_
        refine g_lald dX5_keepBeside_267 rfl (vp_in_nI (by omega) (by decide)) ?_
        refine p_last dX5_keepBeside_268 rfl (vp_in_nI (by omega) (by decide)) (by with_reducible first | exact wA_29 _ _ _ _ | exact wA_30 _ _ _ _ | exact wA_31 _ _ _ _ | exact wA_32 _ _ _ _ | exact wA_33 _ _ _ _ | exact wA_34 _ _ _ _ | exact wA_35 _ _ _ _ | exact wA_36 _ _ _ _ | exact wA_37 _ _ _ _ | exact wA_38 _ _ _ _ | exact wA_39 _ _ _ _ | exact wA_40 _ _ _ _ | exact wA_41 _ _ _ _ | exact wA_42 _ _ _ _ | exact wA_43 _ _ _ _ | exact wA_44 _ _ _ _ | exact wA_45 _ _ _ _ | exact wA_46 _ _ _ _ | exact wA_47 _ _ _ _) ?_
        refine g_iinc dX5_keepBeside_269 rfl (by decide) (by first | exact gi_1 _ | exact gi_p _) ?_
        refine g_goto (tgt := 184) dX5_keepBeside_272 (by decide) ?_
        exact ih (i + 1) _ (by omega) hT
      · refine g_aload_n dX5_keepBeside_194 rfl rfl ?_
        refine g_get dX5_keepBeside_195 flX5_31 rfl rfl ?_
        refine g_iload_n dX5_keepBeside_198 rfl rfl ?_
        refine g_aload_n dX5_keepBeside_199 rfl rfl ?_
        refine g_get dX5_keepBeside_200 flX5_59 rfl rfl ?_
        refine g_iload_n dX5_keepBeside_203 rfl rfl ?_
        refine g_zald dX5_keepBeside_204 rfl (vp_in_nI (by omega) (by decide)) ?_
        refine p_zast dX5_keepBeside_205 rfl (vp_in_nI (by omega) (by decide)) (by with_reducible first | exact wA_29 _ _ _ _ | exact wA_30 _ _ _ _ | exact wA_31 _ _ _ _ | exact wA_32 _ _ _ _ | exact wA_33 _ _ _ _ | exact wA_34 _ _ _ _ | exact wA_35 _ _ _ _ | exact wA_36 _ _ _ _ | exact wA_37 _ _ _ _ | exact wA_38 _ _ _ _ | exact wA_39 _ _ _ _ | exact wA_40 _ _ _ _ | exact wA_41 _ _ _ _ | exact wA_42 _ _ _ _ | exact wA_43 _ _ _ _ | exact wA_44 _ _ _ _ | exact wA_45 _ _ _ _ | exact wA_46 _ _ _ _ | exact wA_47 _ _ _ _) ?_
        refine g_aload_n dX5_keepBeside_206 rfl rfl ?_
        refine g_get dX5_keepBeside_207 flX5_38 rfl rfl ?_
        refine g_iload_n dX5_keepBeside_210 rfl rfl ?_
        refine g_aload_n dX5_keepBeside_211 rfl rfl ?_
        refine g_get dX5_keepBeside_212 flX5_65 rfl rfl ?_
        refine g_iload_n dX5_keepBeside_215 rfl rfl ?_
        refine g_iald dX5_keepBeside_216 rfl (vp_in_nI (by omega) (by decide)) ?_
        refine p_iast dX5_keepBeside_217 rfl (vp_in_nI (by omega) (by decide)) (by with_reducible first | exact wA_29 _ _ _ _ | exact wA_30 _ _ _ _ | exact wA_31 _ _ _ _ | exact wA_32 _ _ _ _ | exact wA_33 _ _ _ _ | exact wA_34 _ _ _ _ | exact wA_35 _ _ _ _ | exact wA_36 _ _ _ _ | exact wA_37 _ _ _ _ | exact wA_38 _ _ _ _ | exact wA_39 _ _ _ _ | exact wA_40 _ _ _ _ | exact wA_41 _ _ _ _ | exact wA_42 _ _ _ _ | exact wA_43 _ _ _ _ | exact wA_44 _ _ _ _ | exact wA_45 _ _ _ _ | exact wA_46 _ _ _ _ | exact wA_47 _ _ _ _) ?_
        refine g_aload_n dX5_keepBeside_218 rfl rfl ?_
        refine g_get dX5_keepBeside_219 flX5_41 rfl rfl ?_
        refine g_iload_n dX5_keepBeside_222 rfl rfl ?_
        refine g_aload_n dX5_keepBeside_223 rfl rfl ?_
        refine g_get dX5_keepBeside_224 flX5_68 rfl rfl ?_
        refine g_iload_n dX5_keepBeside_227 rfl rfl ?_
        refine g_lald dX5_keepBeside_228 rfl (vp_in_nI (by omega) (by decide)) ?_
        refine p_last dX5_keepBeside_229 rfl (vp_in_nI (by omega) (by decide)) (by with_reducible first | exact wA_29 _ _ _ _ | exact wA_30 _ _ _ _ | exact wA_31 _ _ _ _ | exact wA_32 _ _ _ _ | exact wA_33 _ _ _ _ | exact wA_34 _ _ _ _ | exact wA_35 _ _ _ _ | exact wA_36 _ _ _ _ | exact wA_37 _ _ _ _ | exact wA_38 _ _ _ _ | exact wA_39 _ _ _ _ | exact wA_40 _ _ _ _ | exact wA_41 _ _ _ _ | exact wA_42 _ _ _ _ | exact wA_43 _ _ _ _ | exact wA_44 _ _ _ _ | exact wA_45 _ _ _ _ | exact wA_46 _ _ _ _ | exact wA_47 _ _ _ _) ?_
        refine g_goto (tgt := 269) dX5_keepBeside_230 (by decide) ?_
        refine g_iinc dX5_keepBeside_269 rfl (by decide) (by first | exact gi_1 _ | exact gi_p _) ?_
        refine g_goto (tgt := 184) dX5_keepBeside_272 (by decide) ?_
        exact ih (i + 1) _ (by omega) hT
set_option maxRecDepth 100000 in
set_option maxHeartbeats 4000000 in
theorem kb4 (x : Int32) (s0 : Nat → Nat → Int32) {Q : gR → gW → Prop} (kk : ∀ T : gS, T.1 = s0 → G MX5_keepBeside (0, 0) 182 [some (.ref 28), some (.int x), some (.int (nI 800))] [] (wRf Γ τ T) 0 0 Q) : ∀ (m i : Nat) (T : gS), i + m = 800 → T.1 = s0 → G MX5_keepBeside (0, 0) 138 [some (.ref 28), some (.int x), some (.int (nI i))] [] (wRf Γ τ T) 0 0 Q := by
  intro m
  induction m with
  | zero =>
    intro i T hi hT
    obtain rfl : i = 800 := by omega
    refine g_iload_n dX5_keepBeside_138 rfl rfl ?_
    refine g_sipush (v := 800) dX5_keepBeside_139 (by decide) ?_
    refine g_icmp_ge (tgt := 182) dX5_keepBeside_142 (by decide) (fun c142 => ?_) (fun c142 => ?_)
    · exact kk T hT
    · exact absurd (nI_le (a := 800) (b := 800) (Nat.le_refl _) (by decide)) c142
  | succ m ih =>
    intro i T hi hT
    refine g_iload_n dX5_keepBeside_138 rfl rfl ?_
    refine g_sipush (v := 800) dX5_keepBeside_139 (by decide) ?_
    refine g_icmp_ge (tgt := 182) dX5_keepBeside_142 (by decide) (fun c142 => ?_) (fun c142 => ?_)
    · exact absurd c142 (nI_ge (b := 800) (by omega) (by decide))
    · refine g_iload_n dX5_keepBeside_145 rfl rfl ?_
      refine g_if_eq (tgt := 164) dX5_keepBeside_146 (by decide) (fun c146 => ?_) (fun c146 => ?_)
      · refine g_aload_n dX5_keepBeside_164 rfl rfl ?_
        refine g_get dX5_keepBeside_165 flX5_62 rfl rfl ?_
        refine g_iload_n dX5_keepBeside_168 rfl rfl ?_
        refine g_aload_n dX5_keepBeside_169 rfl rfl ?_
        refine g_get dX5_keepBeside_170 flX5_35 rfl rfl ?_
        refine g_iload_n dX5_keepBeside_173 rfl rfl ?_
        refine g_iald dX5_keepBeside_174 rfl (vp_in_nI (by omega) (by decide)) ?_
        refine p_iast dX5_keepBeside_175 rfl (vp_in_nI (by omega) (by decide)) (by with_reducible first | exact wA_29 _ _ _ _ | exact wA_30 _ _ _ _ | exact wA_31 _ _ _ _ | exact wA_32 _ _ _ _ | exact wA_33 _ _ _ _ | exact wA_34 _ _ _ _ | exact wA_35 _ _ _ _ | exact wA_36 _ _ _ _ | exact wA_37 _ _ _ _ | exact wA_38 _ _ _ _ | exact wA_39 _ _ _ _ | exact wA_40 _ _ _ _ | exact wA_41 _ _ _ _ | exact wA_42 _ _ _ _ | exact wA_43 _ _ _ _ | exact wA_44 _ _ _ _ | exact wA_45 _ _ _ _ | exact wA_46 _ _ _ _ | exact wA_47 _ _ _ _) ?_
        refine g_iinc dX5_keepBeside_176 rfl (by decide) (by first | exact gi_1 _ | exact gi_p _) ?_
        refine g_goto (tgt := 138) dX5_keepBeside_179 (by decide) ?_
        exact ih (i + 1) _ (by omega) hT
      · refine g_aload_n dX5_keepBeside_149 rfl rfl ?_
        refine g_get dX5_keepBeside_150 flX5_35 rfl rfl ?_
        refine g_iload_n dX5_keepBeside_153 rfl rfl ?_
        refine g_aload_n dX5_keepBeside_154 rfl rfl ?_
        refine g_get dX5_keepBeside_155 flX5_62 rfl rfl ?_
        refine g_iload_n dX5_keepBeside_158 rfl rfl ?_
        refine g_iald dX5_keepBeside_159 rfl (vp_in_nI (by omega) (by decide)) ?_
        refine p_iast dX5_keepBeside_160 rfl (vp_in_nI (by omega) (by decide)) (by with_reducible first | exact wA_29 _ _ _ _ | exact wA_30 _ _ _ _ | exact wA_31 _ _ _ _ | exact wA_32 _ _ _ _ | exact wA_33 _ _ _ _ | exact wA_34 _ _ _ _ | exact wA_35 _ _ _ _ | exact wA_36 _ _ _ _ | exact wA_37 _ _ _ _ | exact wA_38 _ _ _ _ | exact wA_39 _ _ _ _ | exact wA_40 _ _ _ _ | exact wA_41 _ _ _ _ | exact wA_42 _ _ _ _ | exact wA_43 _ _ _ _ | exact wA_44 _ _ _ _ | exact wA_45 _ _ _ _ | exact wA_46 _ _ _ _ | exact wA_47 _ _ _ _) ?_
        refine g_goto (tgt := 176) dX5_keepBeside_161 (by decide) ?_
        refine g_iinc dX5_keepBeside_176 rfl (by decide) (by first | exact gi_1 _ | exact gi_p _) ?_
        refine g_goto (tgt := 138) dX5_keepBeside_179 (by decide) ?_
        exact ih (i + 1) _ (by omega) hT
set_option maxRecDepth 100000 in
set_option maxHeartbeats 4000000 in
theorem kb3 (x : Int32) (s0 : Nat → Nat → Int32) {Q : gR → gW → Prop} (kk : ∀ T : gS, T.1 = s0 → G MX5_keepBeside (0, 0) 136 [some (.ref 28), some (.int x), some (.int (nI 2560))] [] (wRf Γ τ T) 0 0 Q) : ∀ (m i : Nat) (T : gS), i + m = 2560 → T.1 = s0 → G MX5_keepBeside (0, 0) 92 [some (.ref 28), some (.int x), some (.int (nI i))] [] (wRf Γ τ T) 0 0 Q := by
  intro m
  induction m with
  | zero =>
    intro i T hi hT
    obtain rfl : i = 2560 := by omega
    refine g_iload_n dX5_keepBeside_92 rfl rfl ?_
    refine g_sipush (v := 2560) dX5_keepBeside_93 (by decide) ?_
    refine g_icmp_ge (tgt := 136) dX5_keepBeside_96 (by decide) (fun c96 => ?_) (fun c96 => ?_)
    · exact kk T hT
    · exact absurd (nI_le (a := 2560) (b := 2560) (Nat.le_refl _) (by decide)) c96
  | succ m ih =>
    intro i T hi hT
    refine g_iload_n dX5_keepBeside_92 rfl rfl ?_
    refine g_sipush (v := 2560) dX5_keepBeside_93 (by decide) ?_
    refine g_icmp_ge (tgt := 136) dX5_keepBeside_96 (by decide) (fun c96 => ?_) (fun c96 => ?_)
    · exact absurd c96 (nI_ge (b := 2560) (by omega) (by decide))
    · refine g_iload_n dX5_keepBeside_99 rfl rfl ?_
      refine g_if_eq (tgt := 118) dX5_keepBeside_100 (by decide) (fun c100 => ?_) (fun c100 => ?_)
      · refine g_aload_n dX5_keepBeside_118 rfl rfl ?_
        refine g_get dX5_keepBeside_119 flX5_56 rfl rfl ?_
        refine g_iload_n dX5_keepBeside_122 rfl rfl ?_
        refine g_aload_n dX5_keepBeside_123 rfl rfl ?_
        refine g_get dX5_keepBeside_124 flX5_28 rfl rfl ?_
        refine g_iload_n dX5_keepBeside_127 rfl rfl ?_
        refine g_lald dX5_keepBeside_128 rfl (vp_in_nI (by omega) (by decide)) ?_
        refine p_last dX5_keepBeside_129 rfl (vp_in_nI (by omega) (by decide)) (by with_reducible first | exact wA_29 _ _ _ _ | exact wA_30 _ _ _ _ | exact wA_31 _ _ _ _ | exact wA_32 _ _ _ _ | exact wA_33 _ _ _ _ | exact wA_34 _ _ _ _ | exact wA_35 _ _ _ _ | exact wA_36 _ _ _ _ | exact wA_37 _ _ _ _ | exact wA_38 _ _ _ _ | exact wA_39 _ _ _ _ | exact wA_40 _ _ _ _ | exact wA_41 _ _ _ _ | exact wA_42 _ _ _ _ | exact wA_43 _ _ _ _ | exact wA_44 _ _ _ _ | exact wA_45 _ _ _ _ | exact wA_46 _ _ _ _ | exact wA_47 _ _ _ _) ?_
        refine g_iinc dX5_keepBeside_130 rfl (by decide) (by first | exact gi_1 _ | exact gi_p _) ?_
        refine g_goto (tgt := 92) dX5_keepBeside_133 (by decide) ?_
        exact ih (i + 1) _ (by omega) hT
      · refine g_aload_n dX5_keepBeside_103 rfl rfl ?_
        refine g_get dX5_keepBeside_104 flX5_28 rfl rfl ?_
        refine g_iload_n dX5_keepBeside_107 rfl rfl ?_
        refine g_aload_n dX5_keepBeside_108 rfl rfl ?_
        refine g_get dX5_keepBeside_109 flX5_56 rfl rfl ?_
        refine g_iload_n dX5_keepBeside_112 rfl rfl ?_
        refine g_lald dX5_keepBeside_113 rfl (vp_in_nI (by omega) (by decide)) ?_
        refine p_last dX5_keepBeside_114 rfl (vp_in_nI (by omega) (by decide)) (by with_reducible first | exact wA_29 _ _ _ _ | exact wA_30 _ _ _ _ | exact wA_31 _ _ _ _ | exact wA_32 _ _ _ _ | exact wA_33 _ _ _ _ | exact wA_34 _ _ _ _ | exact wA_35 _ _ _ _ | exact wA_36 _ _ _ _ | exact wA_37 _ _ _ _ | exact wA_38 _ _ _ _ | exact wA_39 _ _ _ _ | exact wA_40 _ _ _ _ | exact wA_41 _ _ _ _ | exact wA_42 _ _ _ _ | exact wA_43 _ _ _ _ | exact wA_44 _ _ _ _ | exact wA_45 _ _ _ _ | exact wA_46 _ _ _ _ | exact wA_47 _ _ _ _) ?_
        refine g_goto (tgt := 130) dX5_keepBeside_115 (by decide) ?_
        refine g_iinc dX5_keepBeside_130 rfl (by decide) (by first | exact gi_1 _ | exact gi_p _) ?_
        refine g_goto (tgt := 92) dX5_keepBeside_133 (by decide) ?_
        exact ih (i + 1) _ (by omega) hT
set_option maxRecDepth 100000 in
set_option maxHeartbeats 4000000 in
theorem kb2 (x : Int32) (s0 : Nat → Nat → Int32) {Q : gR → gW → Prop} (kk : ∀ T : gS, T.1 = s0 → G MX5_keepBeside (0, 0) 90 [some (.ref 28), some (.int x), some (.int (nI 65536))] [] (wRf Γ τ T) 0 0 Q) : ∀ (m i : Nat) (T : gS), i + m = 65536 → T.1 = s0 → G MX5_keepBeside (0, 0) 47 [some (.ref 28), some (.int x), some (.int (nI i))] [] (wRf Γ τ T) 0 0 Q := by
  intro m
  induction m with
  | zero =>
    intro i T hi hT
    obtain rfl : i = 65536 := by omega
    refine g_iload_n dX5_keepBeside_47 rfl rfl ?_
    refine g_ldc dX5_keepBeside_48 coX5_24 ?_
    refine g_icmp_ge (tgt := 90) dX5_keepBeside_50 (by decide) (fun c50 => ?_) (fun c50 => ?_)
    · exact kk T hT
    · exact absurd (nI_le (a := 65536) (b := 65536) (Nat.le_refl _) (by decide)) c50
  | succ m ih =>
    intro i T hi hT
    refine g_iload_n dX5_keepBeside_47 rfl rfl ?_
    refine g_ldc dX5_keepBeside_48 coX5_24 ?_
    refine g_icmp_ge (tgt := 90) dX5_keepBeside_50 (by decide) (fun c50 => ?_) (fun c50 => ?_)
    · exact absurd c50 (nI_ge (b := 65536) (by omega) (by decide))
    · refine g_iload_n dX5_keepBeside_53 rfl rfl ?_
      refine g_if_eq (tgt := 72) dX5_keepBeside_54 (by decide) (fun c54 => ?_) (fun c54 => ?_)
      · refine g_aload_n dX5_keepBeside_72 rfl rfl ?_
        refine g_get dX5_keepBeside_73 flX5_53 rfl rfl ?_
        refine g_iload_n dX5_keepBeside_76 rfl rfl ?_
        refine g_aload_n dX5_keepBeside_77 rfl rfl ?_
        refine g_get dX5_keepBeside_78 flX5_25 rfl rfl ?_
        refine g_iload_n dX5_keepBeside_81 rfl rfl ?_
        refine g_iald dX5_keepBeside_82 rfl (vp_in_nI (by omega) (by decide)) ?_
        refine p_iast dX5_keepBeside_83 rfl (vp_in_nI (by omega) (by decide)) (by with_reducible first | exact wA_29 _ _ _ _ | exact wA_30 _ _ _ _ | exact wA_31 _ _ _ _ | exact wA_32 _ _ _ _ | exact wA_33 _ _ _ _ | exact wA_34 _ _ _ _ | exact wA_35 _ _ _ _ | exact wA_36 _ _ _ _ | exact wA_37 _ _ _ _ | exact wA_38 _ _ _ _ | exact wA_39 _ _ _ _ | exact wA_40 _ _ _ _ | exact wA_41 _ _ _ _ | exact wA_42 _ _ _ _ | exact wA_43 _ _ _ _ | exact wA_44 _ _ _ _ | exact wA_45 _ _ _ _ | exact wA_46 _ _ _ _ | exact wA_47 _ _ _ _) ?_
        refine g_iinc dX5_keepBeside_84 rfl (by decide) (by first | exact gi_1 _ | exact gi_p _) ?_
        refine g_goto (tgt := 47) dX5_keepBeside_87 (by decide) ?_
        exact ih (i + 1) _ (by omega) hT
      · refine g_aload_n dX5_keepBeside_57 rfl rfl ?_
        refine g_get dX5_keepBeside_58 flX5_25 rfl rfl ?_
        refine g_iload_n dX5_keepBeside_61 rfl rfl ?_
        refine g_aload_n dX5_keepBeside_62 rfl rfl ?_
        refine g_get dX5_keepBeside_63 flX5_53 rfl rfl ?_
        refine g_iload_n dX5_keepBeside_66 rfl rfl ?_
        refine g_iald dX5_keepBeside_67 rfl (vp_in_nI (by omega) (by decide)) ?_
        refine p_iast dX5_keepBeside_68 rfl (vp_in_nI (by omega) (by decide)) (by with_reducible first | exact wA_29 _ _ _ _ | exact wA_30 _ _ _ _ | exact wA_31 _ _ _ _ | exact wA_32 _ _ _ _ | exact wA_33 _ _ _ _ | exact wA_34 _ _ _ _ | exact wA_35 _ _ _ _ | exact wA_36 _ _ _ _ | exact wA_37 _ _ _ _ | exact wA_38 _ _ _ _ | exact wA_39 _ _ _ _ | exact wA_40 _ _ _ _ | exact wA_41 _ _ _ _ | exact wA_42 _ _ _ _ | exact wA_43 _ _ _ _ | exact wA_44 _ _ _ _ | exact wA_45 _ _ _ _ | exact wA_46 _ _ _ _ | exact wA_47 _ _ _ _) ?_
        refine g_goto (tgt := 84) dX5_keepBeside_69 (by decide) ?_
        refine g_iinc dX5_keepBeside_84 rfl (by decide) (by first | exact gi_1 _ | exact gi_p _) ?_
        refine g_goto (tgt := 47) dX5_keepBeside_87 (by decide) ?_
        exact ih (i + 1) _ (by omega) hT
set_option maxRecDepth 100000 in
set_option maxHeartbeats 4000000 in
theorem kb1 (x : Int32) (s0 : Nat → Nat → Int32) {Q : gR → gW → Prop} (kk : ∀ T : gS, T.1 = s0 → G MX5_keepBeside (0, 0) 45 [some (.ref 28), some (.int x), some (.int (nI 64))] [] (wRf Γ τ T) 0 0 Q) : ∀ (m i : Nat) (T : gS), i + m = 64 → T.1 = s0 → G MX5_keepBeside (0, 0) 2 [some (.ref 28), some (.int x), some (.int (nI i))] [] (wRf Γ τ T) 0 0 Q := by
  intro m
  induction m with
  | zero =>
    intro i T hi hT
    obtain rfl : i = 64 := by omega
    refine g_iload_n dX5_keepBeside_2 rfl rfl ?_
    refine g_bipush (v := 64) dX5_keepBeside_3 (by decide) ?_
    refine g_icmp_ge (tgt := 45) dX5_keepBeside_5 (by decide) (fun c5 => ?_) (fun c5 => ?_)
    · exact kk T hT
    · exact absurd (nI_le (a := 64) (b := 64) (Nat.le_refl _) (by decide)) c5
  | succ m ih =>
    intro i T hi hT
    refine g_iload_n dX5_keepBeside_2 rfl rfl ?_
    refine g_bipush (v := 64) dX5_keepBeside_3 (by decide) ?_
    refine g_icmp_ge (tgt := 45) dX5_keepBeside_5 (by decide) (fun c5 => ?_) (fun c5 => ?_)
    · exact absurd c5 (nI_ge (b := 64) (by omega) (by decide))
    · refine g_iload_n dX5_keepBeside_8 rfl rfl ?_
      refine g_if_eq (tgt := 27) dX5_keepBeside_9 (by decide) (fun c9 => ?_) (fun c9 => ?_)
      · refine g_aload_n dX5_keepBeside_27 rfl rfl ?_
        refine g_get dX5_keepBeside_28 flX5_50 rfl rfl ?_
        refine g_iload_n dX5_keepBeside_31 rfl rfl ?_
        refine g_aload_n dX5_keepBeside_32 rfl rfl ?_
        refine g_get dX5_keepBeside_33 flX5_20 rfl rfl ?_
        refine g_iload_n dX5_keepBeside_36 rfl rfl ?_
        refine g_lald dX5_keepBeside_37 rfl (vp_in_nI (by omega) (by decide)) ?_
        refine p_last dX5_keepBeside_38 rfl (vp_in_nI (by omega) (by decide)) (by with_reducible first | exact wA_29 _ _ _ _ | exact wA_30 _ _ _ _ | exact wA_31 _ _ _ _ | exact wA_32 _ _ _ _ | exact wA_33 _ _ _ _ | exact wA_34 _ _ _ _ | exact wA_35 _ _ _ _ | exact wA_36 _ _ _ _ | exact wA_37 _ _ _ _ | exact wA_38 _ _ _ _ | exact wA_39 _ _ _ _ | exact wA_40 _ _ _ _ | exact wA_41 _ _ _ _ | exact wA_42 _ _ _ _ | exact wA_43 _ _ _ _ | exact wA_44 _ _ _ _ | exact wA_45 _ _ _ _ | exact wA_46 _ _ _ _ | exact wA_47 _ _ _ _) ?_
        refine g_iinc dX5_keepBeside_39 rfl (by decide) (by first | exact gi_1 _ | exact gi_p _) ?_
        refine g_goto (tgt := 2) dX5_keepBeside_42 (by decide) ?_
        exact ih (i + 1) _ (by omega) hT
      · refine g_aload_n dX5_keepBeside_12 rfl rfl ?_
        refine g_get dX5_keepBeside_13 flX5_20 rfl rfl ?_
        refine g_iload_n dX5_keepBeside_16 rfl rfl ?_
        refine g_aload_n dX5_keepBeside_17 rfl rfl ?_
        refine g_get dX5_keepBeside_18 flX5_50 rfl rfl ?_
        refine g_iload_n dX5_keepBeside_21 rfl rfl ?_
        refine g_lald dX5_keepBeside_22 rfl (vp_in_nI (by omega) (by decide)) ?_
        refine p_last dX5_keepBeside_23 rfl (vp_in_nI (by omega) (by decide)) (by with_reducible first | exact wA_29 _ _ _ _ | exact wA_30 _ _ _ _ | exact wA_31 _ _ _ _ | exact wA_32 _ _ _ _ | exact wA_33 _ _ _ _ | exact wA_34 _ _ _ _ | exact wA_35 _ _ _ _ | exact wA_36 _ _ _ _ | exact wA_37 _ _ _ _ | exact wA_38 _ _ _ _ | exact wA_39 _ _ _ _ | exact wA_40 _ _ _ _ | exact wA_41 _ _ _ _ | exact wA_42 _ _ _ _ | exact wA_43 _ _ _ _ | exact wA_44 _ _ _ _ | exact wA_45 _ _ _ _ | exact wA_46 _ _ _ _ | exact wA_47 _ _ _ _) ?_
        refine g_goto (tgt := 39) dX5_keepBeside_24 (by decide) ?_
        refine g_iinc dX5_keepBeside_39 rfl (by decide) (by first | exact gi_1 _ | exact gi_p _) ?_
        refine g_goto (tgt := 2) dX5_keepBeside_42 (by decide) ?_
        exact ih (i + 1) _ (by omega) hT
set_option maxRecDepth 100000 in
set_option maxHeartbeats 4000000 in
theorem m_keepBeside (S : gS) (x : Int32) : gCt MX5_keepBeside (0, 0) 0 0 [.ref 28, .int x] (wRf Γ τ S) (g0 (wRf Γ τ) fun S' => S'.1 = S.1) := by
  refine gCt.of (ls := [some (.ref 28), some (.int x), none]) 1 (by decide) rfl (Nat.le_of_ble_eq_true rfl) ?_
  refine g_iconst (v := 0) dX5_keepBeside_0 (by decide) ?_
  refine g_istore_n dX5_keepBeside_1 rfl (by decide) ?_
  refine kb1 x _ (fun Tkb1 hTkb1 => ?_) 64 0 _ rfl rfl
  refine g_iconst (v := 0) dX5_keepBeside_45 (by decide) ?_
  refine g_istore_n dX5_keepBeside_46 rfl (by decide) ?_
  refine kb2 x _ (fun Tkb2 hTkb2 => ?_) 65536 0 _ rfl hTkb1
  refine g_iconst (v := 0) dX5_keepBeside_90 (by decide) ?_
  refine g_istore_n dX5_keepBeside_91 rfl (by decide) ?_
  refine kb3 x _ (fun Tkb3 hTkb3 => ?_) 2560 0 _ rfl hTkb2
  refine g_iconst (v := 0) dX5_keepBeside_136 (by decide) ?_
  refine g_istore_n dX5_keepBeside_137 rfl (by decide) ?_
  refine kb4 x _ (fun Tkb4 hTkb4 => ?_) 800 0 _ rfl hTkb3
  refine g_iconst (v := 0) dX5_keepBeside_182 (by decide) ?_
  refine g_istore_n dX5_keepBeside_183 rfl (by decide) ?_
  refine kb5 x _ (fun Tkb5 hTkb5 => ?_) 100 0 _ rfl hTkb4
  refine g_vret dX5_keepBeside_275 rfl ⟨_, rfl, rfl, ?_⟩
  exact hTkb5
set_option maxRecDepth 100000 in
set_option maxHeartbeats 4000000 in
theorem m_badAt (S : gS) (f : Fm S) : gCt MX5_badAt (1, 22) 0 0 [.ref 28] (wRf Γ τ S) (gN (wRf Γ τ) fun v S' => v = .int (-1) ∧ S'.1 28 0 = 0) := by
  refine gCt.of (ls := [some (.ref 28), none, none, none, none, none, none, none]) 7 (by decide) rfl (Nat.le_of_ble_eq_true rfl) ?_
  refine g_aload_n dX5_badAt_0 rfl rfl ?_
  refine g_aload_n dX5_badAt_1 rfl rfl ?_
  refine g_get dX5_badAt_2 flX5_94 rfl rfl ?_
  refine g_if_eq (tgt := 12) dX5_badAt_5 (by decide) (fun c5 => ?_) (fun c5 => ?_)
  · exact absurd c5 (by rw [f.op]; decide)
  · refine g_iconst (v := 0) dX5_badAt_8 (by decide) ?_
    refine g_goto (tgt := 13) dX5_badAt_9 (by decide) ?_
    refine p_put dX5_badAt_13 fpX5_75 rfl (Nat.le_of_ble_eq_true rfl) (fun _ => rfl) (fun _ => rfl) (by with_reducible first | exact wS_28_0 _ _ _ _) ?_
    refine g_aload_n dX5_badAt_16 rfl rfl ?_
    refine g_get dX5_badAt_17 flX5_75 rfl rfl ?_
    rw [mS_same]
    refine g_if_le (tgt := 25) dX5_badAt_20 (by decide) (fun c20 => ?_) (fun c20 => ?_)
    · refine g_aload_n dX5_badAt_25 rfl rfl ?_
      refine g_iconst (v := 0) dX5_badAt_26 (by decide) ?_
      refine cV10 (fun _ _ => rfl) dX5_badAt_27 mlX5_199 imX5_keepBeside seX5_keepBeside rfl rfl (m_keepBeside _ _) (by decide) (Nat.le_of_ble_eq_true rfl) (Nat.le_of_ble_eq_true rfl) (Nat.le_of_ble_eq_true rfl) ?_
      rintro S1 hS1
      refine g_aload_n dX5_badAt_30 rfl rfl ?_
      refine g_get dX5_badAt_31 flX5_98 rfl rfl ?_
      refine g_istore_n dX5_badAt_34 rfl (by decide) ?_
      refine g_aload_n dX5_badAt_35 rfl rfl ?_
      refine g_get dX5_badAt_36 flX5_101 rfl rfl ?_
      refine g_istore_n dX5_badAt_39 rfl (by decide) ?_
      refine g_aload_n dX5_badAt_40 rfl rfl ?_
      refine g_get dX5_badAt_41 flX5_104 rfl rfl ?_
      refine g_istore_n dX5_badAt_44 rfl (by decide) ?_
      show GE gx0 MX5_badAt (1, 22) 45 [some (.ref 28), some (.int (S1.1 28 9)), some (.int (S1.1 28 10)), some (.int (S1.1 28 11)), none, none, none, none] _ _ _ _ _
      refine g_aload_n dX5_badAt_45 rfl rfl ?_
      refine g_get dX5_badAt_46 flX5_107 rfl rfl ?_
      refine g_istore dX5_badAt_49 (by decide) ?_
      refine g_aload_n dX5_badAt_51 rfl rfl ?_
      refine g_get dX5_badAt_52 flX5_110 rfl rfl ?_
      refine g_istore dX5_badAt_55 (by decide) ?_
      show GE gx0 MX5_badAt (1, 22) 57 [some (.ref 28), some (.int (S1.1 28 9)), some (.int (S1.1 28 10)), some (.int (S1.1 28 11)), some (.int (S1.1 28 14)), some (.int (S1.1 28 16)), none, none] _ _ _ _ _
      refine g_aload_n dX5_badAt_57 rfl rfl ?_
      refine g_get dX5_badAt_58 flX5_113 rfl rfl ?_
      refine g_istore dX5_badAt_61 (by decide) ?_
      refine g_aload_n dX5_badAt_63 rfl rfl ?_
      refine cV00 (fun _ _ => rfl) dX5_badAt_64 mlX5_82 imX5_forget seX5_forget rfl rfl (m_forget _) (by decide) (Nat.le_of_ble_eq_true rfl) (Nat.le_of_ble_eq_true rfl) (Nat.le_of_ble_eq_true rfl) ?_
      rintro _ rfl
      refine g_iconst (v := (-1)) dX5_badAt_67 (by decide) ?_
      refine g_istore dX5_badAt_68 (by decide) ?_
      show GE gx0 MX5_badAt (1, 22) 70 [some (.ref 28), some (.int (S1.1 28 9)), some (.int (S1.1 28 10)), some (.int (S1.1 28 11)), some (.int (S1.1 28 14)), some (.int (S1.1 28 16)), some (.int (S1.1 28 19)), some (.int (-1))] _ _ _ _ _
      refine g_aload_n dX5_badAt_70 rfl rfl ?_
      refine g_get dX5_badAt_71 flX5_98 rfl rfl ?_
      refine g_iload_n dX5_badAt_74 rfl rfl ?_
      refine g_icmp_ge (tgt := 139) dX5_badAt_75 (by decide) (fun c75 => ?_) (fun c75 => ?_)
      · refine g_aload_n dX5_badAt_139 rfl rfl ?_
        refine g_iload_n dX5_badAt_140 rfl rfl ?_
        refine p_put dX5_badAt_141 fpX5_98 rfl (Nat.le_of_ble_eq_true rfl) (fun _ => rfl) (fun _ => rfl) (by with_reducible first | exact wS_28_9 _ _ _ _) ?_
        refine g_aload_n dX5_badAt_144 rfl rfl ?_
        refine g_iload_n dX5_badAt_145 rfl rfl ?_
        refine p_put dX5_badAt_146 fpX5_101 rfl (Nat.le_of_ble_eq_true rfl) (fun _ => rfl) (fun _ => rfl) (by with_reducible first | exact wS_28_10 _ _ _ _) ?_
        refine g_aload_n dX5_badAt_149 rfl rfl ?_
        refine g_iload_n dX5_badAt_150 rfl rfl ?_
        refine p_put dX5_badAt_151 fpX5_104 rfl (Nat.le_of_ble_eq_true rfl) (fun _ => rfl) (fun _ => rfl) (by with_reducible first | exact wS_28_11 _ _ _ _) ?_
        refine g_aload_n dX5_badAt_154 rfl rfl ?_
        refine g_iload dX5_badAt_155 rfl ?_
        refine p_put dX5_badAt_157 fpX5_107 rfl (Nat.le_of_ble_eq_true rfl) (fun _ => rfl) (fun _ => rfl) (by with_reducible first | exact wS_28_14 _ _ _ _) ?_
        refine g_aload_n dX5_badAt_160 rfl rfl ?_
        refine g_iload dX5_badAt_161 rfl ?_
        refine p_put dX5_badAt_163 fpX5_110 rfl (Nat.le_of_ble_eq_true rfl) (fun _ => rfl) (fun _ => rfl) (by with_reducible first | exact wS_28_16 _ _ _ _) ?_
        refine g_aload_n dX5_badAt_166 rfl rfl ?_
        refine g_iload dX5_badAt_167 rfl ?_
        refine p_put dX5_badAt_169 fpX5_113 rfl (Nat.le_of_ble_eq_true rfl) (fun _ => rfl) (fun _ => rfl) (by with_reducible first | exact wS_28_19 _ _ _ _) ?_
        refine g_aload_n dX5_badAt_172 rfl rfl ?_
        refine g_iconst (v := 1) dX5_badAt_173 (by decide) ?_
        refine cV10 (fun _ _ => rfl) dX5_badAt_174 mlX5_199 imX5_keepBeside seX5_keepBeside rfl rfl (m_keepBeside _ _) (by decide) (Nat.le_of_ble_eq_true rfl) (Nat.le_of_ble_eq_true rfl) (Nat.le_of_ble_eq_true rfl) ?_
        rintro S2 hS2
        refine g_iload dX5_badAt_177 rfl ?_
        refine g_iret dX5_badAt_179 rfl ⟨_, _, rfl, rfl, ?_⟩
        refine ⟨rfl, ?_⟩
        rw [hS2, mS_ne (by decide), mS_ne (by decide), mS_ne (by decide), mS_ne (by decide), mS_ne (by decide), mS_ne (by decide), mfor_k _ _ (by decide), hS1, mS_same]
      · exact absurd (by rw [mfor_9, hS1, mS_ne (by decide), f.lg]; decide) c75
    · exact absurd (by decide) c20
set_option maxRecDepth 100000 in
set_option maxHeartbeats 4000000 in
theorem m_isOpen (S : gS) (f : Fm S) : gCt MX5_isOpen (0, 0) 0 0 [.ref 28] (wRf Γ τ S) (gN (wRf Γ τ) fun v S' => v = .int 1 ∧ S'.1 28 0 = 0) := by
  refine gCt.of (ls := [some (.ref 28)]) 0 (by decide) rfl (Nat.le_of_ble_eq_true rfl) ?_
  refine g_aload_n dX5_isOpen_0 rfl rfl ?_
  refine g_iconst (v := 0) dX5_isOpen_1 (by decide) ?_
  refine p_put dX5_isOpen_2 fpX5_75 rfl (Nat.le_of_ble_eq_true rfl) (fun _ => rfl) (fun _ => rfl) (by with_reducible first | exact wS_28_0 _ _ _ _) ?_
  refine g_aload_n dX5_isOpen_5 rfl rfl ?_
  refine g_get dX5_isOpen_6 flX5_94 rfl rfl ?_
  refine g_eqi (y := 1) (by rw [mS_ne (by decide)]; exact f.op) ?_
  refine g_zret dX5_isOpen_9 rfl (by first | rfl | assumption) ⟨_, _, rfl, rfl, ?_⟩
  exact ⟨rfl, mS_same _ _ _ _⟩
end
