section
variable {Γ : gS} {τ : gW}
theorem mfor_k (S : gS) (j : Nat) (h : j ≠ 9 ∧ j ≠ 10 ∧ j ≠ 11 ∧ j ≠ 14 ∧ j ≠ 16 ∧ j ≠ 19) : (mfor S).1 28 j = S.1 28 j := by
  show (msc S).1 28 j = S.1 28 j
  unfold msc
  rw [mS_ne (fun z => h.2.2.2.2.2 z.2), mS_ne (fun z => h.2.2.2.2.1 z.2), mS_ne (fun z => h.2.2.2.1 z.2), mS_ne (fun z => h.2.2.1 z.2), mS_ne (fun z => h.2.1 z.2), mS_ne (fun z => h.1 z.2)]
theorem mfor_0 (S : gS) (j : Nat) (h : j = 9 ∨ j = 14 ∨ j = 16 ∨ j = 19) : (mfor S).1 28 j = 0 := by
  show (msc S).1 28 j = 0
  rcases h with rfl | rfl | rfl | rfl <;> rfl
theorem mfor_a (S : gS) (k : Nat) (h1 : k ≠ 33) (h2 : k ≠ 35) : (mfor S).2.1 k = S.2.1 k := by
  unfold mfor
  rw [mAk3 _ _ _ _ h2, mAk3 _ _ _ _ h1, mL_21, msc_2]
theorem mfor_33 (S : gS) : (mfor S).2.1 33 = fillB (S.2.1 33) (-1) 65536 := by
  unfold mfor
  rw [mAk3 _ _ _ _ (by decide), mAs3]
theorem R0.fg {S : gS} {w L V n c rm : Nat} (h : R0 S w L V n c rm) : R0 (mfor S) w 0 0 0 0 rm := by
  obtain ⟨⟨a1, a2, a3, a4, a5, a6⟩, ⟨b1, b2, b3, b4, b5, b6⟩, k3, k5, k6, k7, k8⟩ := h
  refine ⟨⟨(mfor_k _ _ (by decide)).trans a1, mfor_0 _ _ (by decide), mfor_0 _ _ (by decide), mfor_0 _ _ (by decide), mfor_0 _ _ (by decide), (mfor_k _ _ (by decide)).trans a6⟩, ⟨b1, by decide, by decide, by decide, by decide, b6⟩, ?_, ?_, ?_, ?_, fun i hi => absurd hi (Nat.not_lt_zero _)⟩
  · rw [mfor_k _ _ (by decide)]; exact k3
  · rw [mfor_a _ _ (by decide) (by decide)]; exact k5
  · intro i hi
    rw [mfor_a _ _ (by decide) (by decide), mfor_a _ _ (by decide) (by decide)]; exact k6 i hi
  · intro j hj
    rw [mfor_33]; exact Or.inl (fillB_in _ _ _ _ hj)
set_option maxRecDepth 100000 in
set_option maxHeartbeats 400000 in
theorem ln_open (l1 l2 l3 l4 : Option Value) (w rm len t : Nat) (hl : len ≤ 24000) : ∀ (m L V n c : Nat) (S : gS), len ≤ L + m → L ≤ len → R0 S w L V n c rm → S.1 28 3 = 0 → G MX5_open (3, 71) 104 [some (.ref 28), l1, l2, l3, l4, some (.int (nI len))] [] (wRf Γ τ S) 0 0 (gN (wRf Γ τ) fun v S' => (∃ r : Int32, v = .int r) ∧ RI S' (t + 1)) := by
  intro m
  induction m with
  | zero =>
    intro L V n c S hm hLl h ho
    refine g_aload_n dX5_open_104 rfl rfl ?_
    refine g_get dX5_open_105 flX5_98 rfl rfl ?_
    refine g_eqi (y := nI (L)) (h.1.2.1) ?_
    refine g_iload dX5_open_108 rfl ?_
    refine g_icmp_ge (tgt := 168) dX5_open_110 (by decide) (fun c110 => ?_) (fun c110 => ?_)
    · refine g_aload_n dX5_open_168 rfl rfl ?_
      refine g_iconst (v := 0) dX5_open_169 (by decide) ?_
      refine p_put dX5_open_170 fpX5_85 rfl (Nat.le_of_ble_eq_true rfl) (fun _ => rfl) (fun _ => rfl) (by with_reducible first | exact wS_28_7 _ _ _ _) ?_
      refine g_aload_n dX5_open_173 rfl rfl ?_
      refine g_iconst (v := 1) dX5_open_174 (by decide) ?_
      refine p_put dX5_open_175 fpX5_94 rfl (Nat.le_of_ble_eq_true rfl) (fun _ => rfl) (fun _ => rfl) (by with_reducible first | exact wS_28_3 _ _ _ _) ?_
      have hx : R0 (mS (mS S 28 7 0) 28 3 1) 0 L V n c rm := ⟨⟨rfl, h.1.2⟩, ⟨Nat.zero_le _, h.2.1.2⟩, Or.inr rfl, h.2.2.2.1, fun i hi => absurd hi (Nat.not_lt_zero _), h.2.2.2.2.2⟩
      refine g_aload_n dX5_open_178 rfl rfl ?_
      refine cV0N (fun _ _ => rfl) dX5_open_179 mlX5_196 imX5_thereMany seX5_thereMany rfl rfl (n_thereMany _ V hx.1.2.2.1 hx.2.1.2.2.1) (by decide) (Nat.le_of_ble_eq_true rfl) (Nat.le_of_ble_eq_true rfl) (Nat.le_of_ble_eq_true rfl) ?_
      rintro _ _ ⟨⟨tm, rfl⟩, rfl⟩
      refine g_iret dX5_open_182 rfl ⟨_, _, rfl, rfl, ?_⟩
      exact ⟨⟨_, rfl⟩, 0, L, V, n, c, rm, hx, fun _ => Nat.zero_le _⟩
    · exact absurd (nI_le (by omega) (by omega)) c110
  | succ m ih =>
    intro L V n c S hm hLl h ho
    refine g_aload_n dX5_open_104 rfl rfl ?_
    refine g_get dX5_open_105 flX5_98 rfl rfl ?_
    refine g_eqi (y := nI (L)) (h.1.2.1) ?_
    refine g_iload dX5_open_108 rfl ?_
    refine g_icmp_ge (tgt := 168) dX5_open_110 (by decide) (fun c110 => ?_) (fun c110 => ?_)
    · refine g_aload_n dX5_open_168 rfl rfl ?_
      refine g_iconst (v := 0) dX5_open_169 (by decide) ?_
      refine p_put dX5_open_170 fpX5_85 rfl (Nat.le_of_ble_eq_true rfl) (fun _ => rfl) (fun _ => rfl) (by with_reducible first | exact wS_28_7 _ _ _ _) ?_
      refine g_aload_n dX5_open_173 rfl rfl ?_
      refine g_iconst (v := 1) dX5_open_174 (by decide) ?_
      refine p_put dX5_open_175 fpX5_94 rfl (Nat.le_of_ble_eq_true rfl) (fun _ => rfl) (fun _ => rfl) (by with_reducible first | exact wS_28_3 _ _ _ _) ?_
      have hx : R0 (mS (mS S 28 7 0) 28 3 1) 0 L V n c rm := ⟨⟨rfl, h.1.2⟩, ⟨Nat.zero_le _, h.2.1.2⟩, Or.inr rfl, h.2.2.2.1, fun i hi => absurd hi (Nat.not_lt_zero _), h.2.2.2.2.2⟩
      refine g_aload_n dX5_open_178 rfl rfl ?_
      refine cV0N (fun _ _ => rfl) dX5_open_179 mlX5_196 imX5_thereMany seX5_thereMany rfl rfl (n_thereMany _ V hx.1.2.2.1 hx.2.1.2.2.1) (by decide) (Nat.le_of_ble_eq_true rfl) (Nat.le_of_ble_eq_true rfl) (Nat.le_of_ble_eq_true rfl) ?_
      rintro _ _ ⟨⟨tm, rfl⟩, rfl⟩
      refine g_iret dX5_open_182 rfl ⟨_, _, rfl, rfl, ?_⟩
      exact ⟨⟨_, rfl⟩, 0, L, V, n, c, rm, hx, fun _ => Nat.zero_le _⟩
    · have hlt : L < len := lt_of_nI (by omega) c110
      refine g_aload_n dX5_open_113 rfl rfl ?_
      refine g_bipush (v := 32) dX5_open_114 (by decide) ?_
      refine g_aload_n dX5_open_116 rfl rfl ?_
      refine g_get dX5_open_117 flX5_98 rfl rfl ?_
      refine g_iadd dX5_open_120 ?_
      refine g_eqi (y := nI (32 + L)) (by rw [h.1.2.1]; exact nI_add 32 L) ?_
      refine g_bipush (v := 32) dX5_open_121 (by decide) ?_
      refine g_iload dX5_open_123 rfl ?_
      refine g_iadd dX5_open_125 ?_
      refine g_eqi (y := nI (32 + len)) (nI_add 32 len) ?_
      refine cV2N (fun _ _ => rfl) dX5_open_126 mlX5_193 imX5_isRight seX5_isRight rfl rfl (n_isRight _ w L V n c rm len h hl hLl) (by decide) (Nat.le_of_ble_eq_true rfl) (Nat.le_of_ble_eq_true rfl) (Nat.le_of_ble_eq_true rfl) ?_
      rintro _ _ ⟨⟨ir, rfl, ir01, hir⟩, rfl⟩
      refine g_if_ne (tgt := 140) dX5_open_129 (by decide) (fun c129 => ?_) (fun c129 => ?_)
      · obtain ⟨sz, hk⟩ := hir c129
        have hk1 := hk.1
        refine g_aload_n dX5_open_140 rfl rfl ?_
        refine g_bipush (v := 32) dX5_open_141 (by decide) ?_
        refine g_aload_n dX5_open_143 rfl rfl ?_
        refine g_get dX5_open_144 flX5_98 rfl rfl ?_
        refine g_iadd dX5_open_147 ?_
        refine g_eqi (y := nI (32 + L)) (by rw [h.1.2.1]; exact nI_add 32 L) ?_
        refine g_aload_n dX5_open_148 rfl rfl ?_
        refine g_get dX5_open_149 flX5_7 rfl rfl ?_
        refine g_bipush (v := 32) dX5_open_152 (by decide) ?_
        refine g_aload_n dX5_open_154 rfl rfl ?_
        refine g_get dX5_open_155 flX5_98 rfl rfl ?_
        refine g_iadd dX5_open_158 ?_
        refine g_eqi (y := nI (32 + L)) (by rw [h.1.2.1]; exact nI_add 32 L) ?_
        refine g_iconst (v := 3) dX5_open_159 (by decide) ?_
        refine g_iadd dX5_open_160 ?_
        refine g_eqi (y := nI (32 + L + 3)) (nI_add _ 3) ?_
        refine g_iald dX5_open_161 rfl (vp_in_nI (by omega) (by decide)) ?_
        refine g_eqi (y := nI (sz)) (by rw [nI_clamp (n := 32 + L + 3) (by omega)]; exact hk.2.1) ?_
        refine cV20 (fun _ _ => rfl) dX5_open_162 mlX5_130 imX5_take seX5_take rfl rfl (n_take _ w L V n c rm len sz h hl hk) (by decide) (Nat.le_of_ble_eq_true rfl) (Nat.le_of_ble_eq_true rfl) (Nat.le_of_ble_eq_true rfl) ?_
        rintro S2 ⟨⟨V2, n2, c2, hS2⟩, hop⟩
        refine g_goto (tgt := 104) dX5_open_165 (by decide) ?_
        exact ih (L + 12 + sz) V2 n2 c2 S2 (by omega) hk1 hS2 (hop.1.trans ho)
      · refine g_bipush (v := (-2)) dX5_open_132 (by decide) ?_
        refine g_aload_n dX5_open_134 rfl rfl ?_
        refine g_get dX5_open_135 flX5_101 rfl rfl ?_
        refine g_isub dX5_open_138 ?_
        refine g_iret dX5_open_139 rfl ⟨_, _, rfl, rfl, ?_⟩
        exact ⟨⟨_, rfl⟩, w, L, V, n, c, rm, h, fun z => absurd (ho.symm.trans z) (by decide)⟩
set_option maxRecDepth 100000 in
set_option maxHeartbeats 400000 in
theorem ln_op0 (S : gS) (w L V n c rm t : Nat) (h : R0 S w L V n c rm) (ho : S.1 28 3 = 0) (hm : ¬ mhr (S.2.1 29) 0 = 0) (b1 b2 b3 : Int32) : G MX5_open (3, 71) 74 [some (.ref 28), some (.int b1), some (.int b2), some (.int b3), none, none] [.int 0] (wRf Γ τ S) 0 0 (gN (wRf Γ τ) fun v S' => (∃ r : Int32, v = .int r) ∧ RI S' (t + 1)) := by
  obtain ⟨len, hl, e⟩ := headlen h.2.2.2.1 (a := 0) (by decide) hm
  refine g_istore dX5_open_74 (by decide) ?_
  refine g_aload_n dX5_open_76 rfl rfl ?_
  refine g_aload_n dX5_open_77 rfl rfl ?_
  refine g_iload dX5_open_78 rfl ?_
  refine g_iconst (v := 4) dX5_open_80 (by decide) ?_
  refine cV2N (fun _ _ => rfl) dX5_open_81 mlX5_137 imX5_number seX5_number rfl rfl (m_number _ 0 4 (by decide)) (by decide) (Nat.le_of_ble_eq_true rfl) (Nat.le_of_ble_eq_true rfl) (Nat.le_of_ble_eq_true rfl) ?_
  rintro _ _ ⟨rfl, rfl⟩
  refine g_l2i dX5_open_84 ?_
  refine p_put dX5_open_85 fpX5_88 rfl (Nat.le_of_ble_eq_true rfl) (fun _ => rfl) (fun _ => rfl) (by with_reducible first | exact wS_28_4 _ _ _ _) ?_
  refine g_aload_n dX5_open_88 rfl rfl ?_
  refine g_iload dX5_open_89 rfl ?_
  refine g_iconst (v := 4) dX5_open_91 (by decide) ?_
  refine g_iadd dX5_open_92 ?_
  refine g_eqi (y := nI (0 + 4)) (rfl) ?_
  refine g_iconst (v := 4) dX5_open_93 (by decide) ?_
  refine cV2N (fun _ _ => rfl) dX5_open_94 mlX5_137 imX5_number seX5_number rfl rfl (m_number _ (0 + 4) 4 (by decide)) (by decide) (Nat.le_of_ble_eq_true rfl) (Nat.le_of_ble_eq_true rfl) (Nat.le_of_ble_eq_true rfl) ?_
  rintro _ _ ⟨rfl, rfl⟩
  refine g_l2i dX5_open_97 ?_
  refine g_eqi (y := nI (len)) (e) ?_
  refine g_istore dX5_open_98 (by decide) ?_
  refine g_aload_n dX5_open_100 rfl rfl ?_
  refine cV00 (fun _ _ => rfl) dX5_open_101 mlX5_82 imX5_forget seX5_forget rfl rfl (m_forget _) (by decide) (Nat.le_of_ble_eq_true rfl) (Nat.le_of_ble_eq_true rfl) (Nat.le_of_ble_eq_true rfl) ?_
  rintro _ rfl
  exact ln_open _ _ _ _ w rm len t hl len 0 0 0 0 _ (by omega) (by omega) (show R0 (mS S 28 4 _) w L V n c rm from h).fg ((mfor_k _ _ (by decide)).trans ho)
set_option maxRecDepth 100000 in
set_option maxHeartbeats 400000 in
theorem ln_op16 (S : gS) (w L V n c rm t : Nat) (h : R0 S w L V n c rm) (ho : S.1 28 3 = 0) (hm : ¬ mhr (S.2.1 29) 16 = 0) (b1 b2 b3 : Int32) : G MX5_open (3, 71) 74 [some (.ref 28), some (.int b1), some (.int b2), some (.int b3), none, none] [.int 16] (wRf Γ τ S) 0 0 (gN (wRf Γ τ) fun v S' => (∃ r : Int32, v = .int r) ∧ RI S' (t + 1)) := by
  obtain ⟨len, hl, e⟩ := headlen h.2.2.2.1 (a := 16) (by decide) hm
  refine g_istore dX5_open_74 (by decide) ?_
  refine g_aload_n dX5_open_76 rfl rfl ?_
  refine g_aload_n dX5_open_77 rfl rfl ?_
  refine g_iload dX5_open_78 rfl ?_
  refine g_iconst (v := 4) dX5_open_80 (by decide) ?_
  refine cV2N (fun _ _ => rfl) dX5_open_81 mlX5_137 imX5_number seX5_number rfl rfl (m_number _ 16 4 (by decide)) (by decide) (Nat.le_of_ble_eq_true rfl) (Nat.le_of_ble_eq_true rfl) (Nat.le_of_ble_eq_true rfl) ?_
  rintro _ _ ⟨rfl, rfl⟩
  refine g_l2i dX5_open_84 ?_
  refine p_put dX5_open_85 fpX5_88 rfl (Nat.le_of_ble_eq_true rfl) (fun _ => rfl) (fun _ => rfl) (by with_reducible first | exact wS_28_4 _ _ _ _) ?_
  refine g_aload_n dX5_open_88 rfl rfl ?_
  refine g_iload dX5_open_89 rfl ?_
  refine g_iconst (v := 4) dX5_open_91 (by decide) ?_
  refine g_iadd dX5_open_92 ?_
  refine g_eqi (y := nI (16 + 4)) (rfl) ?_
  refine g_iconst (v := 4) dX5_open_93 (by decide) ?_
  refine cV2N (fun _ _ => rfl) dX5_open_94 mlX5_137 imX5_number seX5_number rfl rfl (m_number _ (16 + 4) 4 (by decide)) (by decide) (Nat.le_of_ble_eq_true rfl) (Nat.le_of_ble_eq_true rfl) (Nat.le_of_ble_eq_true rfl) ?_
  rintro _ _ ⟨rfl, rfl⟩
  refine g_l2i dX5_open_97 ?_
  refine g_eqi (y := nI (len)) (e) ?_
  refine g_istore dX5_open_98 (by decide) ?_
  refine g_aload_n dX5_open_100 rfl rfl ?_
  refine cV00 (fun _ _ => rfl) dX5_open_101 mlX5_82 imX5_forget seX5_forget rfl rfl (m_forget _) (by decide) (Nat.le_of_ble_eq_true rfl) (Nat.le_of_ble_eq_true rfl) (Nat.le_of_ble_eq_true rfl) ?_
  rintro _ rfl
  exact ln_open _ _ _ _ w rm len t hl len 0 0 0 0 _ (by omega) (by omega) (show R0 (mS S 28 4 _) w L V n c rm from h).fg ((mfor_k _ _ (by decide)).trans ho)
set_option maxRecDepth 100000 in
set_option maxHeartbeats 400000 in
theorem n_open (S : gS) (t : Nat) (h : RI S t) : gCt MX5_open (3, 71) 0 0 [.ref 28] (wRf Γ τ S) (gN (wRf Γ τ) fun v S' => (∃ r : Int32, v = .int r) ∧ RI S' (t + 1)) := by
  refine gCt.of (ls := [some (.ref 28), none, none, none, none, none]) 5 (by decide) rfl (Nat.le_of_ble_eq_true rfl) ?_
  obtain ⟨w, L, V, n, c, rm, h⟩ := h
  have h2 : R0 (mS (mS S 28 0 0) 28 3 0) w L V n c rm := ⟨h.1.1, h.1.2.1, Or.inl rfl, h.1.2.2.2⟩
  refine g_aload_n dX5_open_0 rfl rfl ?_
  refine g_iconst (v := 0) dX5_open_1 (by decide) ?_
  refine p_put dX5_open_2 fpX5_75 rfl (Nat.le_of_ble_eq_true rfl) (fun _ => rfl) (fun _ => rfl) (by with_reducible first | exact wS_28_0 _ _ _ _) ?_
  refine g_aload_n dX5_open_5 rfl rfl ?_
  refine g_iconst (v := 0) dX5_open_6 (by decide) ?_
  refine p_put dX5_open_7 fpX5_94 rfl (Nat.le_of_ble_eq_true rfl) (fun _ => rfl) (fun _ => rfl) (by with_reducible first | exact wS_28_3 _ _ _ _) ?_
  refine g_aload_n dX5_open_10 rfl rfl ?_
  refine g_iconst (v := 0) dX5_open_11 (by decide) ?_
  refine cV1N (fun _ _ => rfl) dX5_open_12 mlX5_190 imX5_isHead seX5_isHead rfl rfl (m_isHead0 _) (by decide) (Nat.le_of_ble_eq_true rfl) (Nat.le_of_ble_eq_true rfl) (Nat.le_of_ble_eq_true rfl) ?_
  rintro _ _ ⟨rfl, rfl⟩
  refine g_istore_n dX5_open_15 rfl (by decide) ?_
  refine g_aload_n dX5_open_16 rfl rfl ?_
  refine g_bipush (v := 16) dX5_open_17 (by decide) ?_
  refine cV1N (fun _ _ => rfl) dX5_open_19 mlX5_190 imX5_isHead seX5_isHead rfl rfl (m_isHead16 _) (by decide) (Nat.le_of_ble_eq_true rfl) (Nat.le_of_ble_eq_true rfl) (Nat.le_of_ble_eq_true rfl) ?_
  rintro _ _ ⟨rfl, rfl⟩
  refine g_istore_n dX5_open_22 rfl (by decide) ?_
  refine g_iload_n dX5_open_23 rfl rfl ?_
  refine g_if_ne (tgt := 33) dX5_open_24 (by decide) (fun c24 => ?_) (fun c24 => ?_)
  · refine g_iload_n dX5_open_33 rfl rfl ?_
    refine g_if_eq (tgt := 62) dX5_open_34 (by decide) (fun c34 => ?_) (fun c34 => ?_)
    · refine g_iconst (v := 0) dX5_open_62 (by decide) ?_
      refine g_istore_n dX5_open_63 rfl (by decide) ?_
      refine g_iload_n dX5_open_64 rfl rfl ?_
      refine g_if_eq (tgt := 73) dX5_open_65 (by decide) (fun c65 => ?_) (fun c65 => ?_)
      · first | exact absurd c65 (by decide) | (refine g_iconst (v := 0) dX5_open_73 (by decide) ?_; first | exact ln_op0 _ w L V n c rm t h2 rfl c24 _ _ _ | exact ln_op0 _ w L V n c rm t h2 rfl c38 _ _ _ | exact absurd c34 c28)
      · first | exact absurd rfl c65 | (refine g_bipush (v := 16) dX5_open_68 (by decide) ?_; refine g_goto (tgt := 74) dX5_open_70 (by decide) ?_; exact ln_op16 _ w L V n c rm t h2 rfl c34 _ _ _)
    · refine g_iload_n dX5_open_37 rfl rfl ?_
      refine g_if_eq (tgt := 58) dX5_open_38 (by decide) (fun c38 => ?_) (fun c38 => ?_)
      · refine g_iconst (v := 1) dX5_open_58 (by decide) ?_
        refine g_goto (tgt := 63) dX5_open_59 (by decide) ?_
        refine g_istore_n dX5_open_63 rfl (by decide) ?_
        refine g_iload_n dX5_open_64 rfl rfl ?_
        refine g_if_eq (tgt := 73) dX5_open_65 (by decide) (fun c65 => ?_) (fun c65 => ?_)
        · first | exact absurd c65 (by decide) | (refine g_iconst (v := 0) dX5_open_73 (by decide) ?_; first | exact ln_op0 _ w L V n c rm t h2 rfl c24 _ _ _ | exact ln_op0 _ w L V n c rm t h2 rfl c38 _ _ _ | exact absurd c34 c28)
        · first | exact absurd rfl c65 | (refine g_bipush (v := 16) dX5_open_68 (by decide) ?_; refine g_goto (tgt := 74) dX5_open_70 (by decide) ?_; exact ln_op16 _ w L V n c rm t h2 rfl c34 _ _ _)
      · refine g_aload_n dX5_open_41 rfl rfl ?_
        refine g_bipush (v := 16) dX5_open_42 (by decide) ?_
        refine g_iconst (v := 4) dX5_open_44 (by decide) ?_
        refine cV2N (fun _ _ => rfl) dX5_open_45 mlX5_137 imX5_number seX5_number rfl rfl (m_number _ 16 4 (by decide)) (by decide) (Nat.le_of_ble_eq_true rfl) (Nat.le_of_ble_eq_true rfl) (Nat.le_of_ble_eq_true rfl) ?_
        rintro _ _ ⟨rfl, rfl⟩
        refine g_aload_n dX5_open_48 rfl rfl ?_
        refine g_iconst (v := 0) dX5_open_49 (by decide) ?_
        refine g_iconst (v := 4) dX5_open_50 (by decide) ?_
        refine cV2N (fun _ _ => rfl) dX5_open_51 mlX5_137 imX5_number seX5_number rfl rfl (m_number _ 0 4 (by decide)) (by decide) (Nat.le_of_ble_eq_true rfl) (Nat.le_of_ble_eq_true rfl) (Nat.le_of_ble_eq_true rfl) ?_
        rintro _ _ ⟨rfl, rfl⟩
        refine g_lcmp dX5_open_54 ?_
        refine g_if_le (tgt := 62) dX5_open_55 (by decide) (fun c55 => ?_) (fun c55 => ?_)
        · refine g_iconst (v := 0) dX5_open_62 (by decide) ?_
          refine g_istore_n dX5_open_63 rfl (by decide) ?_
          refine g_iload_n dX5_open_64 rfl rfl ?_
          refine g_if_eq (tgt := 73) dX5_open_65 (by decide) (fun c65 => ?_) (fun c65 => ?_)
          · first | exact absurd c65 (by decide) | (refine g_iconst (v := 0) dX5_open_73 (by decide) ?_; first | exact ln_op0 _ w L V n c rm t h2 rfl c24 _ _ _ | exact ln_op0 _ w L V n c rm t h2 rfl c38 _ _ _ | exact absurd c34 c28)
          · first | exact absurd rfl c65 | (refine g_bipush (v := 16) dX5_open_68 (by decide) ?_; refine g_goto (tgt := 74) dX5_open_70 (by decide) ?_; exact ln_op16 _ w L V n c rm t h2 rfl c34 _ _ _)
        · refine g_iconst (v := 1) dX5_open_58 (by decide) ?_
          refine g_goto (tgt := 63) dX5_open_59 (by decide) ?_
          refine g_istore_n dX5_open_63 rfl (by decide) ?_
          refine g_iload_n dX5_open_64 rfl rfl ?_
          refine g_if_eq (tgt := 73) dX5_open_65 (by decide) (fun c65 => ?_) (fun c65 => ?_)
          · first | exact absurd c65 (by decide) | (refine g_iconst (v := 0) dX5_open_73 (by decide) ?_; first | exact ln_op0 _ w L V n c rm t h2 rfl c24 _ _ _ | exact ln_op0 _ w L V n c rm t h2 rfl c38 _ _ _ | exact absurd c34 c28)
          · first | exact absurd rfl c65 | (refine g_bipush (v := 16) dX5_open_68 (by decide) ?_; refine g_goto (tgt := 74) dX5_open_70 (by decide) ?_; exact ln_op16 _ w L V n c rm t h2 rfl c34 _ _ _)
  · refine g_iload_n dX5_open_27 rfl rfl ?_
    refine g_if_ne (tgt := 33) dX5_open_28 (by decide) (fun c28 => ?_) (fun c28 => ?_)
    · refine g_iload_n dX5_open_33 rfl rfl ?_
      refine g_if_eq (tgt := 62) dX5_open_34 (by decide) (fun c34 => ?_) (fun c34 => ?_)
      · refine g_iconst (v := 0) dX5_open_62 (by decide) ?_
        refine g_istore_n dX5_open_63 rfl (by decide) ?_
        refine g_iload_n dX5_open_64 rfl rfl ?_
        refine g_if_eq (tgt := 73) dX5_open_65 (by decide) (fun c65 => ?_) (fun c65 => ?_)
        · first | exact absurd c65 (by decide) | (refine g_iconst (v := 0) dX5_open_73 (by decide) ?_; first | exact ln_op0 _ w L V n c rm t h2 rfl c24 _ _ _ | exact ln_op0 _ w L V n c rm t h2 rfl c38 _ _ _ | exact absurd c34 c28)
        · first | exact absurd rfl c65 | (refine g_bipush (v := 16) dX5_open_68 (by decide) ?_; refine g_goto (tgt := 74) dX5_open_70 (by decide) ?_; exact ln_op16 _ w L V n c rm t h2 rfl c34 _ _ _)
      · refine g_iload_n dX5_open_37 rfl rfl ?_
        refine g_if_eq (tgt := 58) dX5_open_38 (by decide) (fun c38 => ?_) (fun c38 => ?_)
        · refine g_iconst (v := 1) dX5_open_58 (by decide) ?_
          refine g_goto (tgt := 63) dX5_open_59 (by decide) ?_
          refine g_istore_n dX5_open_63 rfl (by decide) ?_
          refine g_iload_n dX5_open_64 rfl rfl ?_
          refine g_if_eq (tgt := 73) dX5_open_65 (by decide) (fun c65 => ?_) (fun c65 => ?_)
          · first | exact absurd c65 (by decide) | (refine g_iconst (v := 0) dX5_open_73 (by decide) ?_; first | exact ln_op0 _ w L V n c rm t h2 rfl c24 _ _ _ | exact ln_op0 _ w L V n c rm t h2 rfl c38 _ _ _ | exact absurd c34 c28)
          · first | exact absurd rfl c65 | (refine g_bipush (v := 16) dX5_open_68 (by decide) ?_; refine g_goto (tgt := 74) dX5_open_70 (by decide) ?_; exact ln_op16 _ w L V n c rm t h2 rfl c34 _ _ _)
        · refine g_aload_n dX5_open_41 rfl rfl ?_
          refine g_bipush (v := 16) dX5_open_42 (by decide) ?_
          refine g_iconst (v := 4) dX5_open_44 (by decide) ?_
          refine cV2N (fun _ _ => rfl) dX5_open_45 mlX5_137 imX5_number seX5_number rfl rfl (m_number _ 16 4 (by decide)) (by decide) (Nat.le_of_ble_eq_true rfl) (Nat.le_of_ble_eq_true rfl) (Nat.le_of_ble_eq_true rfl) ?_
          rintro _ _ ⟨rfl, rfl⟩
          refine g_aload_n dX5_open_48 rfl rfl ?_
          refine g_iconst (v := 0) dX5_open_49 (by decide) ?_
          refine g_iconst (v := 4) dX5_open_50 (by decide) ?_
          refine cV2N (fun _ _ => rfl) dX5_open_51 mlX5_137 imX5_number seX5_number rfl rfl (m_number _ 0 4 (by decide)) (by decide) (Nat.le_of_ble_eq_true rfl) (Nat.le_of_ble_eq_true rfl) (Nat.le_of_ble_eq_true rfl) ?_
          rintro _ _ ⟨rfl, rfl⟩
          refine g_lcmp dX5_open_54 ?_
          refine g_if_le (tgt := 62) dX5_open_55 (by decide) (fun c55 => ?_) (fun c55 => ?_)
          · refine g_iconst (v := 0) dX5_open_62 (by decide) ?_
            refine g_istore_n dX5_open_63 rfl (by decide) ?_
            refine g_iload_n dX5_open_64 rfl rfl ?_
            refine g_if_eq (tgt := 73) dX5_open_65 (by decide) (fun c65 => ?_) (fun c65 => ?_)
            · first | exact absurd c65 (by decide) | (refine g_iconst (v := 0) dX5_open_73 (by decide) ?_; first | exact ln_op0 _ w L V n c rm t h2 rfl c24 _ _ _ | exact ln_op0 _ w L V n c rm t h2 rfl c38 _ _ _ | exact absurd c34 c28)
            · first | exact absurd rfl c65 | (refine g_bipush (v := 16) dX5_open_68 (by decide) ?_; refine g_goto (tgt := 74) dX5_open_70 (by decide) ?_; exact ln_op16 _ w L V n c rm t h2 rfl c34 _ _ _)
          · refine g_iconst (v := 1) dX5_open_58 (by decide) ?_
            refine g_goto (tgt := 63) dX5_open_59 (by decide) ?_
            refine g_istore_n dX5_open_63 rfl (by decide) ?_
            refine g_iload_n dX5_open_64 rfl rfl ?_
            refine g_if_eq (tgt := 73) dX5_open_65 (by decide) (fun c65 => ?_) (fun c65 => ?_)
            · first | exact absurd c65 (by decide) | (refine g_iconst (v := 0) dX5_open_73 (by decide) ?_; first | exact ln_op0 _ w L V n c rm t h2 rfl c24 _ _ _ | exact ln_op0 _ w L V n c rm t h2 rfl c38 _ _ _ | exact absurd c34 c28)
            · first | exact absurd rfl c65 | (refine g_bipush (v := 16) dX5_open_68 (by decide) ?_; refine g_goto (tgt := 74) dX5_open_70 (by decide) ?_; exact ln_op16 _ w L V n c rm t h2 rfl c34 _ _ _)
    · refine g_iconst (v := (-1)) dX5_open_31 (by decide) ?_
      refine g_iret dX5_open_32 rfl ⟨_, _, rfl, rfl, ?_⟩
      exact ⟨⟨_, rfl⟩, w, L, V, n, c, rm, h2, fun z => absurd (show (0 : Int32) = 1 from z) (by decide)⟩
end
