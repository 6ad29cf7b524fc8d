section
variable {Γ : gS} {τ : gW}
def mhead (f : Nat → Int32) (a : Nat) (kind number size : Int32) : Nat → Int32 := upd (mput (upd f a (kind &&& 255)) (a + 1) number.toInt64 2 2) (a + 3) (size &&& 255)
set_option maxRecDepth 100000 in
set_option maxHeartbeats 4000000 in
theorem m_begin_ (S : gS) (L w : Nat) (x y z : Int32) (hL : S.1 28 9 = nI L) (h : L + 36 ≤ 24032) (hs : S.1 28 7 = nI w) (hw : w + 4 ≤ 131072) : gCt MX5_begin_ (2, 65) 0 0 [.ref 28, .int x, .int y, .int z] (wRf Γ τ S) (gN (wRf Γ τ) fun v S' => v = .int (nI (32 + L + 4)) ∧ Mw S S' w (w + 4) (mhead (S.2.1 29) (32 + L) x y z)) := by
  refine gCt.of (ls := [some (.ref 28), some (.int x), some (.int y), some (.int z), none]) 1 (by decide) rfl (Nat.le_of_ble_eq_true rfl) ?_
  refine g_bipush (v := 32) dX5_begin__0 (by decide) ?_
  refine g_aload_n dX5_begin__2 rfl rfl ?_
  refine g_get dX5_begin__3 flX5_98 rfl rfl ?_
  refine g_iadd dX5_begin__6 ?_
  refine g_eqi (y := nI (32 + L)) (by rw [hL]; exact nI_add 32 L) ?_
  refine g_istore dX5_begin__7 (by decide) ?_
  refine g_aload_n dX5_begin__9 rfl rfl ?_
  refine g_iload dX5_begin__10 rfl ?_
  refine g_iload_n dX5_begin__12 rfl rfl ?_
  refine cV20 (fun _ _ => rfl) dX5_begin__13 mlX5_118 imX5_put seX5_put rfl rfl (m_put _ (32 + L) w _ (by omega) hs (by omega)) (by decide) (Nat.le_of_ble_eq_true rfl) (Nat.le_of_ble_eq_true rfl) (Nat.le_of_ble_eq_true rfl) ?_
  rintro S1 hS1
  refine g_aload_n dX5_begin__16 rfl rfl ?_
  refine g_iload dX5_begin__17 rfl ?_
  refine g_iconst (v := 1) dX5_begin__19 (by decide) ?_
  refine g_iadd dX5_begin__20 ?_
  refine g_eqi (y := nI (32 + L + 1)) (nI_1 _) ?_
  refine g_iload_n dX5_begin__21 rfl rfl ?_
  refine g_i2l dX5_begin__22 ?_
  refine g_iconst (v := 2) dX5_begin__23 (by decide) ?_
  refine cV30 (fun _ _ => rfl) dX5_begin__24 mlX5_122 imX5_putNumber seX5_putNumber rfl rfl (m_putNumber _ _ (32 + L + 1) 2 (w + 1) (by omega) (by omega) hS1.1) (by decide) (Nat.le_of_ble_eq_true rfl) (Nat.le_of_ble_eq_true rfl) (Nat.le_of_ble_eq_true rfl) ?_
  rintro S2 hS2
  refine g_aload_n dX5_begin__27 rfl rfl ?_
  refine g_iload dX5_begin__28 rfl ?_
  refine g_iconst (v := 3) dX5_begin__30 (by decide) ?_
  refine g_iadd dX5_begin__31 ?_
  refine g_eqi (y := nI (32 + L + 3)) (nI_add _ 3) ?_
  refine g_iload_n dX5_begin__32 rfl rfl ?_
  refine cV20 (fun _ _ => rfl) dX5_begin__33 mlX5_118 imX5_put seX5_put rfl rfl (m_put _ (32 + L + 3) (w + 3) _ (by omega) hS2.1 (by omega)) (by decide) (Nat.le_of_ble_eq_true rfl) (Nat.le_of_ble_eq_true rfl) (Nat.le_of_ble_eq_true rfl) ?_
  rintro S3 hS3
  refine g_iload dX5_begin__36 rfl ?_
  refine g_iconst (v := 4) dX5_begin__38 (by decide) ?_
  refine g_iadd dX5_begin__39 ?_
  refine g_eqi (y := nI (32 + L + 4)) (nI_add _ 4) ?_
  refine g_iret dX5_begin__40 rfl ⟨_, _, rfl, rfl, ?_⟩
  refine ⟨rfl, ?_⟩
  have h9 := (hS1.tr hS2).tr hS3
  rw [hS2.2.1, hS1.2.1] at h9
  exact h9
set_option maxRecDepth 100000 in
set_option maxHeartbeats 4000000 in
theorem m_take2 (S : gS) (at_ sz : Nat) (ha : at_ + 12 + sz ≤ 24032) (b : Nat) (hk : S.2.1 29 at_ = 2) (hb : S.2.1 29 (at_ + 4) = nI b) (hb2 : b < 64) : gCt MX5_take (1, 25) 0 0 [.ref 28, .int (nI at_), .int (nI sz)] (wRf Γ τ S) (g0 (wRf Γ τ) fun S' => S'.1 28 0 = S.1 28 0) := by
  refine gCt.of (ls := [some (.ref 28), some (.int (nI at_)), some (.int (nI sz)), none, none, none, none, none]) 5 (by decide) rfl (Nat.le_of_ble_eq_true rfl) ?_
  refine g_aload_n dX5_take_0 rfl rfl ?_
  refine g_get dX5_take_1 flX5_7 rfl rfl ?_
  refine g_iload_n dX5_take_4 rfl rfl ?_
  refine g_iald dX5_take_5 rfl (vp_in_nI (by omega) (by decide)) ?_
  refine g_eqi (y := 2) (by rw [nI_clamp (by omega)]; exact hk) ?_
  refine g_istore_n dX5_take_6 rfl (by decide) ?_
  refine g_aload_n dX5_take_7 rfl rfl ?_
  refine g_iload_n dX5_take_8 rfl rfl ?_
  refine g_iconst (v := 1) dX5_take_9 (by decide) ?_
  refine g_iadd dX5_take_10 ?_
  refine g_eqi (y := nI (at_ + 1)) (nI_1 _) ?_
  refine g_iconst (v := 2) dX5_take_11 (by decide) ?_
  refine cV2N (fun _ _ => rfl) dX5_take_12 mlX5_137 imX5_number seX5_number rfl rfl (m_number _ (at_ + 1) 2 (by omega)) (by decide) (Nat.le_of_ble_eq_true rfl) (Nat.le_of_ble_eq_true rfl) (Nat.le_of_ble_eq_true rfl) ?_
  rintro _ _ ⟨rfl, rfl⟩
  refine g_l2i dX5_take_15 ?_
  refine g_istore dX5_take_16 (by decide) ?_
  refine g_iload_n dX5_take_18 rfl rfl ?_
  refine g_iconst (v := 4) dX5_take_19 (by decide) ?_
  refine g_iadd dX5_take_20 ?_
  refine g_eqi (y := nI (at_ + 4)) (nI_add _ 4) ?_
  refine g_istore dX5_take_21 (by decide) ?_
  refine g_iload_n dX5_take_23 rfl rfl ?_
  refine g_iconst (v := 1) dX5_take_24 (by decide) ?_
  refine g_icmp_ne (tgt := 97) dX5_take_25 (by decide) (fun c25 => ?_) (fun c25 => ?_)
  · refine g_iload_n dX5_take_97 rfl rfl ?_
    refine g_iconst (v := 2) dX5_take_98 (by decide) ?_
    refine g_icmp_ne (tgt := 155) dX5_take_99 (by decide) (fun c99 => ?_) (fun c99 => ?_)
    · exact absurd rfl c99
    · refine g_lconst (v := 1) dX5_take_102 (by decide) ?_
      refine g_aload_n dX5_take_103 rfl rfl ?_
      refine g_get dX5_take_104 flX5_7 rfl rfl ?_
      refine g_iload dX5_take_107 rfl ?_
      refine g_iconst (v := 1) dX5_take_109 (by decide) ?_
      refine g_iadd dX5_take_110 ?_
      refine g_eqi (y := nI (at_ + 4 + 1)) (nI_1 _) ?_
      refine g_iald dX5_take_111 rfl (vp_in_nI (by omega) (by decide)) ?_
      refine g_lshl dX5_take_112 ?_
      refine g_lstore dX5_take_113 (by decide) ?_
      refine g_aload_n dX5_take_115 rfl rfl ?_
      refine g_get dX5_take_116 flX5_20 rfl rfl ?_
      refine g_aload_n dX5_take_119 rfl rfl ?_
      refine g_get dX5_take_120 flX5_7 rfl rfl ?_
      refine g_iload dX5_take_123 rfl ?_
      refine g_iald dX5_take_125 rfl (vp_in_nI (by omega) (by decide)) ?_
      refine g_aload_n dX5_take_126 rfl rfl ?_
      refine g_get dX5_take_127 flX5_20 rfl rfl ?_
      refine g_aload_n dX5_take_130 rfl rfl ?_
      refine g_get dX5_take_131 flX5_7 rfl rfl ?_
      refine g_iload dX5_take_134 rfl ?_
      refine g_iald dX5_take_136 rfl (vp_in_nI (by omega) (by decide)) ?_
      refine g_lald dX5_take_137 rfl (by rw [nI_clamp (by omega), hb]; exact vp_in_nI hb2 (by decide)) ?_
      refine g_lload dX5_take_138 rfl ?_
      refine g_lxor dX5_take_140 ?_
      refine p_last dX5_take_141 rfl (by rw [nI_clamp (by omega), hb]; exact vp_in_nI hb2 (by decide)) (by with_reducible first | exact wA_29 _ _ _ _ | exact wA_30 _ _ _ _ | exact wA_31 _ _ _ _ | exact wA_32 _ _ _ _ | exact wA_33 _ _ _ _ | exact wA_34 _ _ _ _ | exact wA_35 _ _ _ _ | exact wA_36 _ _ _ _ | exact wA_37 _ _ _ _ | exact wA_38 _ _ _ _ | exact wA_39 _ _ _ _ | exact wA_40 _ _ _ _ | exact wA_41 _ _ _ _ | exact wA_42 _ _ _ _ | exact wA_43 _ _ _ _ | exact wA_44 _ _ _ _ | exact wA_45 _ _ _ _ | exact wA_46 _ _ _ _ | exact wA_47 _ _ _ _) ?_
      refine g_aload_n dX5_take_142 rfl rfl ?_
      refine g_dup dX5_take_143 rfl ?_
      refine g_get dX5_take_144 flX5_104 rfl rfl ?_
      refine g_iconst (v := 1) dX5_take_147 (by decide) ?_
      refine g_iadd dX5_take_148 ?_
      refine p_put dX5_take_149 fpX5_104 rfl (Nat.le_of_ble_eq_true rfl) (fun _ => rfl) (fun _ => rfl) (by with_reducible first | exact wS_28_11 _ _ _ _) ?_
      refine g_goto (tgt := 288) dX5_take_152 (by decide) ?_
      refine g_aload_n dX5_take_288 rfl rfl ?_
      refine g_aload_n dX5_take_289 rfl rfl ?_
      refine g_get dX5_take_290 flX5_98 rfl rfl ?_
      refine g_bipush (v := 12) dX5_take_293 (by decide) ?_
      refine g_iadd dX5_take_295 ?_
      refine g_iload_n dX5_take_296 rfl rfl ?_
      refine g_iadd dX5_take_297 ?_
      refine p_put dX5_take_298 fpX5_98 rfl (Nat.le_of_ble_eq_true rfl) (fun _ => rfl) (fun _ => rfl) (by with_reducible first | exact wS_28_9 _ _ _ _) ?_
      refine g_aload_n dX5_take_301 rfl rfl ?_
      refine g_dup dX5_take_302 rfl ?_
      refine g_get dX5_take_303 flX5_101 rfl rfl ?_
      refine g_iconst (v := 1) dX5_take_306 (by decide) ?_
      refine g_iadd dX5_take_307 ?_
      refine p_put dX5_take_308 fpX5_101 rfl (Nat.le_of_ble_eq_true rfl) (fun _ => rfl) (fun _ => rfl) (by with_reducible first | exact wS_28_10 _ _ _ _) ?_
      refine g_vret dX5_take_311 rfl ⟨_, rfl, rfl, ?_⟩
      rw [mS_ne (by decide), mS_ne (by decide), mS_ne (by decide)]; rfl
  · exact absurd c25 (by decide)
theorem ix_8 {c k N : Nat} (h : 8 * c + k < N) (hN : N < 2 ^ 31) : vp_in (8 * nI c + nI k) N := by
  rw [show (8 : Int32) = nI 8 from rfl, pk_mul, nI_add]
  exact vp_in_nI h hN
set_option maxRecDepth 100000 in
set_option maxHeartbeats 4000000 in
theorem lm_take1 (S : gS) (at_ sz L c q : Nat) (ha : at_ + 76 ≤ 24032) (hL : S.1 28 9 = nI L) (hc : S.1 28 14 = nI c) (hc2 : c < 320) : ∀ (m i : Nat) (f : Nat → Int64), i + m = 8 → G MX5_take (1, 25) 42 [some (.ref 28), some (.int (nI at_)), some (.int (nI sz)), some (.int 1), some (.int (nI q)), some (.int (nI (at_ + 4))), some (.int (nI i)), none] [] (wRf Γ τ (mL (mA S 33 (upd (S.2.1 33) q (nI c))) 34 f)) 0 0 (g0 (wRf Γ τ) fun S' => (∀ j, j ≠ 9 → j ≠ 10 → j ≠ 14 → S'.1 28 j = S.1 28 j) ∧ S'.1 28 9 = nI (L + 12 + sz) ∧ S'.1 28 14 = nI (c + 1) ∧ (∀ k, k ≠ 33 → S'.2.1 k = S.2.1 k) ∧ (∀ k, k ≠ 34 → S'.2.2 k = S.2.2 k) ∧ S'.2.1 33 = upd (S.2.1 33) q (nI c) ∧ S'.1 28 10 = S.1 28 10 + 1) := by
  intro m
  induction m with
  | zero =>
    intro i f hi
    obtain rfl : i = 8 := by omega
    refine g_iload dX5_take_42 rfl ?_
    refine g_bipush (v := 8) dX5_take_44 (by decide) ?_
    refine g_icmp_ge (tgt := 84) dX5_take_46 (by decide) (fun c46 => ?_) (fun c46 => ?_)
    · refine g_aload_n dX5_take_84 rfl rfl ?_
      refine g_dup dX5_take_85 rfl ?_
      refine g_get dX5_take_86 flX5_107 rfl rfl ?_
      refine g_iconst (v := 1) dX5_take_89 (by decide) ?_
      refine g_iadd dX5_take_90 ?_
      refine p_put dX5_take_91 fpX5_107 rfl (Nat.le_of_ble_eq_true rfl) (fun _ => rfl) (fun _ => rfl) (by with_reducible first | exact wS_28_14 _ _ _ _) ?_
      refine g_goto (tgt := 288) dX5_take_94 (by decide) ?_
      refine g_aload_n dX5_take_288 rfl rfl ?_
      refine g_aload_n dX5_take_289 rfl rfl ?_
      refine g_get dX5_take_290 flX5_98 rfl rfl ?_
      refine g_bipush (v := 12) dX5_take_293 (by decide) ?_
      refine g_iadd dX5_take_295 ?_
      refine g_iload_n dX5_take_296 rfl rfl ?_
      refine g_iadd dX5_take_297 ?_
      refine p_put dX5_take_298 fpX5_98 rfl (Nat.le_of_ble_eq_true rfl) (fun _ => rfl) (fun _ => rfl) (by with_reducible first | exact wS_28_9 _ _ _ _) ?_
      refine g_aload_n dX5_take_301 rfl rfl ?_
      refine g_dup dX5_take_302 rfl ?_
      refine g_get dX5_take_303 flX5_101 rfl rfl ?_
      refine g_iconst (v := 1) dX5_take_306 (by decide) ?_
      refine g_iadd dX5_take_307 ?_
      refine p_put dX5_take_308 fpX5_101 rfl (Nat.le_of_ble_eq_true rfl) (fun _ => rfl) (fun _ => rfl) (by with_reducible first | exact wS_28_10 _ _ _ _) ?_
      refine g_vret dX5_take_311 rfl ⟨_, rfl, rfl, ?_⟩
      refine ⟨fun j h1 h2 h3 => ?_, ?_, ?_, fun k hk => ?_, fun k hk => ?_, ?_, rfl⟩
      · rw [mS_ne (fun z => h2 z.2), mS_ne (fun z => h1 z.2), mS_ne (fun z => h3 z.2)]; rfl
      · rw [mS_ne (by decide), mS_same, mS_ne (by decide)]
        show S.1 28 9 + 12 + nI sz = _
        rw [hL, show (12 : Int32) = nI 12 from rfl, nI_add, nI_add]
      · rw [mS_ne (by decide), mS_ne (by decide), mS_same]
        show S.1 28 14 + 1 = _
        rw [hc, nI_1]
      · show (mA S 33 _).2.1 k = _
        simp [mA, hk]
      · show (mL _ 34 _).2.2 k = _
        simp [mL, hk]; rfl
      · rfl
    · exact absurd (show (8 : Int32) ≤ nI 8 by decide) c46
  | succ m ih =>
    intro i f hi
    refine g_iload dX5_take_42 rfl ?_
    refine g_bipush (v := 8) dX5_take_44 (by decide) ?_
    refine g_icmp_ge (tgt := 84) dX5_take_46 (by decide) (fun c46 => ?_) (fun c46 => ?_)
    · exact absurd c46 (nI_ge (b := 8) (by omega) (by decide))
    · refine g_aload_n dX5_take_49 rfl rfl ?_
      refine g_get dX5_take_50 flX5_28 rfl rfl ?_
      refine g_bipush (v := 8) dX5_take_53 (by decide) ?_
      refine g_aload_n dX5_take_55 rfl rfl ?_
      refine g_get dX5_take_56 flX5_107 rfl rfl ?_
      refine g_imul dX5_take_59 ?_
      refine g_iload dX5_take_60 rfl ?_
      refine g_iadd dX5_take_62 ?_
      refine g_aload_n dX5_take_63 rfl rfl ?_
      refine g_iload dX5_take_64 rfl ?_
      refine g_bipush (v := 8) dX5_take_66 (by decide) ?_
      refine g_iload dX5_take_68 rfl ?_
      refine g_imul dX5_take_70 ?_
      refine g_iadd dX5_take_71 ?_
      refine g_eqi (y := nI (at_ + 4 + 8 * i)) (by rw [show (8 : Int32) = nI 8 from rfl, pk_mul, nI_add]) ?_
      refine g_bipush (v := 8) dX5_take_72 (by decide) ?_
      refine cV2N (fun _ _ => rfl) dX5_take_74 mlX5_137 imX5_number seX5_number rfl rfl (m_number _ (at_ + 4 + 8 * i) 8 (by omega)) (by decide) (Nat.le_of_ble_eq_true rfl) (Nat.le_of_ble_eq_true rfl) (Nat.le_of_ble_eq_true rfl) ?_
      rintro _ _ ⟨rfl, rfl⟩
      refine p_last dX5_take_77 rfl (by show vp_in (8 * S.1 28 14 + nI i) 2560; rw [hc]; exact ix_8 (by omega) (by decide)) (by with_reducible first | exact wA_29 _ _ _ _ | exact wA_30 _ _ _ _ | exact wA_31 _ _ _ _ | exact wA_32 _ _ _ _ | exact wA_33 _ _ _ _ | exact wA_34 _ _ _ _ | exact wA_35 _ _ _ _ | exact wA_36 _ _ _ _ | exact wA_37 _ _ _ _ | exact wA_38 _ _ _ _ | exact wA_39 _ _ _ _ | exact wA_40 _ _ _ _ | exact wA_41 _ _ _ _ | exact wA_42 _ _ _ _ | exact wA_43 _ _ _ _ | exact wA_44 _ _ _ _ | exact wA_45 _ _ _ _ | exact wA_46 _ _ _ _ | exact wA_47 _ _ _ _) ?_
      refine g_iinc dX5_take_78 rfl (by decide) (by first | exact gi_1 _ | exact gi_p _) ?_
      refine g_goto (tgt := 42) dX5_take_81 (by decide) ?_
      rw [mL_mL]
      exact ih (i + 1) _ (by omega)
set_option maxRecDepth 100000 in
set_option maxHeartbeats 4000000 in
theorem m_take1 (S : gS) (at_ sz : Nat) (ha : at_ + 12 + sz ≤ 24032) (L c q : Nat) (hz : sz = 64) (hL : S.1 28 9 = nI L) (hc : S.1 28 14 = nI c) (hc2 : c < 320) (hk : S.2.1 29 at_ = 1) (hq : (mnum (S.2.1 29) (at_ + 1) 2).toInt32 = nI q) (hq2 : q < 65536) : gCt MX5_take (1, 25) 0 0 [.ref 28, .int (nI at_), .int (nI sz)] (wRf Γ τ S) (g0 (wRf Γ τ) fun S' => (∀ j, j ≠ 9 → j ≠ 10 → j ≠ 14 → S'.1 28 j = S.1 28 j) ∧ S'.1 28 9 = nI (L + 12 + sz) ∧ S'.1 28 14 = nI (c + 1) ∧ (∀ k, k ≠ 33 → S'.2.1 k = S.2.1 k) ∧ (∀ k, k ≠ 34 → S'.2.2 k = S.2.2 k) ∧ S'.2.1 33 = upd (S.2.1 33) q (nI c) ∧ S'.1 28 10 = S.1 28 10 + 1) := by
  refine gCt.of (ls := [some (.ref 28), some (.int (nI at_)), some (.int (nI sz)), none, none, none, none, none]) 5 (by decide) rfl (Nat.le_of_ble_eq_true rfl) ?_
  refine g_aload_n dX5_take_0 rfl rfl ?_
  refine g_get dX5_take_1 flX5_7 rfl rfl ?_
  refine g_iload_n dX5_take_4 rfl rfl ?_
  refine g_iald dX5_take_5 rfl (vp_in_nI (by omega) (by decide)) ?_
  refine g_eqi (y := 1) (by rw [nI_clamp (by omega)]; exact hk) ?_
  refine g_istore_n dX5_take_6 rfl (by decide) ?_
  refine g_aload_n dX5_take_7 rfl rfl ?_
  refine g_iload_n dX5_take_8 rfl rfl ?_
  refine g_iconst (v := 1) dX5_take_9 (by decide) ?_
  refine g_iadd dX5_take_10 ?_
  refine g_eqi (y := nI (at_ + 1)) (nI_1 _) ?_
  refine g_iconst (v := 2) dX5_take_11 (by decide) ?_
  refine cV2N (fun _ _ => rfl) dX5_take_12 mlX5_137 imX5_number seX5_number rfl rfl (m_number _ (at_ + 1) 2 (by omega)) (by decide) (Nat.le_of_ble_eq_true rfl) (Nat.le_of_ble_eq_true rfl) (Nat.le_of_ble_eq_true rfl) ?_
  rintro _ _ ⟨rfl, rfl⟩
  refine g_l2i dX5_take_15 ?_
  refine g_eqi (y := nI (q)) (hq) ?_
  refine g_istore dX5_take_16 (by decide) ?_
  refine g_iload_n dX5_take_18 rfl rfl ?_
  refine g_iconst (v := 4) dX5_take_19 (by decide) ?_
  refine g_iadd dX5_take_20 ?_
  refine g_eqi (y := nI (at_ + 4)) (nI_add _ 4) ?_
  refine g_istore dX5_take_21 (by decide) ?_
  refine g_iload_n dX5_take_23 rfl rfl ?_
  refine g_iconst (v := 1) dX5_take_24 (by decide) ?_
  refine g_icmp_ne (tgt := 97) dX5_take_25 (by decide) (fun c25 => ?_) (fun c25 => ?_)
  · exact absurd rfl c25
  · refine g_aload_n dX5_take_28 rfl rfl ?_
    refine g_get dX5_take_29 flX5_25 rfl rfl ?_
    refine g_iload dX5_take_32 rfl ?_
    refine g_aload_n dX5_take_34 rfl rfl ?_
    refine g_get dX5_take_35 flX5_107 rfl rfl ?_
    refine p_iast dX5_take_38 rfl (vp_in_nI hq2 (by decide)) (by with_reducible first | exact wA_29 _ _ _ _ | exact wA_30 _ _ _ _ | exact wA_31 _ _ _ _ | exact wA_32 _ _ _ _ | exact wA_33 _ _ _ _ | exact wA_34 _ _ _ _ | exact wA_35 _ _ _ _ | exact wA_36 _ _ _ _ | exact wA_37 _ _ _ _ | exact wA_38 _ _ _ _ | exact wA_39 _ _ _ _ | exact wA_40 _ _ _ _ | exact wA_41 _ _ _ _ | exact wA_42 _ _ _ _ | exact wA_43 _ _ _ _ | exact wA_44 _ _ _ _ | exact wA_45 _ _ _ _ | exact wA_46 _ _ _ _ | exact wA_47 _ _ _ _) ?_
    refine g_iconst (v := 0) dX5_take_39 (by decide) ?_
    refine g_istore dX5_take_40 (by decide) ?_
    rw [hc, nI_clamp (n := q) (by omega), ← mL_self (mA S 33 (upd (S.2.1 33) q (nI c))) 34]
    exact lm_take1 S at_ sz L c q (by omega) hL hc hc2 8 0 _ rfl
set_option maxRecDepth 100000 in
set_option maxHeartbeats 4000000 in
theorem lm_take3 (S : gS) (at_ sz V : Nat) (q : Int32) (ha : at_ + 28 ≤ 24032) (hV : S.1 28 16 = nI V) (hV2 : V < 100) : ∀ (m i : Nat) (f : Nat → Int32), i + m = 8 → G MX5_take (1, 25) 163 [some (.ref 28), some (.int (nI at_)), some (.int (nI sz)), some (.int 3), some (.int q), some (.int (nI (at_ + 4))), some (.int (nI i)), none] [] (wRf Γ τ (mA S 36 f)) 0 0 (g0 (wRf Γ τ) fun S' => S'.1 28 0 = S.1 28 0 ∧ S'.1 28 16 = nI (V + 1)) := by
  intro m
  induction m with
  | zero =>
    intro i f hi
    obtain rfl : i = 8 := by omega
    refine g_iload dX5_take_163 rfl ?_
    refine g_bipush (v := 8) dX5_take_165 (by decide) ?_
    refine g_icmp_ge (tgt := 204) dX5_take_167 (by decide) (fun c167 => ?_) (fun c167 => ?_)
    · refine g_aload_n dX5_take_204 rfl rfl ?_
      refine g_get dX5_take_205 flX5_31 rfl rfl ?_
      refine g_aload_n dX5_take_208 rfl rfl ?_
      refine g_get dX5_take_209 flX5_110 rfl rfl ?_
      refine g_iconst (v := 1) dX5_take_212 (by decide) ?_
      refine p_zast dX5_take_213 rfl (by show vp_in (S.1 28 16) 100; rw [hV]; exact vp_in_nI hV2 (by decide)) (by with_reducible first | exact wA_29 _ _ _ _ | exact wA_30 _ _ _ _ | exact wA_31 _ _ _ _ | exact wA_32 _ _ _ _ | exact wA_33 _ _ _ _ | exact wA_34 _ _ _ _ | exact wA_35 _ _ _ _ | exact wA_36 _ _ _ _ | exact wA_37 _ _ _ _ | exact wA_38 _ _ _ _ | exact wA_39 _ _ _ _ | exact wA_40 _ _ _ _ | exact wA_41 _ _ _ _ | exact wA_42 _ _ _ _ | exact wA_43 _ _ _ _ | exact wA_44 _ _ _ _ | exact wA_45 _ _ _ _ | exact wA_46 _ _ _ _ | exact wA_47 _ _ _ _) ?_
      refine g_aload_n dX5_take_214 rfl rfl ?_
      refine g_dup dX5_take_215 rfl ?_
      refine g_get dX5_take_216 flX5_110 rfl rfl ?_
      refine g_iconst (v := 1) dX5_take_219 (by decide) ?_
      refine g_iadd dX5_take_220 ?_
      refine p_put dX5_take_221 fpX5_110 rfl (Nat.le_of_ble_eq_true rfl) (fun _ => rfl) (fun _ => rfl) (by with_reducible first | exact wS_28_16 _ _ _ _) ?_
      refine g_goto (tgt := 288) dX5_take_224 (by decide) ?_
      refine g_aload_n dX5_take_288 rfl rfl ?_
      refine g_aload_n dX5_take_289 rfl rfl ?_
      refine g_get dX5_take_290 flX5_98 rfl rfl ?_
      refine g_bipush (v := 12) dX5_take_293 (by decide) ?_
      refine g_iadd dX5_take_295 ?_
      refine g_iload_n dX5_take_296 rfl rfl ?_
      refine g_iadd dX5_take_297 ?_
      refine p_put dX5_take_298 fpX5_98 rfl (Nat.le_of_ble_eq_true rfl) (fun _ => rfl) (fun _ => rfl) (by with_reducible first | exact wS_28_9 _ _ _ _) ?_
      refine g_aload_n dX5_take_301 rfl rfl ?_
      refine g_dup dX5_take_302 rfl ?_
      refine g_get dX5_take_303 flX5_101 rfl rfl ?_
      refine g_iconst (v := 1) dX5_take_306 (by decide) ?_
      refine g_iadd dX5_take_307 ?_
      refine p_put dX5_take_308 fpX5_101 rfl (Nat.le_of_ble_eq_true rfl) (fun _ => rfl) (fun _ => rfl) (by with_reducible first | exact wS_28_10 _ _ _ _) ?_
      refine g_vret dX5_take_311 rfl ⟨_, rfl, rfl, ?_⟩
      refine ⟨?_, ?_⟩
      · rw [mS_ne (by decide), mS_ne (by decide), mS_ne (by decide)]; rfl
      · rw [mS_ne (by decide), mS_ne (by decide), mS_same]
        show S.1 28 16 + 1 = _
        rw [hV, nI_1]
    · exact absurd (show (8 : Int32) ≤ nI 8 by decide) c167
  | succ m ih =>
    intro i f hi
    refine g_iload dX5_take_163 rfl ?_
    refine g_bipush (v := 8) dX5_take_165 (by decide) ?_
    refine g_icmp_ge (tgt := 204) dX5_take_167 (by decide) (fun c167 => ?_) (fun c167 => ?_)
    · exact absurd c167 (nI_ge (b := 8) (by omega) (by decide))
    · refine g_aload_n dX5_take_170 rfl rfl ?_
      refine g_get dX5_take_171 flX5_35 rfl rfl ?_
      refine g_bipush (v := 8) dX5_take_174 (by decide) ?_
      refine g_aload_n dX5_take_176 rfl rfl ?_
      refine g_get dX5_take_177 flX5_110 rfl rfl ?_
      refine g_imul dX5_take_180 ?_
      refine g_iload dX5_take_181 rfl ?_
      refine g_iadd dX5_take_183 ?_
      refine g_aload_n dX5_take_184 rfl rfl ?_
      refine g_iload dX5_take_185 rfl ?_
      refine g_iconst (v := 2) dX5_take_187 (by decide) ?_
      refine g_iload dX5_take_188 rfl ?_
      refine g_imul dX5_take_190 ?_
      refine g_iadd dX5_take_191 ?_
      refine g_eqi (y := nI (at_ + 4 + 2 * i)) (by rw [show (2 : Int32) = nI 2 from rfl, pk_mul, nI_add]) ?_
      refine g_iconst (v := 2) dX5_take_192 (by decide) ?_
      refine cV2N (fun _ _ => rfl) dX5_take_193 mlX5_137 imX5_number seX5_number rfl rfl (m_number _ (at_ + 4 + 2 * i) 2 (by omega)) (by decide) (Nat.le_of_ble_eq_true rfl) (Nat.le_of_ble_eq_true rfl) (Nat.le_of_ble_eq_true rfl) ?_
      rintro _ _ ⟨rfl, rfl⟩
      refine g_l2i dX5_take_196 ?_
      refine p_iast dX5_take_197 rfl (by show vp_in (8 * S.1 28 16 + nI i) 800; rw [hV]; exact ix_8 (by omega) (by decide)) (by with_reducible first | exact wA_29 _ _ _ _ | exact wA_30 _ _ _ _ | exact wA_31 _ _ _ _ | exact wA_32 _ _ _ _ | exact wA_33 _ _ _ _ | exact wA_34 _ _ _ _ | exact wA_35 _ _ _ _ | exact wA_36 _ _ _ _ | exact wA_37 _ _ _ _ | exact wA_38 _ _ _ _ | exact wA_39 _ _ _ _ | exact wA_40 _ _ _ _ | exact wA_41 _ _ _ _ | exact wA_42 _ _ _ _ | exact wA_43 _ _ _ _ | exact wA_44 _ _ _ _ | exact wA_45 _ _ _ _ | exact wA_46 _ _ _ _ | exact wA_47 _ _ _ _) ?_
      refine g_iinc dX5_take_198 rfl (by decide) (by first | exact gi_1 _ | exact gi_p _) ?_
      refine g_goto (tgt := 163) dX5_take_201 (by decide) ?_
      rw [mA_mA]
      exact ih (i + 1) _ (by omega)
set_option maxRecDepth 100000 in
set_option maxHeartbeats 4000000 in
theorem m_take3 (S : gS) (at_ sz : Nat) (ha : at_ + 12 + sz ≤ 24032) (V : Nat) (hz : sz = 16) (hV : S.1 28 16 = nI V) (hV2 : V < 100) (hk : S.2.1 29 at_ = 3) : gCt MX5_take (1, 25) 0 0 [.ref 28, .int (nI at_), .int (nI sz)] (wRf Γ τ S) (g0 (wRf Γ τ) fun S' => S'.1 28 0 = S.1 28 0 ∧ S'.1 28 16 = nI (V + 1)) := by
  refine gCt.of (ls := [some (.ref 28), some (.int (nI at_)), some (.int (nI sz)), none, none, none, none, none]) 5 (by decide) rfl (Nat.le_of_ble_eq_true rfl) ?_
  refine g_aload_n dX5_take_0 rfl rfl ?_
  refine g_get dX5_take_1 flX5_7 rfl rfl ?_
  refine g_iload_n dX5_take_4 rfl rfl ?_
  refine g_iald dX5_take_5 rfl (vp_in_nI (by omega) (by decide)) ?_
  refine g_eqi (y := 3) (by rw [nI_clamp (by omega)]; exact hk) ?_
  refine g_istore_n dX5_take_6 rfl (by decide) ?_
  refine g_aload_n dX5_take_7 rfl rfl ?_
  refine g_iload_n dX5_take_8 rfl rfl ?_
  refine g_iconst (v := 1) dX5_take_9 (by decide) ?_
  refine g_iadd dX5_take_10 ?_
  refine g_eqi (y := nI (at_ + 1)) (nI_1 _) ?_
  refine g_iconst (v := 2) dX5_take_11 (by decide) ?_
  refine cV2N (fun _ _ => rfl) dX5_take_12 mlX5_137 imX5_number seX5_number rfl rfl (m_number _ (at_ + 1) 2 (by omega)) (by decide) (Nat.le_of_ble_eq_true rfl) (Nat.le_of_ble_eq_true rfl) (Nat.le_of_ble_eq_true rfl) ?_
  rintro _ _ ⟨rfl, rfl⟩
  refine g_l2i dX5_take_15 ?_
  refine g_istore dX5_take_16 (by decide) ?_
  refine g_iload_n dX5_take_18 rfl rfl ?_
  refine g_iconst (v := 4) dX5_take_19 (by decide) ?_
  refine g_iadd dX5_take_20 ?_
  refine g_eqi (y := nI (at_ + 4)) (nI_add _ 4) ?_
  refine g_istore dX5_take_21 (by decide) ?_
  refine g_iload_n dX5_take_23 rfl rfl ?_
  refine g_iconst (v := 1) dX5_take_24 (by decide) ?_
  refine g_icmp_ne (tgt := 97) dX5_take_25 (by decide) (fun c25 => ?_) (fun c25 => ?_)
  · refine g_iload_n dX5_take_97 rfl rfl ?_
    refine g_iconst (v := 2) dX5_take_98 (by decide) ?_
    refine g_icmp_ne (tgt := 155) dX5_take_99 (by decide) (fun c99 => ?_) (fun c99 => ?_)
    · refine g_iload_n dX5_take_155 rfl rfl ?_
      refine g_iconst (v := 3) dX5_take_156 (by decide) ?_
      refine g_icmp_ne (tgt := 227) dX5_take_157 (by decide) (fun c157 => ?_) (fun c157 => ?_)
      · exact absurd rfl c157
      · refine g_iconst (v := 0) dX5_take_160 (by decide) ?_
        refine g_istore dX5_take_161 (by decide) ?_
        rw [← mA_self S 36]
        exact lm_take3 S at_ sz V _ (by omega) hV hV2 8 0 _ rfl
    · exact absurd c99 (by decide)
  · exact absurd c25 (by decide)
set_option maxRecDepth 100000 in
set_option maxHeartbeats 4000000 in
theorem m_end (S : gS) (L w sz : Nat) (Φ : gS → Prop) (hL : S.1 28 9 = nI L) (h : 32 + L + 12 + sz ≤ 24032) (hs : S.1 28 7 = nI w) (hw : w + 8 ≤ 131072) (hct : ∀ S1 : gS, Mw S S1 w (w + 8) (mput (S.2.1 29) (32 + L + 4 + sz) (msum (S.2.1 29) (32 + L) (nI (32 + L)).toInt64 (4 + sz)) 8 8) → gCt MX5_take (1, 25) 0 0 [.ref 28, .int (nI (32 + L)), .int (nI sz)] (wRf Γ τ S1) (g0 (wRf Γ τ) fun S' => Φ S')) : gCt MX5_end (2, 65) 0 0 [.ref 28, .int (nI sz)] (wRf Γ τ S) (g0 (wRf Γ τ) fun S' => Φ S') := by
  refine gCt.of (ls := [some (.ref 28), some (.int (nI sz)), none]) 1 (by decide) rfl (Nat.le_of_ble_eq_true rfl) ?_
  refine g_bipush (v := 32) dX5_end_0 (by decide) ?_
  refine g_aload_n dX5_end_2 rfl rfl ?_
  refine g_get dX5_end_3 flX5_98 rfl rfl ?_
  refine g_iadd dX5_end_6 ?_
  refine g_eqi (y := nI (32 + L)) (by rw [hL]; exact nI_add 32 L) ?_
  refine g_istore_n dX5_end_7 rfl (by decide) ?_
  refine g_aload_n dX5_end_8 rfl rfl ?_
  refine g_iload_n dX5_end_9 rfl rfl ?_
  refine g_iconst (v := 4) dX5_end_10 (by decide) ?_
  refine g_iadd dX5_end_11 ?_
  refine g_eqi (y := nI (32 + L + 4)) (nI_add _ 4) ?_
  refine g_iload_n dX5_end_12 rfl rfl ?_
  refine g_iadd dX5_end_13 ?_
  refine g_eqi (y := nI (32 + L + 4 + sz)) (nI_add _ _) ?_
  refine g_aload_n dX5_end_14 rfl rfl ?_
  refine g_iload_n dX5_end_15 rfl rfl ?_
  refine g_i2l dX5_end_16 ?_
  refine g_iload_n dX5_end_17 rfl rfl ?_
  refine g_iconst (v := 4) dX5_end_18 (by decide) ?_
  refine g_iload_n dX5_end_19 rfl rfl ?_
  refine g_iadd dX5_end_20 ?_
  refine g_eqi (y := nI (4 + sz)) (nI_add 4 sz) ?_
  refine cV3N (fun _ _ => rfl) dX5_end_21 mlX5_126 imX5_sum seX5_sum rfl rfl (m_sum _ _ (32 + L) (4 + sz) (by omega)) (by decide) (Nat.le_of_ble_eq_true rfl) (Nat.le_of_ble_eq_true rfl) (Nat.le_of_ble_eq_true rfl) ?_
  rintro _ _ ⟨rfl, rfl⟩
  refine g_bipush (v := 8) dX5_end_24 (by decide) ?_
  refine cV30 (fun _ _ => rfl) dX5_end_26 mlX5_122 imX5_putNumber seX5_putNumber rfl rfl (m_putNumber _ _ (32 + L + 4 + sz) 8 w (by omega) (by omega) hs) (by decide) (Nat.le_of_ble_eq_true rfl) (Nat.le_of_ble_eq_true rfl) (Nat.le_of_ble_eq_true rfl) ?_
  rintro S1 hS1
  refine g_aload_n dX5_end_29 rfl rfl ?_
  refine g_iload_n dX5_end_30 rfl rfl ?_
  refine g_iload_n dX5_end_31 rfl rfl ?_
  refine cV20 (fun _ _ => rfl) dX5_end_32 mlX5_130 imX5_take seX5_take rfl rfl (hct _ hS1) (by decide) (Nat.le_of_ble_eq_true rfl) (Nat.le_of_ble_eq_true rfl) (Nat.le_of_ble_eq_true rfl) ?_
  rintro S2 hS2
  refine g_vret dX5_end_35 rfl ⟨_, rfl, rfl, ?_⟩
  exact hS2
def mhd (f : Nat → Int32) (pl : Nat) (t lg : Int32) : Nat → Int32 :=
  mput (mput (mput f pl t.toInt64 4 4) (pl + 4) lg.toInt64 4 4) (pl + 8) (msum (mput (mput f pl t.toInt64 4 4) (pl + 4) lg.toInt64 4 4) pl 1 8) 8 8
set_option maxRecDepth 100000 in
set_option maxHeartbeats 4000000 in
theorem lm_putHead0 (S : gS) (w : Nat) (t : Int32) (hs : S.1 28 7 = nI w) (hw : w + 16 ≤ 131072) : G MX5_putHead (2, 65) 12 [some (.ref 28), some (.int t), none] [.int 0] (wRf Γ τ S) 0 0 (g0 (wRf Γ τ) fun S' => Mw S S' w (w + 16) (mhd (S.2.1 29) 0 t (S.1 28 9))) := by
  refine g_istore_n dX5_putHead_12 rfl (by decide) ?_
  refine g_aload_n dX5_putHead_13 rfl rfl ?_
  refine g_iload_n dX5_putHead_14 rfl rfl ?_
  refine g_iload_n dX5_putHead_15 rfl rfl ?_
  refine g_i2l dX5_putHead_16 ?_
  refine g_iconst (v := 4) dX5_putHead_17 (by decide) ?_
  refine cV30 (fun _ _ => rfl) dX5_putHead_18 mlX5_122 imX5_putNumber seX5_putNumber rfl rfl (m_putNumber _ _ 0 4 w (by decide) (by omega) hs) (by decide) (Nat.le_of_ble_eq_true rfl) (Nat.le_of_ble_eq_true rfl) (Nat.le_of_ble_eq_true rfl) ?_
  rintro S1 hS1
  refine g_aload_n dX5_putHead_21 rfl rfl ?_
  refine g_iload_n dX5_putHead_22 rfl rfl ?_
  refine g_iconst (v := 4) dX5_putHead_23 (by decide) ?_
  refine g_iadd dX5_putHead_24 ?_
  refine g_aload_n dX5_putHead_25 rfl rfl ?_
  refine g_get dX5_putHead_26 flX5_98 rfl rfl ?_
  refine g_i2l dX5_putHead_29 ?_
  refine g_iconst (v := 4) dX5_putHead_30 (by decide) ?_
  refine cV30 (fun _ _ => rfl) dX5_putHead_31 mlX5_122 imX5_putNumber seX5_putNumber rfl rfl (m_putNumber _ _ 4 4 (w + 4) (by decide) (by omega) hS1.1) (by decide) (Nat.le_of_ble_eq_true rfl) (Nat.le_of_ble_eq_true rfl) (Nat.le_of_ble_eq_true rfl) ?_
  rintro S2 hS2
  refine g_aload_n dX5_putHead_34 rfl rfl ?_
  refine g_iload_n dX5_putHead_35 rfl rfl ?_
  refine g_bipush (v := 8) dX5_putHead_36 (by decide) ?_
  refine g_iadd dX5_putHead_38 ?_
  refine g_aload_n dX5_putHead_39 rfl rfl ?_
  refine g_lconst (v := 1) dX5_putHead_40 (by decide) ?_
  refine g_iload_n dX5_putHead_41 rfl rfl ?_
  refine g_bipush (v := 8) dX5_putHead_42 (by decide) ?_
  refine cV3N (fun _ _ => rfl) dX5_putHead_44 mlX5_126 imX5_sum seX5_sum rfl rfl (m_sum _ _ 0 8 (by decide)) (by decide) (Nat.le_of_ble_eq_true rfl) (Nat.le_of_ble_eq_true rfl) (Nat.le_of_ble_eq_true rfl) ?_
  rintro _ _ ⟨rfl, rfl⟩
  refine g_bipush (v := 8) dX5_putHead_47 (by decide) ?_
  refine cV30 (fun _ _ => rfl) dX5_putHead_49 mlX5_122 imX5_putNumber seX5_putNumber rfl rfl (m_putNumber _ _ 8 8 (w + 8) (by decide) (by omega) hS2.1) (by decide) (Nat.le_of_ble_eq_true rfl) (Nat.le_of_ble_eq_true rfl) (Nat.le_of_ble_eq_true rfl) ?_
  rintro S3 hS3
  refine g_vret dX5_putHead_52 rfl ⟨_, rfl, rfl, ?_⟩
  have h9 := (hS1.tr hS2).tr hS3
  have e9 : S1.1 28 9 = S.1 28 9 := hS1.2.2.1 9 (by decide)
  rw [hS2.2.1, hS1.2.1, e9] at h9
  exact h9
set_option maxRecDepth 100000 in
set_option maxHeartbeats 4000000 in
theorem lm_putHead16 (S : gS) (w : Nat) (t : Int32) (hs : S.1 28 7 = nI w) (hw : w + 16 ≤ 131072) : G MX5_putHead (2, 65) 12 [some (.ref 28), some (.int t), none] [.int 16] (wRf Γ τ S) 0 0 (g0 (wRf Γ τ) fun S' => Mw S S' w (w + 16) (mhd (S.2.1 29) 16 t (S.1 28 9))) := by
  refine g_istore_n dX5_putHead_12 rfl (by decide) ?_
  refine g_aload_n dX5_putHead_13 rfl rfl ?_
  refine g_iload_n dX5_putHead_14 rfl rfl ?_
  refine g_iload_n dX5_putHead_15 rfl rfl ?_
  refine g_i2l dX5_putHead_16 ?_
  refine g_iconst (v := 4) dX5_putHead_17 (by decide) ?_
  refine cV30 (fun _ _ => rfl) dX5_putHead_18 mlX5_122 imX5_putNumber seX5_putNumber rfl rfl (m_putNumber _ _ 16 4 w (by decide) (by omega) hs) (by decide) (Nat.le_of_ble_eq_true rfl) (Nat.le_of_ble_eq_true rfl) (Nat.le_of_ble_eq_true rfl) ?_
  rintro S1 hS1
  refine g_aload_n dX5_putHead_21 rfl rfl ?_
  refine g_iload_n dX5_putHead_22 rfl rfl ?_
  refine g_iconst (v := 4) dX5_putHead_23 (by decide) ?_
  refine g_iadd dX5_putHead_24 ?_
  refine g_aload_n dX5_putHead_25 rfl rfl ?_
  refine g_get dX5_putHead_26 flX5_98 rfl rfl ?_
  refine g_i2l dX5_putHead_29 ?_
  refine g_iconst (v := 4) dX5_putHead_30 (by decide) ?_
  refine cV30 (fun _ _ => rfl) dX5_putHead_31 mlX5_122 imX5_putNumber seX5_putNumber rfl rfl (m_putNumber _ _ 20 4 (w + 4) (by decide) (by omega) hS1.1) (by decide) (Nat.le_of_ble_eq_true rfl) (Nat.le_of_ble_eq_true rfl) (Nat.le_of_ble_eq_true rfl) ?_
  rintro S2 hS2
  refine g_aload_n dX5_putHead_34 rfl rfl ?_
  refine g_iload_n dX5_putHead_35 rfl rfl ?_
  refine g_bipush (v := 8) dX5_putHead_36 (by decide) ?_
  refine g_iadd dX5_putHead_38 ?_
  refine g_aload_n dX5_putHead_39 rfl rfl ?_
  refine g_lconst (v := 1) dX5_putHead_40 (by decide) ?_
  refine g_iload_n dX5_putHead_41 rfl rfl ?_
  refine g_bipush (v := 8) dX5_putHead_42 (by decide) ?_
  refine cV3N (fun _ _ => rfl) dX5_putHead_44 mlX5_126 imX5_sum seX5_sum rfl rfl (m_sum _ _ 16 8 (by decide)) (by decide) (Nat.le_of_ble_eq_true rfl) (Nat.le_of_ble_eq_true rfl) (Nat.le_of_ble_eq_true rfl) ?_
  rintro _ _ ⟨rfl, rfl⟩
  refine g_bipush (v := 8) dX5_putHead_47 (by decide) ?_
  refine cV30 (fun _ _ => rfl) dX5_putHead_49 mlX5_122 imX5_putNumber seX5_putNumber rfl rfl (m_putNumber _ _ 24 8 (w + 8) (by decide) (by omega) hS2.1) (by decide) (Nat.le_of_ble_eq_true rfl) (Nat.le_of_ble_eq_true rfl) (Nat.le_of_ble_eq_true rfl) ?_
  rintro S3 hS3
  refine g_vret dX5_putHead_52 rfl ⟨_, rfl, rfl, ?_⟩
  have h9 := (hS1.tr hS2).tr hS3
  have e9 : S1.1 28 9 = S.1 28 9 := hS1.2.2.1 9 (by decide)
  rw [hS2.2.1, hS1.2.1, e9] at h9
  exact h9
set_option maxRecDepth 100000 in
set_option maxHeartbeats 4000000 in
theorem m_putHead (S : gS) (w : Nat) (t : Int32) (hs : S.1 28 7 = nI w) (hw : w + 16 ≤ 131072) : gCt MX5_putHead (2, 65) 0 0 [.ref 28, .int t] (wRf Γ τ S) (g0 (wRf Γ τ) fun S' => ∃ pl : Nat, (pl = 0 ∨ pl = 16) ∧ (t = 0 → pl = 0) ∧ Mw S S' w (w + 16) (mhd (S.2.1 29) pl t (S.1 28 9))) := by
  refine gCt.of (ls := [some (.ref 28), some (.int t), none]) 1 (by decide) rfl (Nat.le_of_ble_eq_true rfl) ?_
  refine g_iload_n dX5_putHead_0 rfl rfl ?_
  refine g_iconst (v := 2) dX5_putHead_1 (by decide) ?_
  refine g_irem dX5_putHead_2 (by decide) ?_
  refine g_if_ne (tgt := 10) dX5_putHead_3 (by decide) (fun c3 => ?_) (fun c3 => ?_)
  · refine g_bipush (v := 16) dX5_putHead_10 (by decide) ?_
    first | exact GE.mono (fun r9 w9 h9 => by obtain ⟨S9, e1, e2, e3⟩ := h9; exact ⟨S9, e1, e2, 0, Or.inl rfl, fun _ => rfl, e3⟩) (lm_putHead0 S w t hs hw) | exact GE.mono (fun r9 w9 h9 => by obtain ⟨S9, e1, e2, e3⟩ := h9; exact ⟨S9, e1, e2, 16, Or.inr rfl, fun z => absurd (by rw [z]; rfl) c3, e3⟩) (lm_putHead16 S w t hs hw)
  · refine g_iconst (v := 0) dX5_putHead_6 (by decide) ?_
    refine g_goto (tgt := 12) dX5_putHead_7 (by decide) ?_
    first | exact GE.mono (fun r9 w9 h9 => by obtain ⟨S9, e1, e2, e3⟩ := h9; exact ⟨S9, e1, e2, 0, Or.inl rfl, fun _ => rfl, e3⟩) (lm_putHead0 S w t hs hw) | exact GE.mono (fun r9 w9 h9 => by obtain ⟨S9, e1, e2, e3⟩ := h9; exact ⟨S9, e1, e2, 16, Or.inr rfl, fun z => absurd (by rw [z]; rfl) c3, e3⟩) (lm_putHead16 S w t hs hw)
end
