section
variable {Γ : gS} {τ : gW}
theorem num2 {f : Nat → Int32} {a i j : Nat} (hi : i < 256) (hj : j < 256) (h1 : f a = nI i) (h2 : f (a + 1) = nI j) : (mnum f a 2).toInt32 = nI (256 * i + j) := by
  show ((((0 : Int64) <<< ((8 : Int32).toInt64 &&& 63)) ||| (f (a + 0)).toInt64) <<< ((8 : Int32).toInt64 &&& 63) ||| (f (a + 1)).toInt64).toInt32 = _
  rw [Nat.add_zero, h1, h2]
  exact num_ij ⟨i, hi⟩ ⟨j, hj⟩
theorem num16 {f : Nat → Int32} (h : DB f) {a : Nat} (ha : a + 2 ≤ 24032) : ∃ q : Nat, q < 65536 ∧ (mnum f a 2).toInt32 = nI q := by
  obtain ⟨i, hi, e1⟩ := h a (by omega)
  obtain ⟨j, hj, e2⟩ := h (a + 1) (by omega)
  exact ⟨256 * i + j, by omega, num2 hi hj e1 e2⟩
set_option maxRecDepth 100000 in
set_option maxHeartbeats 400000 in
theorem n_take2 (S : gS) (w L V n c rm : Nat) (h : R0 S w L V n c rm) (hf : L + 15 ≤ 24000) (b : Nat) (hk : S.2.1 29 (32 + L) = 2) (hb : S.2.1 29 (32 + L + 4) = nI b) (hb2 : b < 64) : gCt MX5_take (1, 25) 0 0 [.ref 28, .int (nI (32 + L)), .int (nI 3)] (wRf Γ τ S) (g0 (wRf Γ τ) fun S' => R0 S' w (L + 15) V n c rm ∧ S'.1 28 3 = S.1 28 3 ∧ S'.1 28 10 = S.1 28 10 + 1 ∧ ∀ k, 39 ≤ k → S'.2.1 k = S.2.1 k) := by
  refine gCt.of (ls := [some (.ref 28), some (.int (nI (32 + L))), some (.int (nI 3)), none, none, none, none, none]) 5 (by decide) rfl (Nat.le_of_ble_eq_true rfl) ?_
  have e9 : S.1 28 9 + 12 + nI 3 = nI (L + 15) := by rw [h.1.2.1, show (12 : Int32) = nI 12 from rfl, nI_add, nI_add]
  refine g_aload_n dX5_take_0 rfl rfl ?_
  refine g_get dX5_take_1 flX5_7 rfl rfl ?_
  refine g_iload_n dX5_take_4 rfl rfl ?_
  refine g_iald dX5_take_5 rfl (vp_in_nI (by omega) (by decide)) ?_
  refine g_eqi (y := 2) (by rw [nI_clamp (by omega)]; exact hk) ?_
  refine g_istore_n dX5_take_6 rfl (by decide) ?_
  refine g_aload_n dX5_take_7 rfl rfl ?_
  refine g_iload_n dX5_take_8 rfl rfl ?_
  refine g_iconst (v := 1) dX5_take_9 (by decide) ?_
  refine g_iadd dX5_take_10 ?_
  refine g_eqi (y := nI (32 + L + 1)) (nI_1 _) ?_
  refine g_iconst (v := 2) dX5_take_11 (by decide) ?_
  refine cV2N (fun _ _ => rfl) dX5_take_12 mlX5_137 imX5_number seX5_number rfl rfl (m_number _ (32 + L + 1) 2 (by omega)) (by decide) (Nat.le_of_ble_eq_true rfl) (Nat.le_of_ble_eq_true rfl) (Nat.le_of_ble_eq_true rfl) ?_
  rintro _ _ ⟨rfl, rfl⟩
  refine g_l2i dX5_take_15 ?_
  refine g_istore dX5_take_16 (by decide) ?_
  refine g_iload_n dX5_take_18 rfl rfl ?_
  refine g_iconst (v := 4) dX5_take_19 (by decide) ?_
  refine g_iadd dX5_take_20 ?_
  refine g_eqi (y := nI (32 + L + 4)) (nI_add _ 4) ?_
  refine g_istore dX5_take_21 (by decide) ?_
  refine g_iload_n dX5_take_23 rfl rfl ?_
  refine g_iconst (v := 1) dX5_take_24 (by decide) ?_
  refine g_icmp_ne (tgt := 97) dX5_take_25 (by decide) (fun c25 => ?_) (fun c25 => ?_)
  · refine g_iload_n dX5_take_97 rfl rfl ?_
    refine g_iconst (v := 2) dX5_take_98 (by decide) ?_
    refine g_icmp_ne (tgt := 155) dX5_take_99 (by decide) (fun c99 => ?_) (fun c99 => ?_)
    · exact absurd rfl c99
    · refine g_lconst (v := 1) dX5_take_102 (by decide) ?_
      refine g_aload_n dX5_take_103 rfl rfl ?_
      refine g_get dX5_take_104 flX5_7 rfl rfl ?_
      refine g_iload dX5_take_107 rfl ?_
      refine g_iconst (v := 1) dX5_take_109 (by decide) ?_
      refine g_iadd dX5_take_110 ?_
      refine g_eqi (y := nI (32 + L + 4 + 1)) (nI_1 _) ?_
      refine g_iald dX5_take_111 rfl (vp_in_nI (by omega) (by decide)) ?_
      refine g_lshl dX5_take_112 ?_
      refine g_lstore dX5_take_113 (by decide) ?_
      refine g_aload_n dX5_take_115 rfl rfl ?_
      refine g_get dX5_take_116 flX5_20 rfl rfl ?_
      refine g_aload_n dX5_take_119 rfl rfl ?_
      refine g_get dX5_take_120 flX5_7 rfl rfl ?_
      refine g_iload dX5_take_123 rfl ?_
      refine g_iald dX5_take_125 rfl (vp_in_nI (by omega) (by decide)) ?_
      refine g_aload_n dX5_take_126 rfl rfl ?_
      refine g_get dX5_take_127 flX5_20 rfl rfl ?_
      refine g_aload_n dX5_take_130 rfl rfl ?_
      refine g_get dX5_take_131 flX5_7 rfl rfl ?_
      refine g_iload dX5_take_134 rfl ?_
      refine g_iald dX5_take_136 rfl (vp_in_nI (by omega) (by decide)) ?_
      refine g_lald dX5_take_137 rfl (by rw [nI_clamp (by omega), hb]; exact vp_in_nI hb2 (by decide)) ?_
      refine g_lload dX5_take_138 rfl ?_
      refine g_lxor dX5_take_140 ?_
      refine p_last dX5_take_141 rfl (by rw [nI_clamp (by omega), hb]; exact vp_in_nI hb2 (by decide)) (by with_reducible first | exact wA_29 _ _ _ _ | exact wA_30 _ _ _ _ | exact wA_31 _ _ _ _ | exact wA_32 _ _ _ _ | exact wA_33 _ _ _ _ | exact wA_34 _ _ _ _ | exact wA_35 _ _ _ _ | exact wA_36 _ _ _ _ | exact wA_37 _ _ _ _ | exact wA_38 _ _ _ _ | exact wA_39 _ _ _ _ | exact wA_40 _ _ _ _ | exact wA_41 _ _ _ _ | exact wA_42 _ _ _ _ | exact wA_43 _ _ _ _ | exact wA_44 _ _ _ _ | exact wA_45 _ _ _ _ | exact wA_46 _ _ _ _ | exact wA_47 _ _ _ _) ?_
      refine g_aload_n dX5_take_142 rfl rfl ?_
      refine g_dup dX5_take_143 rfl ?_
      refine g_get dX5_take_144 flX5_104 rfl rfl ?_
      refine g_iconst (v := 1) dX5_take_147 (by decide) ?_
      refine g_iadd dX5_take_148 ?_
      refine p_put dX5_take_149 fpX5_104 rfl (Nat.le_of_ble_eq_true rfl) (fun _ => rfl) (fun _ => rfl) (by with_reducible first | exact wS_28_11 _ _ _ _) ?_
      refine g_goto (tgt := 288) dX5_take_152 (by decide) ?_
      refine g_aload_n dX5_take_288 rfl rfl ?_
      refine g_aload_n dX5_take_289 rfl rfl ?_
      refine g_get dX5_take_290 flX5_98 rfl rfl ?_
      refine g_bipush (v := 12) dX5_take_293 (by decide) ?_
      refine g_iadd dX5_take_295 ?_
      refine g_iload_n dX5_take_296 rfl rfl ?_
      refine g_iadd dX5_take_297 ?_
      refine p_put dX5_take_298 fpX5_98 rfl (Nat.le_of_ble_eq_true rfl) (fun _ => rfl) (fun _ => rfl) (by with_reducible first | exact wS_28_9 _ _ _ _) ?_
      refine g_aload_n dX5_take_301 rfl rfl ?_
      refine g_dup dX5_take_302 rfl ?_
      refine g_get dX5_take_303 flX5_101 rfl rfl ?_
      refine g_iconst (v := 1) dX5_take_306 (by decide) ?_
      refine g_iadd dX5_take_307 ?_
      refine p_put dX5_take_308 fpX5_101 rfl (Nat.le_of_ble_eq_true rfl) (fun _ => rfl) (fun _ => rfl) (by with_reducible first | exact wS_28_10 _ _ _ _) ?_
      refine g_vret dX5_take_311 rfl ⟨_, rfl, rfl, ?_⟩
      exact ⟨⟨⟨h.1.1, (by rw [mS_ne (by decide), mS_same]; exact e9), h.1.2.2.1, h.1.2.2.2.1, h.1.2.2.2.2⟩, ⟨h.2.1.1, by omega, h.2.1.2.2.1, h.2.1.2.2.2.1, by have := h.2.1.2.2.2.2.1; omega, h.2.1.2.2.2.2.2⟩, h.2.2.1, h.2.2.2.1, h.2.2.2.2.1, h.2.2.2.2.2.1, h.2.2.2.2.2.2⟩, rfl, rfl, fun k hk => by first | rfl | exact if_neg (by omega)⟩
  · exact absurd c25 (by decide)
set_option maxRecDepth 100000 in
set_option maxHeartbeats 400000 in
theorem n_take5 (S : gS) (w L V n c rm : Nat) (h : R0 S w L V n c rm) (hf : L + 12 ≤ 24000) (q : Nat) (hk : S.2.1 29 (32 + L) = 5) (hq : (mnum (S.2.1 29) (32 + L + 1) 2).toInt32 = nI q) (hq2 : q < 100) : gCt MX5_take (1, 25) 0 0 [.ref 28, .int (nI (32 + L)), .int (nI 0)] (wRf Γ τ S) (g0 (wRf Γ τ) fun S' => R0 S' w (L + 12) V n c rm ∧ S'.1 28 3 = S.1 28 3 ∧ S'.1 28 10 = S.1 28 10 + 1 ∧ ∀ k, 39 ≤ k → S'.2.1 k = S.2.1 k) := by
  refine gCt.of (ls := [some (.ref 28), some (.int (nI (32 + L))), some (.int (nI 0)), none, none, none, none, none]) 5 (by decide) rfl (Nat.le_of_ble_eq_true rfl) ?_
  have e9 : S.1 28 9 + 12 + nI 0 = nI (L + 12) := by rw [h.1.2.1, show (12 : Int32) = nI 12 from rfl, nI_add, nI_add]
  refine g_aload_n dX5_take_0 rfl rfl ?_
  refine g_get dX5_take_1 flX5_7 rfl rfl ?_
  refine g_iload_n dX5_take_4 rfl rfl ?_
  refine g_iald dX5_take_5 rfl (vp_in_nI (by omega) (by decide)) ?_
  refine g_eqi (y := 5) (by rw [nI_clamp (by omega)]; exact hk) ?_
  refine g_istore_n dX5_take_6 rfl (by decide) ?_
  refine g_aload_n dX5_take_7 rfl rfl ?_
  refine g_iload_n dX5_take_8 rfl rfl ?_
  refine g_iconst (v := 1) dX5_take_9 (by decide) ?_
  refine g_iadd dX5_take_10 ?_
  refine g_eqi (y := nI (32 + L + 1)) (nI_1 _) ?_
  refine g_iconst (v := 2) dX5_take_11 (by decide) ?_
  refine cV2N (fun _ _ => rfl) dX5_take_12 mlX5_137 imX5_number seX5_number rfl rfl (m_number _ (32 + L + 1) 2 (by omega)) (by decide) (Nat.le_of_ble_eq_true rfl) (Nat.le_of_ble_eq_true rfl) (Nat.le_of_ble_eq_true rfl) ?_
  rintro _ _ ⟨rfl, rfl⟩
  refine g_l2i dX5_take_15 ?_
  refine g_eqi (y := nI (q)) (hq) ?_
  refine g_istore dX5_take_16 (by decide) ?_
  refine g_iload_n dX5_take_18 rfl rfl ?_
  refine g_iconst (v := 4) dX5_take_19 (by decide) ?_
  refine g_iadd dX5_take_20 ?_
  refine g_eqi (y := nI (32 + L + 4)) (nI_add _ 4) ?_
  refine g_istore dX5_take_21 (by decide) ?_
  refine g_iload_n dX5_take_23 rfl rfl ?_
  refine g_iconst (v := 1) dX5_take_24 (by decide) ?_
  refine g_icmp_ne (tgt := 97) dX5_take_25 (by decide) (fun c25 => ?_) (fun c25 => ?_)
  · refine g_iload_n dX5_take_97 rfl rfl ?_
    refine g_iconst (v := 2) dX5_take_98 (by decide) ?_
    refine g_icmp_ne (tgt := 155) dX5_take_99 (by decide) (fun c99 => ?_) (fun c99 => ?_)
    · refine g_iload_n dX5_take_155 rfl rfl ?_
      refine g_iconst (v := 3) dX5_take_156 (by decide) ?_
      refine g_icmp_ne (tgt := 227) dX5_take_157 (by decide) (fun c157 => ?_) (fun c157 => ?_)
      · refine g_iload_n dX5_take_227 rfl rfl ?_
        refine g_iconst (v := 4) dX5_take_228 (by decide) ?_
        refine g_icmp_ne (tgt := 280) dX5_take_229 (by decide) (fun c229 => ?_) (fun c229 => ?_)
        · refine g_aload_n dX5_take_280 rfl rfl ?_
          refine g_get dX5_take_281 flX5_31 rfl rfl ?_
          refine g_iload dX5_take_284 rfl ?_
          refine g_iconst (v := 0) dX5_take_286 (by decide) ?_
          refine p_zast dX5_take_287 rfl (vp_in_nI hq2 (by decide)) (by with_reducible first | exact wA_29 _ _ _ _ | exact wA_30 _ _ _ _ | exact wA_31 _ _ _ _ | exact wA_32 _ _ _ _ | exact wA_33 _ _ _ _ | exact wA_34 _ _ _ _ | exact wA_35 _ _ _ _ | exact wA_36 _ _ _ _ | exact wA_37 _ _ _ _ | exact wA_38 _ _ _ _ | exact wA_39 _ _ _ _ | exact wA_40 _ _ _ _ | exact wA_41 _ _ _ _ | exact wA_42 _ _ _ _ | exact wA_43 _ _ _ _ | exact wA_44 _ _ _ _ | exact wA_45 _ _ _ _ | exact wA_46 _ _ _ _ | exact wA_47 _ _ _ _) ?_
          refine g_aload_n dX5_take_288 rfl rfl ?_
          refine g_aload_n dX5_take_289 rfl rfl ?_
          refine g_get dX5_take_290 flX5_98 rfl rfl ?_
          refine g_bipush (v := 12) dX5_take_293 (by decide) ?_
          refine g_iadd dX5_take_295 ?_
          refine g_iload_n dX5_take_296 rfl rfl ?_
          refine g_iadd dX5_take_297 ?_
          refine p_put dX5_take_298 fpX5_98 rfl (Nat.le_of_ble_eq_true rfl) (fun _ => rfl) (fun _ => rfl) (by with_reducible first | exact wS_28_9 _ _ _ _) ?_
          refine g_aload_n dX5_take_301 rfl rfl ?_
          refine g_dup dX5_take_302 rfl ?_
          refine g_get dX5_take_303 flX5_101 rfl rfl ?_
          refine g_iconst (v := 1) dX5_take_306 (by decide) ?_
          refine g_iadd dX5_take_307 ?_
          refine p_put dX5_take_308 fpX5_101 rfl (Nat.le_of_ble_eq_true rfl) (fun _ => rfl) (fun _ => rfl) (by with_reducible first | exact wS_28_10 _ _ _ _) ?_
          refine g_vret dX5_take_311 rfl ⟨_, rfl, rfl, ?_⟩
          exact ⟨⟨⟨h.1.1, (by rw [mS_ne (by decide), mS_same]; exact e9), h.1.2.2.1, h.1.2.2.2.1, h.1.2.2.2.2⟩, ⟨h.2.1.1, by omega, h.2.1.2.2.1, h.2.1.2.2.2.1, by have := h.2.1.2.2.2.2.1; omega, h.2.1.2.2.2.2.2⟩, h.2.2.1, h.2.2.2.1, h.2.2.2.2.1, h.2.2.2.2.2.1, h.2.2.2.2.2.2⟩, rfl, rfl, fun k hk => by first | rfl | exact if_neg (by omega)⟩
        · exact absurd c229 (by decide)
      · exact absurd c157 (by decide)
    · exact absurd c99 (by decide)
  · exact absurd c25 (by decide)
set_option maxRecDepth 100000 in
set_option maxHeartbeats 400000 in
theorem n_take4 (S : gS) (w L V n c rm : Nat) (h : R0 S w L V n c rm) (hf : L + 22 ≤ 24000) (hn : n < 100) (hk : S.2.1 29 (32 + L) = 4) : gCt MX5_take (1, 25) 0 0 [.ref 28, .int (nI (32 + L)), .int (nI 10)] (wRf Γ τ S) (g0 (wRf Γ τ) fun S' => R0 S' w (L + 22) V (n + 1) c rm ∧ S'.1 28 3 = S.1 28 3 ∧ S'.1 28 10 = S.1 28 10 + 1 ∧ ∀ k, 39 ≤ k → S'.2.1 k = S.2.1 k) := by
  refine gCt.of (ls := [some (.ref 28), some (.int (nI (32 + L))), some (.int (nI 10)), none, none, none, none, none]) 5 (by decide) rfl (Nat.le_of_ble_eq_true rfl) ?_
  have e9 : S.1 28 9 + 12 + nI 10 = nI (L + 22) := by rw [h.1.2.1, show (12 : Int32) = nI 12 from rfl, nI_add, nI_add]
  refine g_aload_n dX5_take_0 rfl rfl ?_
  refine g_get dX5_take_1 flX5_7 rfl rfl ?_
  refine g_iload_n dX5_take_4 rfl rfl ?_
  refine g_iald dX5_take_5 rfl (vp_in_nI (by omega) (by decide)) ?_
  refine g_eqi (y := 4) (by rw [nI_clamp (by omega)]; exact hk) ?_
  refine g_istore_n dX5_take_6 rfl (by decide) ?_
  refine g_aload_n dX5_take_7 rfl rfl ?_
  refine g_iload_n dX5_take_8 rfl rfl ?_
  refine g_iconst (v := 1) dX5_take_9 (by decide) ?_
  refine g_iadd dX5_take_10 ?_
  refine g_eqi (y := nI (32 + L + 1)) (nI_1 _) ?_
  refine g_iconst (v := 2) dX5_take_11 (by decide) ?_
  refine cV2N (fun _ _ => rfl) dX5_take_12 mlX5_137 imX5_number seX5_number rfl rfl (m_number _ (32 + L + 1) 2 (by omega)) (by decide) (Nat.le_of_ble_eq_true rfl) (Nat.le_of_ble_eq_true rfl) (Nat.le_of_ble_eq_true rfl) ?_
  rintro _ _ ⟨rfl, rfl⟩
  refine g_l2i dX5_take_15 ?_
  refine g_istore dX5_take_16 (by decide) ?_
  refine g_iload_n dX5_take_18 rfl rfl ?_
  refine g_iconst (v := 4) dX5_take_19 (by decide) ?_
  refine g_iadd dX5_take_20 ?_
  refine g_eqi (y := nI (32 + L + 4)) (nI_add _ 4) ?_
  refine g_istore dX5_take_21 (by decide) ?_
  refine g_iload_n dX5_take_23 rfl rfl ?_
  refine g_iconst (v := 1) dX5_take_24 (by decide) ?_
  refine g_icmp_ne (tgt := 97) dX5_take_25 (by decide) (fun c25 => ?_) (fun c25 => ?_)
  · refine g_iload_n dX5_take_97 rfl rfl ?_
    refine g_iconst (v := 2) dX5_take_98 (by decide) ?_
    refine g_icmp_ne (tgt := 155) dX5_take_99 (by decide) (fun c99 => ?_) (fun c99 => ?_)
    · refine g_iload_n dX5_take_155 rfl rfl ?_
      refine g_iconst (v := 3) dX5_take_156 (by decide) ?_
      refine g_icmp_ne (tgt := 227) dX5_take_157 (by decide) (fun c157 => ?_) (fun c157 => ?_)
      · refine g_iload_n dX5_take_227 rfl rfl ?_
        refine g_iconst (v := 4) dX5_take_228 (by decide) ?_
        refine g_icmp_ne (tgt := 280) dX5_take_229 (by decide) (fun c229 => ?_) (fun c229 => ?_)
        · exact absurd rfl c229
        · refine g_aload_n dX5_take_232 rfl rfl ?_
          refine g_get dX5_take_233 flX5_38 rfl rfl ?_
          refine g_aload_n dX5_take_236 rfl rfl ?_
          refine g_get dX5_take_237 flX5_113 rfl rfl ?_
          refine g_aload_n dX5_take_240 rfl rfl ?_
          refine g_get dX5_take_241 flX5_7 rfl rfl ?_
          refine g_iload dX5_take_244 rfl ?_
          refine g_iald dX5_take_246 rfl (vp_in_nI (by omega) (by decide)) ?_
          refine p_iast dX5_take_247 rfl (by rw [h.1.2.2.2.1]; exact vp_in_nI hn (by decide)) (by with_reducible first | exact wA_29 _ _ _ _ | exact wA_30 _ _ _ _ | exact wA_31 _ _ _ _ | exact wA_32 _ _ _ _ | exact wA_33 _ _ _ _ | exact wA_34 _ _ _ _ | exact wA_35 _ _ _ _ | exact wA_36 _ _ _ _ | exact wA_37 _ _ _ _ | exact wA_38 _ _ _ _ | exact wA_39 _ _ _ _ | exact wA_40 _ _ _ _ | exact wA_41 _ _ _ _ | exact wA_42 _ _ _ _ | exact wA_43 _ _ _ _ | exact wA_44 _ _ _ _ | exact wA_45 _ _ _ _ | exact wA_46 _ _ _ _ | exact wA_47 _ _ _ _) ?_
          refine g_aload_n dX5_take_248 rfl rfl ?_
          refine g_get dX5_take_249 flX5_41 rfl rfl ?_
          refine g_aload_n dX5_take_252 rfl rfl ?_
          refine g_get dX5_take_253 flX5_113 rfl rfl ?_
          refine g_aload_n dX5_take_256 rfl rfl ?_
          refine g_iload dX5_take_257 rfl ?_
          refine g_iconst (v := 2) dX5_take_259 (by decide) ?_
          refine g_iadd dX5_take_260 ?_
          refine g_eqi (y := nI (32 + L + 4 + 2)) (nI_add _ 2) ?_
          refine g_bipush (v := 8) dX5_take_261 (by decide) ?_
          refine cV2N (fun _ _ => rfl) dX5_take_263 mlX5_137 imX5_number seX5_number rfl rfl (m_number _ (32 + L + 4 + 2) 8 (by omega)) (by decide) (Nat.le_of_ble_eq_true rfl) (Nat.le_of_ble_eq_true rfl) (Nat.le_of_ble_eq_true rfl) ?_
          rintro _ _ ⟨rfl, rfl⟩
          refine p_last dX5_take_266 rfl (by show vp_in (S.1 28 19) 100; rw [h.1.2.2.2.1]; exact vp_in_nI hn (by decide)) (by with_reducible first | exact wA_29 _ _ _ _ | exact wA_30 _ _ _ _ | exact wA_31 _ _ _ _ | exact wA_32 _ _ _ _ | exact wA_33 _ _ _ _ | exact wA_34 _ _ _ _ | exact wA_35 _ _ _ _ | exact wA_36 _ _ _ _ | exact wA_37 _ _ _ _ | exact wA_38 _ _ _ _ | exact wA_39 _ _ _ _ | exact wA_40 _ _ _ _ | exact wA_41 _ _ _ _ | exact wA_42 _ _ _ _ | exact wA_43 _ _ _ _ | exact wA_44 _ _ _ _ | exact wA_45 _ _ _ _ | exact wA_46 _ _ _ _ | exact wA_47 _ _ _ _) ?_
          refine g_aload_n dX5_take_267 rfl rfl ?_
          refine g_dup dX5_take_268 rfl ?_
          refine g_get dX5_take_269 flX5_113 rfl rfl ?_
          refine g_iconst (v := 1) dX5_take_272 (by decide) ?_
          refine g_iadd dX5_take_273 ?_
          refine p_put dX5_take_274 fpX5_113 rfl (Nat.le_of_ble_eq_true rfl) (fun _ => rfl) (fun _ => rfl) (by with_reducible first | exact wS_28_19 _ _ _ _) ?_
          refine g_goto (tgt := 288) dX5_take_277 (by decide) ?_
          refine g_aload_n dX5_take_288 rfl rfl ?_
          refine g_aload_n dX5_take_289 rfl rfl ?_
          refine g_get dX5_take_290 flX5_98 rfl rfl ?_
          refine g_bipush (v := 12) dX5_take_293 (by decide) ?_
          refine g_iadd dX5_take_295 ?_
          refine g_iload_n dX5_take_296 rfl rfl ?_
          refine g_iadd dX5_take_297 ?_
          refine p_put dX5_take_298 fpX5_98 rfl (Nat.le_of_ble_eq_true rfl) (fun _ => rfl) (fun _ => rfl) (by with_reducible first | exact wS_28_9 _ _ _ _) ?_
          refine g_aload_n dX5_take_301 rfl rfl ?_
          refine g_dup dX5_take_302 rfl ?_
          refine g_get dX5_take_303 flX5_101 rfl rfl ?_
          refine g_iconst (v := 1) dX5_take_306 (by decide) ?_
          refine g_iadd dX5_take_307 ?_
          refine p_put dX5_take_308 fpX5_101 rfl (Nat.le_of_ble_eq_true rfl) (fun _ => rfl) (fun _ => rfl) (by with_reducible first | exact wS_28_10 _ _ _ _) ?_
          refine g_vret dX5_take_311 rfl ⟨_, rfl, rfl, ?_⟩
          exact ⟨⟨⟨h.1.1, (by rw [mS_ne (by decide), mS_same]; exact e9), h.1.2.2.1, (by rw [mS_ne (by decide), mS_ne (by decide), mS_same]; show S.1 28 19 + 1 = _; rw [h.1.2.2.2.1, nI_1]), h.1.2.2.2.2⟩, ⟨h.2.1.1, by omega, h.2.1.2.2.1, hn, by have := h.2.1.2.2.2.2.1; omega, h.2.1.2.2.2.2.2⟩, h.2.2.1, h.2.2.2.1, h.2.2.2.2.1, h.2.2.2.2.2.1, h.2.2.2.2.2.2⟩, rfl, rfl, fun k hk => by first | rfl | exact if_neg (by omega)⟩
      · exact absurd c157 (by decide)
    · exact absurd c99 (by decide)
  · exact absurd c25 (by decide)
theorem n_take1 (S : gS) (w L V n c rm : Nat) (h : R0 S w L V n c rm) (hf : L + 76 ≤ 24000) (hc : c < 315) (q : Nat) (hk : S.2.1 29 (32 + L) = 1) (hq : (mnum (S.2.1 29) (32 + L + 1) 2).toInt32 = nI q) (hq2 : q < 65536) : gCt MX5_take (1, 25) 0 0 [.ref 28, .int (nI (32 + L)), .int (nI 64)] (wRf Γ τ S) (g0 (wRf Γ τ) fun S' => R0 S' w (L + 76) V n (c + 1) rm ∧ ¬ S'.2.1 33 q = -1 ∧ (∀ j, ¬ S.2.1 33 j = -1 → ¬ S'.2.1 33 j = -1) ∧ (∀ k, k ≠ 33 → S'.2.1 k = S.2.1 k) ∧ S'.1 28 3 = S.1 28 3 ∧ S'.1 28 10 = S.1 28 10 + 1) := by
  refine (m_take1 S (32 + L) 64 (by omega) L c q rfl h.1.2.1 h.1.2.2.2.2.1 (by omega) hk hq hq2).mono ?_
  rintro r9 w9 ⟨S', e1, e2, k1, k2, k3, k4, k5, k6, k7⟩
  have hne : ¬ nI c = -1 := fun z => absurd (nI_pos' (n := c) (by omega)) (by rw [z]; decide)
  have m33 : ∀ j, ¬ S.2.1 33 j = -1 → ¬ S'.2.1 33 j = -1 := by
    intro j hj
    rw [k6]
    by_cases e : j = q
    · rw [e, pk_us]; exact hne
    · rw [pk_un e]; exact hj
  refine ⟨S', e1, e2, ⟨⟨(k1 7 (by decide) (by decide) (by decide)).trans h.1.1, k2, (k1 16 (by decide) (by decide) (by decide)).trans h.1.2.2.1, (k1 19 (by decide) (by decide) (by decide)).trans h.1.2.2.2.1, k3, (k1 1 (by decide) (by decide) (by decide)).trans h.1.2.2.2.2.2⟩, ⟨h.2.1.1, by omega, h.2.1.2.2.1, h.2.1.2.2.2.1, by have := h.2.1.2.2.2.2.1; omega, h.2.1.2.2.2.2.2⟩, ?_, ?_, ?_, ?_, ?_⟩, ?_, m33, k4, k1 3 (by decide) (by decide) (by decide), k7⟩
  · rw [k1 3 (by decide) (by decide) (by decide)]; exact h.2.2.1
  · rw [k4 29 (by decide)]; exact h.2.2.2.1
  · intro i hi
    rw [k4 30 (by decide), k4 31 (by decide)]; exact h.2.2.2.2.1 i hi
  · intro j hj
    rw [k6]
    by_cases e : j = q
    · rw [e, pk_us]; exact Or.inr ⟨c, by omega, rfl⟩
    · rw [pk_un e]
      rcases h.2.2.2.2.2.1 j hj with z | ⟨q', z1, z2⟩
      · exact Or.inl z
      · exact Or.inr ⟨q', by omega, z2⟩
  · intro i hi
    obtain ⟨q', z1, z2, z3⟩ := h.2.2.2.2.2.2 i hi
    exact ⟨q', z1, by rw [k4 36 (by decide)]; exact z2, m33 q' z3⟩
  · rw [k6, pk_us]; exact hne
set_option maxRecDepth 100000 in
set_option maxHeartbeats 400000 in
theorem ln_take3 (S : gS) (w L V n c rm : Nat) (h : R0 S w L V n c rm) (hf : L + 28 ≤ 24000) (hV : V < 100) (q : Int32) (hq : ∀ g, g < 8 → ∃ q : Nat, q < 65536 ∧ (mnum (S.2.1 29) (32 + L + 4 + 2 * g) 2).toInt32 = nI q ∧ ¬ S.2.1 33 q = -1) : ∀ (m i : Nat) (F : Nat → Int32), i + m = 8 → ((∀ j, j < 8 * V → F j = S.2.1 36 j) ∧ ∀ g, g < i → F (8 * V + g) = (mnum (S.2.1 29) (32 + L + 4 + 2 * g) 2).toInt32) → G MX5_take (1, 25) 163 [some (.ref 28), some (.int (nI (32 + L))), some (.int (nI 16)), some (.int 3), some (.int q), some (.int (nI (32 + L + 4))), some (.int (nI i)), none] [] (wRf Γ τ (mA S 36 F)) 0 0 (g0 (wRf Γ τ) fun S' => R0 S' w (L + 28) (V + 1) n c rm ∧ S'.1 28 3 = S.1 28 3 ∧ S'.1 28 10 = S.1 28 10 + 1 ∧ ∀ k, 39 ≤ k → S'.2.1 k = S.2.1 k) := by
  have e9 : S.1 28 9 + 12 + nI 16 = nI (L + 28) := by rw [h.1.2.1, show (12 : Int32) = nI 12 from rfl, nI_add, nI_add]
  intro m
  induction m with
  | zero =>
    intro i F hi hF
    obtain rfl : i = 8 := by omega
    refine g_iload dX5_take_163 rfl ?_
    refine g_bipush (v := 8) dX5_take_165 (by decide) ?_
    refine g_icmp_ge (tgt := 204) dX5_take_167 (by decide) (fun c167 => ?_) (fun c167 => ?_)
    · refine g_aload_n dX5_take_204 rfl rfl ?_
      refine g_get dX5_take_205 flX5_31 rfl rfl ?_
      refine g_aload_n dX5_take_208 rfl rfl ?_
      refine g_get dX5_take_209 flX5_110 rfl rfl ?_
      refine g_iconst (v := 1) dX5_take_212 (by decide) ?_
      refine p_zast dX5_take_213 rfl (by show vp_in (S.1 28 16) 100; rw [h.1.2.2.1]; exact vp_in_nI hV (by decide)) (by with_reducible first | exact wA_29 _ _ _ _ | exact wA_30 _ _ _ _ | exact wA_31 _ _ _ _ | exact wA_32 _ _ _ _ | exact wA_33 _ _ _ _ | exact wA_34 _ _ _ _ | exact wA_35 _ _ _ _ | exact wA_36 _ _ _ _ | exact wA_37 _ _ _ _ | exact wA_38 _ _ _ _ | exact wA_39 _ _ _ _ | exact wA_40 _ _ _ _ | exact wA_41 _ _ _ _ | exact wA_42 _ _ _ _ | exact wA_43 _ _ _ _ | exact wA_44 _ _ _ _ | exact wA_45 _ _ _ _ | exact wA_46 _ _ _ _ | exact wA_47 _ _ _ _) ?_
      refine g_aload_n dX5_take_214 rfl rfl ?_
      refine g_dup dX5_take_215 rfl ?_
      refine g_get dX5_take_216 flX5_110 rfl rfl ?_
      refine g_iconst (v := 1) dX5_take_219 (by decide) ?_
      refine g_iadd dX5_take_220 ?_
      refine p_put dX5_take_221 fpX5_110 rfl (Nat.le_of_ble_eq_true rfl) (fun _ => rfl) (fun _ => rfl) (by with_reducible first | exact wS_28_16 _ _ _ _) ?_
      refine g_goto (tgt := 288) dX5_take_224 (by decide) ?_
      refine g_aload_n dX5_take_288 rfl rfl ?_
      refine g_aload_n dX5_take_289 rfl rfl ?_
      refine g_get dX5_take_290 flX5_98 rfl rfl ?_
      refine g_bipush (v := 12) dX5_take_293 (by decide) ?_
      refine g_iadd dX5_take_295 ?_
      refine g_iload_n dX5_take_296 rfl rfl ?_
      refine g_iadd dX5_take_297 ?_
      refine p_put dX5_take_298 fpX5_98 rfl (Nat.le_of_ble_eq_true rfl) (fun _ => rfl) (fun _ => rfl) (by with_reducible first | exact wS_28_9 _ _ _ _) ?_
      refine g_aload_n dX5_take_301 rfl rfl ?_
      refine g_dup dX5_take_302 rfl ?_
      refine g_get dX5_take_303 flX5_101 rfl rfl ?_
      refine g_iconst (v := 1) dX5_take_306 (by decide) ?_
      refine g_iadd dX5_take_307 ?_
      refine p_put dX5_take_308 fpX5_101 rfl (Nat.le_of_ble_eq_true rfl) (fun _ => rfl) (fun _ => rfl) (by with_reducible first | exact wS_28_10 _ _ _ _) ?_
      refine g_vret dX5_take_311 rfl ⟨_, rfl, rfl, ?_⟩
      refine ⟨⟨⟨h.1.1, (by rw [mS_ne (by decide), mS_same]; exact e9), (by rw [mS_ne (by decide), mS_ne (by decide), mS_same]; show S.1 28 16 + 1 = _; rw [h.1.2.2.1, nI_1]), h.1.2.2.2.1, h.1.2.2.2.2⟩, ⟨h.2.1.1, by omega, by omega, h.2.1.2.2.2.1, by have := h.2.1.2.2.2.2.1; omega, h.2.1.2.2.2.2.2⟩, h.2.2.1, h.2.2.2.1, h.2.2.2.2.1, h.2.2.2.2.2.1, ?_⟩, rfl, rfl, fun k hk => by show (if k = 35 then _ else (if k = 36 then _ else S.2.1 k)) = S.2.1 k; rw [if_neg (by omega), if_neg (by omega)]⟩
      intro j hj
      show ∃ q : Nat, q < 65536 ∧ F j = nI q ∧ ¬ S.2.1 33 q = -1
      by_cases hj2 : j < 8 * V
      · rw [hF.1 j hj2]; exact h.2.2.2.2.2.2 j hj2
      · obtain ⟨g, rfl⟩ : ∃ g, j = 8 * V + g := ⟨j - 8 * V, by omega⟩
        rw [hF.2 g (by omega)]
        exact hq g (by omega)
    · exact absurd (show (8 : Int32) ≤ nI 8 by decide) c167
  | succ m ih =>
    intro i F hi hF
    refine g_iload dX5_take_163 rfl ?_
    refine g_bipush (v := 8) dX5_take_165 (by decide) ?_
    refine g_icmp_ge (tgt := 204) dX5_take_167 (by decide) (fun c167 => ?_) (fun c167 => ?_)
    · exact absurd c167 (nI_ge (b := 8) (by omega) (by decide))
    · refine g_aload_n dX5_take_170 rfl rfl ?_
      refine g_get dX5_take_171 flX5_35 rfl rfl ?_
      refine g_bipush (v := 8) dX5_take_174 (by decide) ?_
      refine g_aload_n dX5_take_176 rfl rfl ?_
      refine g_get dX5_take_177 flX5_110 rfl rfl ?_
      refine g_imul dX5_take_180 ?_
      refine g_iload dX5_take_181 rfl ?_
      refine g_iadd dX5_take_183 ?_
      refine g_aload_n dX5_take_184 rfl rfl ?_
      refine g_iload dX5_take_185 rfl ?_
      refine g_iconst (v := 2) dX5_take_187 (by decide) ?_
      refine g_iload dX5_take_188 rfl ?_
      refine g_imul dX5_take_190 ?_
      refine g_iadd dX5_take_191 ?_
      refine g_eqi (y := nI (32 + L + 4 + 2 * i)) (by rw [show (2 : Int32) = nI 2 from rfl, pk_mul, nI_add]) ?_
      refine g_iconst (v := 2) dX5_take_192 (by decide) ?_
      refine cV2N (fun _ _ => rfl) dX5_take_193 mlX5_137 imX5_number seX5_number rfl rfl (m_number _ (32 + L + 4 + 2 * i) 2 (by omega)) (by decide) (Nat.le_of_ble_eq_true rfl) (Nat.le_of_ble_eq_true rfl) (Nat.le_of_ble_eq_true rfl) ?_
      rintro _ _ ⟨rfl, rfl⟩
      refine g_l2i dX5_take_196 ?_
      refine p_iast dX5_take_197 rfl (by show vp_in (8 * S.1 28 16 + nI i) 800; rw [h.1.2.2.1]; exact ix_8 (by omega) (by decide)) (by with_reducible first | exact wA_29 _ _ _ _ | exact wA_30 _ _ _ _ | exact wA_31 _ _ _ _ | exact wA_32 _ _ _ _ | exact wA_33 _ _ _ _ | exact wA_34 _ _ _ _ | exact wA_35 _ _ _ _ | exact wA_36 _ _ _ _ | exact wA_37 _ _ _ _ | exact wA_38 _ _ _ _ | exact wA_39 _ _ _ _ | exact wA_40 _ _ _ _ | exact wA_41 _ _ _ _ | exact wA_42 _ _ _ _ | exact wA_43 _ _ _ _ | exact wA_44 _ _ _ _ | exact wA_45 _ _ _ _ | exact wA_46 _ _ _ _ | exact wA_47 _ _ _ _) ?_
      refine g_iinc dX5_take_198 rfl (by decide) (by first | exact gi_1 _ | exact gi_p _) ?_
      refine g_goto (tgt := 163) dX5_take_201 (by decide) ?_
      rw [mA_mA]
      refine ih (i + 1) _ (by omega) ?_
      have e8 : (8 * S.1 28 16 + nI i).toNatClampNeg = 8 * V + i := by rw [h.1.2.2.1]; exact cl8n (by omega)
      show (∀ j, j < 8 * V → upd F (8 * S.1 28 16 + nI i).toNatClampNeg _ j = _) ∧ ∀ g, g < i + 1 → upd F (8 * S.1 28 16 + nI i).toNatClampNeg _ (8 * V + g) = _
      rw [e8]
      refine ⟨fun j hj => by rw [pk_un (by omega)]; exact hF.1 j hj, fun g hg => ?_⟩
      by_cases e : g = i
      · rw [e, pk_us]; rfl
      · rw [pk_un (by omega)]; exact hF.2 g (by omega)
set_option maxRecDepth 100000 in
set_option maxHeartbeats 400000 in
theorem n_take3 (S : gS) (w L V n c rm : Nat) (h : R0 S w L V n c rm) (hf : L + 28 ≤ 24000) (hV : V < 100) (hk : S.2.1 29 (32 + L) = 3) (hq : ∀ g, g < 8 → ∃ q : Nat, q < 65536 ∧ (mnum (S.2.1 29) (32 + L + 4 + 2 * g) 2).toInt32 = nI q ∧ ¬ S.2.1 33 q = -1) : gCt MX5_take (1, 25) 0 0 [.ref 28, .int (nI (32 + L)), .int (nI 16)] (wRf Γ τ S) (g0 (wRf Γ τ) fun S' => R0 S' w (L + 28) (V + 1) n c rm ∧ S'.1 28 3 = S.1 28 3 ∧ S'.1 28 10 = S.1 28 10 + 1 ∧ ∀ k, 39 ≤ k → S'.2.1 k = S.2.1 k) := by
  refine gCt.of (ls := [some (.ref 28), some (.int (nI (32 + L))), some (.int (nI 16)), none, none, none, none, none]) 5 (by decide) rfl (Nat.le_of_ble_eq_true rfl) ?_
  refine g_aload_n dX5_take_0 rfl rfl ?_
  refine g_get dX5_take_1 flX5_7 rfl rfl ?_
  refine g_iload_n dX5_take_4 rfl rfl ?_
  refine g_iald dX5_take_5 rfl (vp_in_nI (by omega) (by decide)) ?_
  refine g_eqi (y := 3) (by rw [nI_clamp (by omega)]; exact hk) ?_
  refine g_istore_n dX5_take_6 rfl (by decide) ?_
  refine g_aload_n dX5_take_7 rfl rfl ?_
  refine g_iload_n dX5_take_8 rfl rfl ?_
  refine g_iconst (v := 1) dX5_take_9 (by decide) ?_
  refine g_iadd dX5_take_10 ?_
  refine g_eqi (y := nI (32 + L + 1)) (nI_1 _) ?_
  refine g_iconst (v := 2) dX5_take_11 (by decide) ?_
  refine cV2N (fun _ _ => rfl) dX5_take_12 mlX5_137 imX5_number seX5_number rfl rfl (m_number _ (32 + L + 1) 2 (by omega)) (by decide) (Nat.le_of_ble_eq_true rfl) (Nat.le_of_ble_eq_true rfl) (Nat.le_of_ble_eq_true rfl) ?_
  rintro _ _ ⟨rfl, rfl⟩
  refine g_l2i dX5_take_15 ?_
  refine g_istore dX5_take_16 (by decide) ?_
  refine g_iload_n dX5_take_18 rfl rfl ?_
  refine g_iconst (v := 4) dX5_take_19 (by decide) ?_
  refine g_iadd dX5_take_20 ?_
  refine g_eqi (y := nI (32 + L + 4)) (nI_add _ 4) ?_
  refine g_istore dX5_take_21 (by decide) ?_
  refine g_iload_n dX5_take_23 rfl rfl ?_
  refine g_iconst (v := 1) dX5_take_24 (by decide) ?_
  refine g_icmp_ne (tgt := 97) dX5_take_25 (by decide) (fun c25 => ?_) (fun c25 => ?_)
  · refine g_iload_n dX5_take_97 rfl rfl ?_
    refine g_iconst (v := 2) dX5_take_98 (by decide) ?_
    refine g_icmp_ne (tgt := 155) dX5_take_99 (by decide) (fun c99 => ?_) (fun c99 => ?_)
    · refine g_iload_n dX5_take_155 rfl rfl ?_
      refine g_iconst (v := 3) dX5_take_156 (by decide) ?_
      refine g_icmp_ne (tgt := 227) dX5_take_157 (by decide) (fun c157 => ?_) (fun c157 => ?_)
      · exact absurd rfl c157
      · refine g_iconst (v := 0) dX5_take_160 (by decide) ?_
        refine g_istore dX5_take_161 (by decide) ?_
        have e3 := ln_take3 (Γ := Γ) (τ := τ) S w L V n c rm h hf hV ((mnum (S.2.1 29) (32 + L + 1) 2).toInt32) hq 8 0 (S.2.1 36) rfl ⟨fun _ _ => rfl, fun g hg => absurd hg (Nat.not_lt_zero _)⟩
        rw [mA_self] at e3
        exact e3
    · exact absurd c99 (by decide)
  · exact absurd c25 (by decide)
end
